/-! texts of the class: where one is no ID -/
theorem cc_Id_isNameCharacter (l : Launch) (D : va_G) (z : Nat) (M : mw_M) (c0 : Nat) (b0 : Bool) (hc : c0 < 256) : mw_C l yy_Id_isNameCharacter bb_Id_isNameCharacter 2 (Option.some Jvm.ClassFile.FieldType.boolean) 0 0 0 0 D z M [.int (nI c0), .int (zI b0)] (fun v M' => v = some (.int (zI (if b0 = true then nc_s c0 else nc_d c0))) ∧ M' = M) := by
  refine mw_of (by decide) (Nat.le_of_ble_eq_true rfl) ?_
  intro p e s m below meth c ls E hr hk hnm hM hl
  have hx := E.x
  have hb := E.b
  have E : mw_E p m c bb_Id_isNameCharacter 2 s _ D z "IdentityIssuer$Ids" := E
  have hl : lv_has ls 2 [(0, .int (nI c0)), (1, .int (zI b0))] := hl
  have hS : va_S (mw_A z) s.heap s.heap [] := va_S.rf
  refine lv_iload_n hx hb dd_Id_isNameCharacter_0 rfl (lv_at hl 0 rfl) ?_
  refine lv_bipush (v := nI 97) hx hb dd_Id_isNameCharacter_1 (by decide) ?_
  refine lv_icmp_lt (tgt := 12) hx hb dd_Id_isNameCharacter_3 (by decide) (fun h3 => ?_) (fun h3 => ?_)
  ·
    rw [nI_ltI (by omega) (by omega)] at h3
    refine lv_iload_n hx hb dd_Id_isNameCharacter_12 rfl (lv_at hl 0 rfl) ?_
    refine lv_bipush (v := nI 48) hx hb dd_Id_isNameCharacter_13 (by decide) ?_
    refine lv_icmp_lt (tgt := 24) hx hb dd_Id_isNameCharacter_15 (by decide) (fun h15 => ?_) (fun h15 => ?_)
    ·
      rw [nI_ltI (by omega) (by omega)] at h15
      refine lv_iload_n hx hb dd_Id_isNameCharacter_24 rfl (lv_at hl 0 rfl) ?_
      refine lv_bipush (v := nI 46) hx hb dd_Id_isNameCharacter_25 (by decide) ?_
      refine lv_icmp_eq (tgt := 58) hx hb dd_Id_isNameCharacter_27 (by decide) (fun h27 => ?_) (fun h27 => ?_)
      ·
        rw [nI_eq (by omega) (by omega)] at h27
        refine lv_iconst (v := nI 1) hx hb dd_Id_isNameCharacter_58 (by decide) ?_
        refine lv_goto (tgt := 63) hx hb dd_Id_isNameCharacter_59 (by decide) ?_
        refine mr_z E hr hk hM hS (by decide) (by decide) (rfl) ?_ dd_Id_isNameCharacter_63
        have hb : (if b0 = true then nc_s c0 else nc_d c0) = true := by
          cases b0
          · first
            | exact absurd (show zI false = 0 from rfl) h43
            | (show nc_d c0 = true; unfold nc_d; exact decide_eq_true (by omega))
          · show nc_s c0 = true
            unfold nc_s
            exact decide_eq_true (by omega)
        exact ⟨by rw [hb]; rfl, rfl⟩
      ·
        rw [nI_eq (by omega) (by omega)] at h27
        refine lv_iload_n hx hb dd_Id_isNameCharacter_30 rfl (lv_at hl 0 rfl) ?_
        refine lv_bipush (v := nI 45) hx hb dd_Id_isNameCharacter_31 (by decide) ?_
        refine lv_icmp_eq (tgt := 58) hx hb dd_Id_isNameCharacter_33 (by decide) (fun h33 => ?_) (fun h33 => ?_)
        ·
          rw [nI_eq (by omega) (by omega)] at h33
          refine lv_iconst (v := nI 1) hx hb dd_Id_isNameCharacter_58 (by decide) ?_
          refine lv_goto (tgt := 63) hx hb dd_Id_isNameCharacter_59 (by decide) ?_
          refine mr_z E hr hk hM hS (by decide) (by decide) (rfl) ?_ dd_Id_isNameCharacter_63
          have hb : (if b0 = true then nc_s c0 else nc_d c0) = true := by
            cases b0
            · first
              | exact absurd (show zI false = 0 from rfl) h43
              | (show nc_d c0 = true; unfold nc_d; exact decide_eq_true (by omega))
            · show nc_s c0 = true
              unfold nc_s
              exact decide_eq_true (by omega)
          exact ⟨by rw [hb]; rfl, rfl⟩
        ·
          rw [nI_eq (by omega) (by omega)] at h33
          refine lv_iload_n hx hb dd_Id_isNameCharacter_36 rfl (lv_at hl 0 rfl) ?_
          refine lv_bipush (v := nI 95) hx hb dd_Id_isNameCharacter_37 (by decide) ?_
          refine lv_icmp_eq (tgt := 58) hx hb dd_Id_isNameCharacter_39 (by decide) (fun h39 => ?_) (fun h39 => ?_)
          ·
            rw [nI_eq (by omega) (by omega)] at h39
            refine lv_iconst (v := nI 1) hx hb dd_Id_isNameCharacter_58 (by decide) ?_
            refine lv_goto (tgt := 63) hx hb dd_Id_isNameCharacter_59 (by decide) ?_
            refine mr_z E hr hk hM hS (by decide) (by decide) (rfl) ?_ dd_Id_isNameCharacter_63
            have hb : (if b0 = true then nc_s c0 else nc_d c0) = true := by
              cases b0
              · first
                | exact absurd (show zI false = 0 from rfl) h43
                | (show nc_d c0 = true; unfold nc_d; exact decide_eq_true (by omega))
              · show nc_s c0 = true
                unfold nc_s
                exact decide_eq_true (by omega)
            exact ⟨by rw [hb]; rfl, rfl⟩
          ·
            rw [nI_eq (by omega) (by omega)] at h39
            refine lv_iload_n hx hb dd_Id_isNameCharacter_42 rfl (lv_at hl 1 rfl) ?_
            refine lv_if_eq (tgt := 62) hx hb dd_Id_isNameCharacter_43 (by decide) (fun h43 => ?_) (fun h43 => ?_)
            ·
              refine lv_iconst (v := nI 0) hx hb dd_Id_isNameCharacter_62 (by decide) ?_
              refine mr_z E hr hk hM hS (by decide) (by decide) (rfl) ?_ dd_Id_isNameCharacter_63
              have hb : (if b0 = true then nc_s c0 else nc_d c0) = false := by
                cases b0
                · show nc_d c0 = false
                  unfold nc_d
                  exact decide_eq_false (by omega)
                · first
                  | exact absurd h43 (by decide)
                  | (show nc_s c0 = false; unfold nc_s; exact decide_eq_false (by omega))
              exact ⟨by rw [hb]; rfl, rfl⟩
            ·
              refine lv_iload_n hx hb dd_Id_isNameCharacter_46 rfl (lv_at hl 0 rfl) ?_
              refine lv_bipush (v := nI 65) hx hb dd_Id_isNameCharacter_47 (by decide) ?_
              refine lv_icmp_lt (tgt := 62) hx hb dd_Id_isNameCharacter_49 (by decide) (fun h49 => ?_) (fun h49 => ?_)
              ·
                rw [nI_ltI (by omega) (by omega)] at h49
                refine lv_iconst (v := nI 0) hx hb dd_Id_isNameCharacter_62 (by decide) ?_
                refine mr_z E hr hk hM hS (by decide) (by decide) (rfl) ?_ dd_Id_isNameCharacter_63
                have hb : (if b0 = true then nc_s c0 else nc_d c0) = false := by
                  cases b0
                  · show nc_d c0 = false
                    unfold nc_d
                    exact decide_eq_false (by omega)
                  · first
                    | exact absurd h43 (by decide)
                    | (show nc_s c0 = false; unfold nc_s; exact decide_eq_false (by omega))
                exact ⟨by rw [hb]; rfl, rfl⟩
              ·
                rw [nI_ltI (by omega) (by omega)] at h49
                refine lv_iload_n hx hb dd_Id_isNameCharacter_52 rfl (lv_at hl 0 rfl) ?_
                refine lv_bipush (v := nI 90) hx hb dd_Id_isNameCharacter_53 (by decide) ?_
                refine lv_icmp_gt (tgt := 62) hx hb dd_Id_isNameCharacter_55 (by decide) (fun h55 => ?_) (fun h55 => ?_)
                ·
                  rw [nI_ltI (by omega) (by omega)] at h55
                  refine lv_iconst (v := nI 0) hx hb dd_Id_isNameCharacter_62 (by decide) ?_
                  refine mr_z E hr hk hM hS (by decide) (by decide) (rfl) ?_ dd_Id_isNameCharacter_63
                  have hb : (if b0 = true then nc_s c0 else nc_d c0) = false := by
                    cases b0
                    · show nc_d c0 = false
                      unfold nc_d
                      exact decide_eq_false (by omega)
                    · first
                      | exact absurd h43 (by decide)
                      | (show nc_s c0 = false; unfold nc_s; exact decide_eq_false (by omega))
                  exact ⟨by rw [hb]; rfl, rfl⟩
                ·
                  rw [nI_ltI (by omega) (by omega)] at h55
                  refine lv_iconst (v := nI 1) hx hb dd_Id_isNameCharacter_58 (by decide) ?_
                  refine lv_goto (tgt := 63) hx hb dd_Id_isNameCharacter_59 (by decide) ?_
                  refine mr_z E hr hk hM hS (by decide) (by decide) (rfl) ?_ dd_Id_isNameCharacter_63
                  have hb : (if b0 = true then nc_s c0 else nc_d c0) = true := by
                    cases b0
                    · first
                      | exact absurd (show zI false = 0 from rfl) h43
                      | (show nc_d c0 = true; unfold nc_d; exact decide_eq_true (by omega))
                    · show nc_s c0 = true
                      unfold nc_s
                      exact decide_eq_true (by omega)
                  exact ⟨by rw [hb]; rfl, rfl⟩
    ·
      rw [nI_ltI (by omega) (by omega)] at h15
      refine lv_iload_n hx hb dd_Id_isNameCharacter_18 rfl (lv_at hl 0 rfl) ?_
      refine lv_bipush (v := nI 57) hx hb dd_Id_isNameCharacter_19 (by decide) ?_
      refine lv_icmp_le (tgt := 58) hx hb dd_Id_isNameCharacter_21 (by decide) (fun h21 => ?_) (fun h21 => ?_)
      ·
        rw [nI_leI (by omega) (by omega)] at h21
        refine lv_iconst (v := nI 1) hx hb dd_Id_isNameCharacter_58 (by decide) ?_
        refine lv_goto (tgt := 63) hx hb dd_Id_isNameCharacter_59 (by decide) ?_
        refine mr_z E hr hk hM hS (by decide) (by decide) (rfl) ?_ dd_Id_isNameCharacter_63
        have hb : (if b0 = true then nc_s c0 else nc_d c0) = true := by
          cases b0
          · first
            | exact absurd (show zI false = 0 from rfl) h43
            | (show nc_d c0 = true; unfold nc_d; exact decide_eq_true (by omega))
          · show nc_s c0 = true
            unfold nc_s
            exact decide_eq_true (by omega)
        exact ⟨by rw [hb]; rfl, rfl⟩
      ·
        rw [nI_leI (by omega) (by omega)] at h21
        refine lv_iload_n hx hb dd_Id_isNameCharacter_24 rfl (lv_at hl 0 rfl) ?_
        refine lv_bipush (v := nI 46) hx hb dd_Id_isNameCharacter_25 (by decide) ?_
        refine lv_icmp_eq (tgt := 58) hx hb dd_Id_isNameCharacter_27 (by decide) (fun h27 => ?_) (fun h27 => ?_)
        ·
          rw [nI_eq (by omega) (by omega)] at h27
          refine lv_iconst (v := nI 1) hx hb dd_Id_isNameCharacter_58 (by decide) ?_
          refine lv_goto (tgt := 63) hx hb dd_Id_isNameCharacter_59 (by decide) ?_
          refine mr_z E hr hk hM hS (by decide) (by decide) (rfl) ?_ dd_Id_isNameCharacter_63
          have hb : (if b0 = true then nc_s c0 else nc_d c0) = true := by
            cases b0
            · first
              | exact absurd (show zI false = 0 from rfl) h43
              | (show nc_d c0 = true; unfold nc_d; exact decide_eq_true (by omega))
            · show nc_s c0 = true
              unfold nc_s
              exact decide_eq_true (by omega)
          exact ⟨by rw [hb]; rfl, rfl⟩
        ·
          rw [nI_eq (by omega) (by omega)] at h27
          refine lv_iload_n hx hb dd_Id_isNameCharacter_30 rfl (lv_at hl 0 rfl) ?_
          refine lv_bipush (v := nI 45) hx hb dd_Id_isNameCharacter_31 (by decide) ?_
          refine lv_icmp_eq (tgt := 58) hx hb dd_Id_isNameCharacter_33 (by decide) (fun h33 => ?_) (fun h33 => ?_)
          ·
            rw [nI_eq (by omega) (by omega)] at h33
            refine lv_iconst (v := nI 1) hx hb dd_Id_isNameCharacter_58 (by decide) ?_
            refine lv_goto (tgt := 63) hx hb dd_Id_isNameCharacter_59 (by decide) ?_
            refine mr_z E hr hk hM hS (by decide) (by decide) (rfl) ?_ dd_Id_isNameCharacter_63
            have hb : (if b0 = true then nc_s c0 else nc_d c0) = true := by
              cases b0
              · first
                | exact absurd (show zI false = 0 from rfl) h43
                | (show nc_d c0 = true; unfold nc_d; exact decide_eq_true (by omega))
              · show nc_s c0 = true
                unfold nc_s
                exact decide_eq_true (by omega)
            exact ⟨by rw [hb]; rfl, rfl⟩
          ·
            rw [nI_eq (by omega) (by omega)] at h33
            refine lv_iload_n hx hb dd_Id_isNameCharacter_36 rfl (lv_at hl 0 rfl) ?_
            refine lv_bipush (v := nI 95) hx hb dd_Id_isNameCharacter_37 (by decide) ?_
            refine lv_icmp_eq (tgt := 58) hx hb dd_Id_isNameCharacter_39 (by decide) (fun h39 => ?_) (fun h39 => ?_)
            ·
              rw [nI_eq (by omega) (by omega)] at h39
              refine lv_iconst (v := nI 1) hx hb dd_Id_isNameCharacter_58 (by decide) ?_
              refine lv_goto (tgt := 63) hx hb dd_Id_isNameCharacter_59 (by decide) ?_
              refine mr_z E hr hk hM hS (by decide) (by decide) (rfl) ?_ dd_Id_isNameCharacter_63
              have hb : (if b0 = true then nc_s c0 else nc_d c0) = true := by
                cases b0
                · first
                  | exact absurd (show zI false = 0 from rfl) h43
                  | (show nc_d c0 = true; unfold nc_d; exact decide_eq_true (by omega))
                · show nc_s c0 = true
                  unfold nc_s
                  exact decide_eq_true (by omega)
              exact ⟨by rw [hb]; rfl, rfl⟩
            ·
              rw [nI_eq (by omega) (by omega)] at h39
              refine lv_iload_n hx hb dd_Id_isNameCharacter_42 rfl (lv_at hl 1 rfl) ?_
              refine lv_if_eq (tgt := 62) hx hb dd_Id_isNameCharacter_43 (by decide) (fun h43 => ?_) (fun h43 => ?_)
              ·
                refine lv_iconst (v := nI 0) hx hb dd_Id_isNameCharacter_62 (by decide) ?_
                refine mr_z E hr hk hM hS (by decide) (by decide) (rfl) ?_ dd_Id_isNameCharacter_63
                have hb : (if b0 = true then nc_s c0 else nc_d c0) = false := by
                  cases b0
                  · show nc_d c0 = false
                    unfold nc_d
                    exact decide_eq_false (by omega)
                  · first
                    | exact absurd h43 (by decide)
                    | (show nc_s c0 = false; unfold nc_s; exact decide_eq_false (by omega))
                exact ⟨by rw [hb]; rfl, rfl⟩
              ·
                refine lv_iload_n hx hb dd_Id_isNameCharacter_46 rfl (lv_at hl 0 rfl) ?_
                refine lv_bipush (v := nI 65) hx hb dd_Id_isNameCharacter_47 (by decide) ?_
                refine lv_icmp_lt (tgt := 62) hx hb dd_Id_isNameCharacter_49 (by decide) (fun h49 => ?_) (fun h49 => ?_)
                ·
                  rw [nI_ltI (by omega) (by omega)] at h49
                  refine lv_iconst (v := nI 0) hx hb dd_Id_isNameCharacter_62 (by decide) ?_
                  refine mr_z E hr hk hM hS (by decide) (by decide) (rfl) ?_ dd_Id_isNameCharacter_63
                  have hb : (if b0 = true then nc_s c0 else nc_d c0) = false := by
                    cases b0
                    · show nc_d c0 = false
                      unfold nc_d
                      exact decide_eq_false (by omega)
                    · first
                      | exact absurd h43 (by decide)
                      | (show nc_s c0 = false; unfold nc_s; exact decide_eq_false (by omega))
                  exact ⟨by rw [hb]; rfl, rfl⟩
                ·
                  rw [nI_ltI (by omega) (by omega)] at h49
                  refine lv_iload_n hx hb dd_Id_isNameCharacter_52 rfl (lv_at hl 0 rfl) ?_
                  refine lv_bipush (v := nI 90) hx hb dd_Id_isNameCharacter_53 (by decide) ?_
                  refine lv_icmp_gt (tgt := 62) hx hb dd_Id_isNameCharacter_55 (by decide) (fun h55 => ?_) (fun h55 => ?_)
                  ·
                    rw [nI_ltI (by omega) (by omega)] at h55
                    refine lv_iconst (v := nI 0) hx hb dd_Id_isNameCharacter_62 (by decide) ?_
                    refine mr_z E hr hk hM hS (by decide) (by decide) (rfl) ?_ dd_Id_isNameCharacter_63
                    have hb : (if b0 = true then nc_s c0 else nc_d c0) = false := by
                      cases b0
                      · show nc_d c0 = false
                        unfold nc_d
                        exact decide_eq_false (by omega)
                      · first
                        | exact absurd h43 (by decide)
                        | (show nc_s c0 = false; unfold nc_s; exact decide_eq_false (by omega))
                    exact ⟨by rw [hb]; rfl, rfl⟩
                  ·
                    rw [nI_ltI (by omega) (by omega)] at h55
                    refine lv_iconst (v := nI 1) hx hb dd_Id_isNameCharacter_58 (by decide) ?_
                    refine lv_goto (tgt := 63) hx hb dd_Id_isNameCharacter_59 (by decide) ?_
                    refine mr_z E hr hk hM hS (by decide) (by decide) (rfl) ?_ dd_Id_isNameCharacter_63
                    have hb : (if b0 = true then nc_s c0 else nc_d c0) = true := by
                      cases b0
                      · first
                        | exact absurd (show zI false = 0 from rfl) h43
                        | (show nc_d c0 = true; unfold nc_d; exact decide_eq_true (by omega))
                      · show nc_s c0 = true
                        unfold nc_s
                        exact decide_eq_true (by omega)
                    exact ⟨by rw [hb]; rfl, rfl⟩
  ·
    rw [nI_ltI (by omega) (by omega)] at h3
    refine lv_iload_n hx hb dd_Id_isNameCharacter_6 rfl (lv_at hl 0 rfl) ?_
    refine lv_bipush (v := nI 122) hx hb dd_Id_isNameCharacter_7 (by decide) ?_
    refine lv_icmp_le (tgt := 58) hx hb dd_Id_isNameCharacter_9 (by decide) (fun h9 => ?_) (fun h9 => ?_)
    ·
      rw [nI_leI (by omega) (by omega)] at h9
      refine lv_iconst (v := nI 1) hx hb dd_Id_isNameCharacter_58 (by decide) ?_
      refine lv_goto (tgt := 63) hx hb dd_Id_isNameCharacter_59 (by decide) ?_
      refine mr_z E hr hk hM hS (by decide) (by decide) (rfl) ?_ dd_Id_isNameCharacter_63
      have hb : (if b0 = true then nc_s c0 else nc_d c0) = true := by
        cases b0
        · first
          | exact absurd (show zI false = 0 from rfl) h43
          | (show nc_d c0 = true; unfold nc_d; exact decide_eq_true (by omega))
        · show nc_s c0 = true
          unfold nc_s
          exact decide_eq_true (by omega)
      exact ⟨by rw [hb]; rfl, rfl⟩
    ·
      rw [nI_leI (by omega) (by omega)] at h9
      refine lv_iload_n hx hb dd_Id_isNameCharacter_12 rfl (lv_at hl 0 rfl) ?_
      refine lv_bipush (v := nI 48) hx hb dd_Id_isNameCharacter_13 (by decide) ?_
      refine lv_icmp_lt (tgt := 24) hx hb dd_Id_isNameCharacter_15 (by decide) (fun h15 => ?_) (fun h15 => ?_)
      ·
        rw [nI_ltI (by omega) (by omega)] at h15
        refine lv_iload_n hx hb dd_Id_isNameCharacter_24 rfl (lv_at hl 0 rfl) ?_
        refine lv_bipush (v := nI 46) hx hb dd_Id_isNameCharacter_25 (by decide) ?_
        refine lv_icmp_eq (tgt := 58) hx hb dd_Id_isNameCharacter_27 (by decide) (fun h27 => ?_) (fun h27 => ?_)
        ·
          rw [nI_eq (by omega) (by omega)] at h27
          refine lv_iconst (v := nI 1) hx hb dd_Id_isNameCharacter_58 (by decide) ?_
          refine lv_goto (tgt := 63) hx hb dd_Id_isNameCharacter_59 (by decide) ?_
          refine mr_z E hr hk hM hS (by decide) (by decide) (rfl) ?_ dd_Id_isNameCharacter_63
          have hb : (if b0 = true then nc_s c0 else nc_d c0) = true := by
            cases b0
            · first
              | exact absurd (show zI false = 0 from rfl) h43
              | (show nc_d c0 = true; unfold nc_d; exact decide_eq_true (by omega))
            · show nc_s c0 = true
              unfold nc_s
              exact decide_eq_true (by omega)
          exact ⟨by rw [hb]; rfl, rfl⟩
        ·
          rw [nI_eq (by omega) (by omega)] at h27
          refine lv_iload_n hx hb dd_Id_isNameCharacter_30 rfl (lv_at hl 0 rfl) ?_
          refine lv_bipush (v := nI 45) hx hb dd_Id_isNameCharacter_31 (by decide) ?_
          refine lv_icmp_eq (tgt := 58) hx hb dd_Id_isNameCharacter_33 (by decide) (fun h33 => ?_) (fun h33 => ?_)
          ·
            rw [nI_eq (by omega) (by omega)] at h33
            refine lv_iconst (v := nI 1) hx hb dd_Id_isNameCharacter_58 (by decide) ?_
            refine lv_goto (tgt := 63) hx hb dd_Id_isNameCharacter_59 (by decide) ?_
            refine mr_z E hr hk hM hS (by decide) (by decide) (rfl) ?_ dd_Id_isNameCharacter_63
            have hb : (if b0 = true then nc_s c0 else nc_d c0) = true := by
              cases b0
              · first
                | exact absurd (show zI false = 0 from rfl) h43
                | (show nc_d c0 = true; unfold nc_d; exact decide_eq_true (by omega))
              · show nc_s c0 = true
                unfold nc_s
                exact decide_eq_true (by omega)
            exact ⟨by rw [hb]; rfl, rfl⟩
          ·
            rw [nI_eq (by omega) (by omega)] at h33
            refine lv_iload_n hx hb dd_Id_isNameCharacter_36 rfl (lv_at hl 0 rfl) ?_
            refine lv_bipush (v := nI 95) hx hb dd_Id_isNameCharacter_37 (by decide) ?_
            refine lv_icmp_eq (tgt := 58) hx hb dd_Id_isNameCharacter_39 (by decide) (fun h39 => ?_) (fun h39 => ?_)
            ·
              rw [nI_eq (by omega) (by omega)] at h39
              refine lv_iconst (v := nI 1) hx hb dd_Id_isNameCharacter_58 (by decide) ?_
              refine lv_goto (tgt := 63) hx hb dd_Id_isNameCharacter_59 (by decide) ?_
              refine mr_z E hr hk hM hS (by decide) (by decide) (rfl) ?_ dd_Id_isNameCharacter_63
              have hb : (if b0 = true then nc_s c0 else nc_d c0) = true := by
                cases b0
                · first
                  | exact absurd (show zI false = 0 from rfl) h43
                  | (show nc_d c0 = true; unfold nc_d; exact decide_eq_true (by omega))
                · show nc_s c0 = true
                  unfold nc_s
                  exact decide_eq_true (by omega)
              exact ⟨by rw [hb]; rfl, rfl⟩
            ·
              rw [nI_eq (by omega) (by omega)] at h39
              refine lv_iload_n hx hb dd_Id_isNameCharacter_42 rfl (lv_at hl 1 rfl) ?_
              refine lv_if_eq (tgt := 62) hx hb dd_Id_isNameCharacter_43 (by decide) (fun h43 => ?_) (fun h43 => ?_)
              ·
                refine lv_iconst (v := nI 0) hx hb dd_Id_isNameCharacter_62 (by decide) ?_
                refine mr_z E hr hk hM hS (by decide) (by decide) (rfl) ?_ dd_Id_isNameCharacter_63
                have hb : (if b0 = true then nc_s c0 else nc_d c0) = false := by
                  cases b0
                  · show nc_d c0 = false
                    unfold nc_d
                    exact decide_eq_false (by omega)
                  · first
                    | exact absurd h43 (by decide)
                    | (show nc_s c0 = false; unfold nc_s; exact decide_eq_false (by omega))
                exact ⟨by rw [hb]; rfl, rfl⟩
              ·
                refine lv_iload_n hx hb dd_Id_isNameCharacter_46 rfl (lv_at hl 0 rfl) ?_
                refine lv_bipush (v := nI 65) hx hb dd_Id_isNameCharacter_47 (by decide) ?_
                refine lv_icmp_lt (tgt := 62) hx hb dd_Id_isNameCharacter_49 (by decide) (fun h49 => ?_) (fun h49 => ?_)
                ·
                  rw [nI_ltI (by omega) (by omega)] at h49
                  refine lv_iconst (v := nI 0) hx hb dd_Id_isNameCharacter_62 (by decide) ?_
                  refine mr_z E hr hk hM hS (by decide) (by decide) (rfl) ?_ dd_Id_isNameCharacter_63
                  have hb : (if b0 = true then nc_s c0 else nc_d c0) = false := by
                    cases b0
                    · show nc_d c0 = false
                      unfold nc_d
                      exact decide_eq_false (by omega)
                    · first
                      | exact absurd h43 (by decide)
                      | (show nc_s c0 = false; unfold nc_s; exact decide_eq_false (by omega))
                  exact ⟨by rw [hb]; rfl, rfl⟩
                ·
                  rw [nI_ltI (by omega) (by omega)] at h49
                  refine lv_iload_n hx hb dd_Id_isNameCharacter_52 rfl (lv_at hl 0 rfl) ?_
                  refine lv_bipush (v := nI 90) hx hb dd_Id_isNameCharacter_53 (by decide) ?_
                  refine lv_icmp_gt (tgt := 62) hx hb dd_Id_isNameCharacter_55 (by decide) (fun h55 => ?_) (fun h55 => ?_)
                  ·
                    rw [nI_ltI (by omega) (by omega)] at h55
                    refine lv_iconst (v := nI 0) hx hb dd_Id_isNameCharacter_62 (by decide) ?_
                    refine mr_z E hr hk hM hS (by decide) (by decide) (rfl) ?_ dd_Id_isNameCharacter_63
                    have hb : (if b0 = true then nc_s c0 else nc_d c0) = false := by
                      cases b0
                      · show nc_d c0 = false
                        unfold nc_d
                        exact decide_eq_false (by omega)
                      · first
                        | exact absurd h43 (by decide)
                        | (show nc_s c0 = false; unfold nc_s; exact decide_eq_false (by omega))
                    exact ⟨by rw [hb]; rfl, rfl⟩
                  ·
                    rw [nI_ltI (by omega) (by omega)] at h55
                    refine lv_iconst (v := nI 1) hx hb dd_Id_isNameCharacter_58 (by decide) ?_
                    refine lv_goto (tgt := 63) hx hb dd_Id_isNameCharacter_59 (by decide) ?_
                    refine mr_z E hr hk hM hS (by decide) (by decide) (rfl) ?_ dd_Id_isNameCharacter_63
                    have hb : (if b0 = true then nc_s c0 else nc_d c0) = true := by
                      cases b0
                      · first
                        | exact absurd (show zI false = 0 from rfl) h43
                        | (show nc_d c0 = true; unfold nc_d; exact decide_eq_true (by omega))
                      · show nc_s c0 = true
                        unfold nc_s
                        exact decide_eq_true (by omega)
                    exact ⟨by rw [hb]; rfl, rfl⟩
      ·
        rw [nI_ltI (by omega) (by omega)] at h15
        refine lv_iload_n hx hb dd_Id_isNameCharacter_18 rfl (lv_at hl 0 rfl) ?_
        refine lv_bipush (v := nI 57) hx hb dd_Id_isNameCharacter_19 (by decide) ?_
        refine lv_icmp_le (tgt := 58) hx hb dd_Id_isNameCharacter_21 (by decide) (fun h21 => ?_) (fun h21 => ?_)
        ·
          rw [nI_leI (by omega) (by omega)] at h21
          refine lv_iconst (v := nI 1) hx hb dd_Id_isNameCharacter_58 (by decide) ?_
          refine lv_goto (tgt := 63) hx hb dd_Id_isNameCharacter_59 (by decide) ?_
          refine mr_z E hr hk hM hS (by decide) (by decide) (rfl) ?_ dd_Id_isNameCharacter_63
          have hb : (if b0 = true then nc_s c0 else nc_d c0) = true := by
            cases b0
            · first
              | exact absurd (show zI false = 0 from rfl) h43
              | (show nc_d c0 = true; unfold nc_d; exact decide_eq_true (by omega))
            · show nc_s c0 = true
              unfold nc_s
              exact decide_eq_true (by omega)
          exact ⟨by rw [hb]; rfl, rfl⟩
        ·
          rw [nI_leI (by omega) (by omega)] at h21
          refine lv_iload_n hx hb dd_Id_isNameCharacter_24 rfl (lv_at hl 0 rfl) ?_
          refine lv_bipush (v := nI 46) hx hb dd_Id_isNameCharacter_25 (by decide) ?_
          refine lv_icmp_eq (tgt := 58) hx hb dd_Id_isNameCharacter_27 (by decide) (fun h27 => ?_) (fun h27 => ?_)
          ·
            rw [nI_eq (by omega) (by omega)] at h27
            refine lv_iconst (v := nI 1) hx hb dd_Id_isNameCharacter_58 (by decide) ?_
            refine lv_goto (tgt := 63) hx hb dd_Id_isNameCharacter_59 (by decide) ?_
            refine mr_z E hr hk hM hS (by decide) (by decide) (rfl) ?_ dd_Id_isNameCharacter_63
            have hb : (if b0 = true then nc_s c0 else nc_d c0) = true := by
              cases b0
              · first
                | exact absurd (show zI false = 0 from rfl) h43
                | (show nc_d c0 = true; unfold nc_d; exact decide_eq_true (by omega))
              · show nc_s c0 = true
                unfold nc_s
                exact decide_eq_true (by omega)
            exact ⟨by rw [hb]; rfl, rfl⟩
          ·
            rw [nI_eq (by omega) (by omega)] at h27
            refine lv_iload_n hx hb dd_Id_isNameCharacter_30 rfl (lv_at hl 0 rfl) ?_
            refine lv_bipush (v := nI 45) hx hb dd_Id_isNameCharacter_31 (by decide) ?_
            refine lv_icmp_eq (tgt := 58) hx hb dd_Id_isNameCharacter_33 (by decide) (fun h33 => ?_) (fun h33 => ?_)
            ·
              rw [nI_eq (by omega) (by omega)] at h33
              refine lv_iconst (v := nI 1) hx hb dd_Id_isNameCharacter_58 (by decide) ?_
              refine lv_goto (tgt := 63) hx hb dd_Id_isNameCharacter_59 (by decide) ?_
              refine mr_z E hr hk hM hS (by decide) (by decide) (rfl) ?_ dd_Id_isNameCharacter_63
              have hb : (if b0 = true then nc_s c0 else nc_d c0) = true := by
                cases b0
                · first
                  | exact absurd (show zI false = 0 from rfl) h43
                  | (show nc_d c0 = true; unfold nc_d; exact decide_eq_true (by omega))
                · show nc_s c0 = true
                  unfold nc_s
                  exact decide_eq_true (by omega)
              exact ⟨by rw [hb]; rfl, rfl⟩
            ·
              rw [nI_eq (by omega) (by omega)] at h33
              refine lv_iload_n hx hb dd_Id_isNameCharacter_36 rfl (lv_at hl 0 rfl) ?_
              refine lv_bipush (v := nI 95) hx hb dd_Id_isNameCharacter_37 (by decide) ?_
              refine lv_icmp_eq (tgt := 58) hx hb dd_Id_isNameCharacter_39 (by decide) (fun h39 => ?_) (fun h39 => ?_)
              ·
                rw [nI_eq (by omega) (by omega)] at h39
                refine lv_iconst (v := nI 1) hx hb dd_Id_isNameCharacter_58 (by decide) ?_
                refine lv_goto (tgt := 63) hx hb dd_Id_isNameCharacter_59 (by decide) ?_
                refine mr_z E hr hk hM hS (by decide) (by decide) (rfl) ?_ dd_Id_isNameCharacter_63
                have hb : (if b0 = true then nc_s c0 else nc_d c0) = true := by
                  cases b0
                  · first
                    | exact absurd (show zI false = 0 from rfl) h43
                    | (show nc_d c0 = true; unfold nc_d; exact decide_eq_true (by omega))
                  · show nc_s c0 = true
                    unfold nc_s
                    exact decide_eq_true (by omega)
                exact ⟨by rw [hb]; rfl, rfl⟩
              ·
                rw [nI_eq (by omega) (by omega)] at h39
                refine lv_iload_n hx hb dd_Id_isNameCharacter_42 rfl (lv_at hl 1 rfl) ?_
                refine lv_if_eq (tgt := 62) hx hb dd_Id_isNameCharacter_43 (by decide) (fun h43 => ?_) (fun h43 => ?_)
                ·
                  refine lv_iconst (v := nI 0) hx hb dd_Id_isNameCharacter_62 (by decide) ?_
                  refine mr_z E hr hk hM hS (by decide) (by decide) (rfl) ?_ dd_Id_isNameCharacter_63
                  have hb : (if b0 = true then nc_s c0 else nc_d c0) = false := by
                    cases b0
                    · show nc_d c0 = false
                      unfold nc_d
                      exact decide_eq_false (by omega)
                    · first
                      | exact absurd h43 (by decide)
                      | (show nc_s c0 = false; unfold nc_s; exact decide_eq_false (by omega))
                  exact ⟨by rw [hb]; rfl, rfl⟩
                ·
                  refine lv_iload_n hx hb dd_Id_isNameCharacter_46 rfl (lv_at hl 0 rfl) ?_
                  refine lv_bipush (v := nI 65) hx hb dd_Id_isNameCharacter_47 (by decide) ?_
                  refine lv_icmp_lt (tgt := 62) hx hb dd_Id_isNameCharacter_49 (by decide) (fun h49 => ?_) (fun h49 => ?_)
                  ·
                    rw [nI_ltI (by omega) (by omega)] at h49
                    refine lv_iconst (v := nI 0) hx hb dd_Id_isNameCharacter_62 (by decide) ?_
                    refine mr_z E hr hk hM hS (by decide) (by decide) (rfl) ?_ dd_Id_isNameCharacter_63
                    have hb : (if b0 = true then nc_s c0 else nc_d c0) = false := by
                      cases b0
                      · show nc_d c0 = false
                        unfold nc_d
                        exact decide_eq_false (by omega)
                      · first
                        | exact absurd h43 (by decide)
                        | (show nc_s c0 = false; unfold nc_s; exact decide_eq_false (by omega))
                    exact ⟨by rw [hb]; rfl, rfl⟩
                  ·
                    rw [nI_ltI (by omega) (by omega)] at h49
                    refine lv_iload_n hx hb dd_Id_isNameCharacter_52 rfl (lv_at hl 0 rfl) ?_
                    refine lv_bipush (v := nI 90) hx hb dd_Id_isNameCharacter_53 (by decide) ?_
                    refine lv_icmp_gt (tgt := 62) hx hb dd_Id_isNameCharacter_55 (by decide) (fun h55 => ?_) (fun h55 => ?_)
                    ·
                      rw [nI_ltI (by omega) (by omega)] at h55
                      refine lv_iconst (v := nI 0) hx hb dd_Id_isNameCharacter_62 (by decide) ?_
                      refine mr_z E hr hk hM hS (by decide) (by decide) (rfl) ?_ dd_Id_isNameCharacter_63
                      have hb : (if b0 = true then nc_s c0 else nc_d c0) = false := by
                        cases b0
                        · show nc_d c0 = false
                          unfold nc_d
                          exact decide_eq_false (by omega)
                        · first
                          | exact absurd h43 (by decide)
                          | (show nc_s c0 = false; unfold nc_s; exact decide_eq_false (by omega))
                      exact ⟨by rw [hb]; rfl, rfl⟩
                    ·
                      rw [nI_ltI (by omega) (by omega)] at h55
                      refine lv_iconst (v := nI 1) hx hb dd_Id_isNameCharacter_58 (by decide) ?_
                      refine lv_goto (tgt := 63) hx hb dd_Id_isNameCharacter_59 (by decide) ?_
                      refine mr_z E hr hk hM hS (by decide) (by decide) (rfl) ?_ dd_Id_isNameCharacter_63
                      have hb : (if b0 = true then nc_s c0 else nc_d c0) = true := by
                        cases b0
                        · first
                          | exact absurd (show zI false = 0 from rfl) h43
                          | (show nc_d c0 = true; unfold nc_d; exact decide_eq_true (by omega))
                        · show nc_s c0 = true
                          unfold nc_s
                          exact decide_eq_true (by omega)
                      exact ⟨by rw [hb]; rfl, rfl⟩
theorem cc_Id_schemeError (l : Launch) (D : va_G) (z : Nat) (M : mw_M) (b r : Nat) (f : Nat → Int32) (k : Nat) (g : Nat → Nat) (a n : Nat) (wb : M b = some (.inr (1, [.ref r, .int (nI k)]))) (wr : M r = some (.inl (D.1 100, 100, .inl f))) (hk0 : k ≤ 100) (hg : ∀ j : Nat, j < k → f j = nI (g j) ∧ g j < 256) (han : a + n ≤ k) : mw_C l yy_Id_schemeError bb_Id_schemeError 4 (Option.some Jvm.ClassFile.FieldType.int) 4 85 0 0 D z M [.ref b, .int (nI a), .int (nI (a + n))] (fun v M' => v = some (.int (match ie_sc g a n 9 0 with | some i => nI (a + i) | none => -1)) ∧ M' = M) := by
  refine mw_of (by decide) (Nat.le_of_ble_eq_true rfl) ?_
  intro p e s m below meth c ls E hr hk hnm hM hl
  have hx := E.x
  have hb := E.b
  have E : mw_E p m c bb_Id_schemeError 4 s _ D z "IdentityIssuer$Ids" := E
  have hl : lv_has ls 4 [(0, .ref b), (1, .int (nI a)), (2, .int (nI (a + n)))] := hl
  have hS : va_S (mw_A z) s.heap s.heap [] := va_S.rf
  refine lv_iconst (v := nI 0) hx hb dd_Id_schemeError_0 (by decide) ?_
  refine lv_istore_n (lv' := [(3, .int (nI 0)), (0, .ref b), (1, .int (nI a)), (2, .int (nI (a + n)))]) hx hb dd_Id_schemeError_1 rfl hl (by decide) rfl (fun ls hl => ?_)
  have loop2 : ∀ (d9 : Nat) (i : Nat) (H : Heap) (locs : List Loc) (ls : Array Slot), i + d9 = 9 → ie_sc g a n 9 0 = ie_sc g a n d9 i → mw_at D mg_cl z M H → va_S (mw_A z) s.heap H locs → lv_has ls 4 [(3, .int (nI i)), (0, .ref b), (1, .int (nI a)), (2, .int (nI (a + n)))] → W p l e ({ frames := 4, cells := 0, slots := 0, locals := 85 } : Room) s m ([.ref b, .int (nI a), .int (nI (a + n))] : List Value).toArray below meth c H locs (0) (0) (MQ below (mw_Q D z (fun v M' => v = some (.int (match ie_sc g a n 9 0 with | some i => nI (a + i) | none => -1)) ∧ M' = M)) ([.ref b, .int (nI a), .int (nI (a + n))] : List Value).toArray s 0 0 (mw_A z)) (F0 m 2 ls []) := by
    intro d9
    induction d9 with
    | zero =>
      intro i H locs ls hi hu hM hS hl
      refine lv_iload_n hx hb dd_Id_schemeError_2 rfl (lv_at hl 0 rfl) ?_
      refine va_ldcS hx hb E.o E.N.2.2.2.2.2.1 dd_Id_schemeError_3 ?_
      refine mw_V0 (As := []) (rest := [.int (nI i)]) E (cc_St_length l D z (M)) ky_St_length kv_St_length tw_Id_29 hM hS (vk_recv (N := 1) (i := 0) (adK := fun _ => D.2 200 4) E.Z.2.2.2.2.2.2 (by decide) hS) rfl hl.1 rfl (Nat.le_of_ble_eq_true rfl) dd_Id_schemeError_5 (by first | decide | exact ⟨by dsimp only; omega, by dsimp only; omega⟩) (by decide) (fun v M1 H locs hp hM hS => ?_)
      obtain ⟨rfl, hq⟩ := hp
      have hq := hq.symm
      subst hq
      refine W.eq (g2 := F0 m 8 ls [.int (nI 9), .int (nI i)]) rfl ?_
      refine lv_icmp_ge (tgt := 44) hx hb dd_Id_schemeError_8 (by decide) (fun h8 => ?_) (fun h8 => ?_)
      ·
        rw [nI_leI (by omega) (by omega)] at h8
        refine lv_iconst (v := -1) hx hb dd_Id_schemeError_44 (by decide) ?_
        refine mr_i E hr hk hM hS (by decide) (by decide) ?_ dd_Id_schemeError_45
        exact ⟨by rw [hu]; rfl, rfl⟩
      ·
        rw [nI_leI (by omega) (by omega)] at h8
        omega
    | succ d9 ih =>
      intro i H locs ls hi hu hM hS hl
      refine lv_iload_n hx hb dd_Id_schemeError_2 rfl (lv_at hl 0 rfl) ?_
      refine va_ldcS hx hb E.o E.N.2.2.2.2.2.1 dd_Id_schemeError_3 ?_
      refine mw_V0 (As := []) (rest := [.int (nI i)]) E (cc_St_length l D z (M)) ky_St_length kv_St_length tw_Id_29 hM hS (vk_recv (N := 1) (i := 0) (adK := fun _ => D.2 200 4) E.Z.2.2.2.2.2.2 (by decide) hS) rfl hl.1 rfl (Nat.le_of_ble_eq_true rfl) dd_Id_schemeError_5 (by first | decide | exact ⟨by dsimp only; omega, by dsimp only; omega⟩) (by decide) (fun v M1 H locs hp hM hS => ?_)
      obtain ⟨rfl, hq⟩ := hp
      have hq := hq.symm
      subst hq
      refine W.eq (g2 := F0 m 8 ls [.int (nI 9), .int (nI i)]) rfl ?_
      refine lv_icmp_ge (tgt := 44) hx hb dd_Id_schemeError_8 (by decide) (fun h8 => ?_) (fun h8 => ?_)
      ·
        rw [nI_leI (by omega) (by omega)] at h8
        omega
      ·
        rw [nI_leI (by omega) (by omega)] at h8
        refine lv_iload_n hx hb dd_Id_schemeError_11 rfl (lv_at hl 2 rfl) ?_
        refine lv_iload_n hx hb dd_Id_schemeError_12 rfl (lv_at hl 0 rfl) ?_
        refine lv_iadd hx hb dd_Id_schemeError_13 ?_
        refine mw_topi (y := nI (a + i)) (nI_add _ _) ?_
        refine lv_iload_n hx hb dd_Id_schemeError_14 rfl (lv_at hl 3 rfl) ?_
        refine lv_icmp_ge (tgt := 34) hx hb dd_Id_schemeError_15 (by decide) (fun h15 => ?_) (fun h15 => ?_)
        ·
          rw [nI_leI (by omega) (by omega)] at h15
          refine lv_iload_n hx hb dd_Id_schemeError_34 rfl (lv_at hl 2 rfl) ?_
          refine lv_iload_n hx hb dd_Id_schemeError_35 rfl (lv_at hl 0 rfl) ?_
          refine lv_iadd hx hb dd_Id_schemeError_36 ?_
          refine mw_topi (y := nI (a + i)) (nI_add _ _) ?_
          refine mr_i E hr hk hM hS (by decide) (by decide) ?_ dd_Id_schemeError_37
          exact ⟨by rw [hu, ie_sc_y (Or.inl (by omega))], rfl⟩
        ·
          rw [nI_leI (by omega) (by omega)] at h15
          refine lv_aload_n hx hb dd_Id_schemeError_18 rfl (lv_at hl 1 rfl) ?_
          refine lv_iload_n hx hb dd_Id_schemeError_19 rfl (lv_at hl 2 rfl) ?_
          refine lv_iload_n hx hb dd_Id_schemeError_20 rfl (lv_at hl 0 rfl) ?_
          refine lv_iadd hx hb dd_Id_schemeError_21 ?_
          refine mw_topi (y := nI (a + i)) (nI_add _ _) ?_
          refine mw_V (As := [.int (nI (a + i))]) (rest := []) E (cc_By_at l D z (M) b r f k (nI (a + i)) wb wr hk0) ky_By_at kv_By_at tw_Id_41 hM hS wb rfl rfl rfl hl.1 rfl (Nat.le_of_ble_eq_true rfl) dd_Id_schemeError_22 (by first | decide | exact ⟨by dsimp only; omega, by dsimp only; omega⟩) (by decide) (fun v M1 H locs hp hM hS => ?_)
          obtain ⟨rfl, hq⟩ := hp
          have hq := hq.symm
          subst hq
          refine W.eq (g2 := F0 m 25 ls [.int (by_at f k (nI (a + i)))]) rfl ?_
          refine mw_topi (y := nI (g (a + i))) ((by_at_nI (by omega) (by omega)).trans (hg (a + i) (by omega)).1) ?_
          have hb9 := (hg (a + i) (by omega)).2
          refine va_ldcS hx hb E.o E.N.2.2.2.2.2.1 dd_Id_schemeError_25 ?_
          refine lv_iload_n hx hb dd_Id_schemeError_27 rfl (lv_at hl 0 rfl) ?_
          refine mw_V0 (As := [.int (nI i)]) (rest := [.int (nI (g (a + i)))]) E (cc_St_charAt l D z (M) i (by omega)) ky_St_charAt kv_St_charAt tw_Id_47 hM hS (vk_recv (N := 1) (i := 0) (adK := fun _ => D.2 200 4) E.Z.2.2.2.2.2.2 (by decide) hS) rfl hl.1 rfl (Nat.le_of_ble_eq_true rfl) dd_Id_schemeError_28 (by first | decide | exact ⟨by dsimp only; omega, by dsimp only; omega⟩) (by decide) (fun v M1 H locs hp hM hS => ?_)
          obtain ⟨rfl, hq⟩ := hp
          have hq := hq.symm
          subst hq
          refine W.eq (g2 := F0 m 31 ls [.int (nI (ie_ch i)), .int (nI (g (a + i)))]) rfl ?_
          have hc9 := ie_ch_lt i
          refine lv_icmp_eq (tgt := 38) hx hb dd_Id_schemeError_31 (by decide) (fun h31 => ?_) (fun h31 => ?_)
          ·
            rw [nI_eq (by omega) (by omega)] at h31
            refine lv_iinc (k := 0) (v := nI (i + 1)) (lv' := [(3, .int (nI (i + 1))), (0, .ref b), (1, .int (nI a)), (2, .int (nI (a + n)))]) hx hb dd_Id_schemeError_38 hl rfl (nI_1 _) (by decide) rfl (fun ls hl => ?_)
            refine lv_goto (tgt := 2) hx hb dd_Id_schemeError_41 (by decide) ?_
            exact ih (i + 1) H locs ls (by omega) (hu.trans (ie_sc_n (by omega) (by omega))) hM hS (lv_sub hl [0, 1, 2, 3] rfl)
          ·
            rw [nI_eq (by omega) (by omega)] at h31
            refine lv_iload_n hx hb dd_Id_schemeError_34 rfl (lv_at hl 2 rfl) ?_
            refine lv_iload_n hx hb dd_Id_schemeError_35 rfl (lv_at hl 0 rfl) ?_
            refine lv_iadd hx hb dd_Id_schemeError_36 ?_
            refine mw_topi (y := nI (a + i)) (nI_add _ _) ?_
            refine mr_i E hr hk hM hS (by decide) (by decide) ?_ dd_Id_schemeError_37
            exact ⟨by rw [hu, ie_sc_y (Or.inr h31)], rfl⟩
  exact loop2 9 0 s.heap [] ls (by omega) rfl hM hS (lv_sub hl [0, 1, 2, 3] rfl)
theorem id_min {a b : Nat} (ha : a < 2 ^ 31) (hb : b < 2 ^ 31) : (if nI b < nI a then nI b else nI a) = nI (min a b) := by
  by_cases h : b < a
  · rw [if_pos (nI_lt h ha), Nat.min_eq_right (by omega)]
  · rw [if_neg (nI_nlt (by omega) hb), Nat.min_eq_left (by omega)]
theorem cc_Id_domainEnd (l : Launch) (D : va_G) (z : Nat) (M : mw_M) (b r : Nat) (f : Nat → Int32) (k : Nat) (g : Nat → Nat) (s0 e0 : Nat) (wb : M b = some (.inr (1, [.ref r, .int (nI k)]))) (wr : M r = some (.inl (D.1 100, 100, .inl f))) (hk0 : k ≤ 100) (hg : ∀ j : Nat, j < k → f j = nI (g j) ∧ g j < 256) (he0 : e0 ≤ k) (hs0 : s0 ≤ e0) : mw_C l yy_Id_domainEnd bb_Id_domainEnd 5 (Option.some Jvm.ClassFile.FieldType.int) 1 21 0 0 D z M [.ref b, .int (nI s0), .int (nI e0)] (fun v M' => v = some (.int (nI (ie_de g s0 e0))) ∧ M' = M) := by
  refine mw_of (by decide) (Nat.le_of_ble_eq_true rfl) ?_
  intro p e s m below meth c ls E hr hk hnm hM hl
  have hx := E.x
  have hb := E.b
  have E : mw_E p m c bb_Id_domainEnd 5 s _ D z "IdentityIssuer$Ids" := E
  have hl : lv_has ls 5 [(0, .ref b), (1, .int (nI s0)), (2, .int (nI e0))] := hl
  have hS : va_S (mw_A z) s.heap s.heap [] := va_S.rf
  refine lv_iload_n hx hb dd_Id_domainEnd_0 rfl (lv_at hl 2 rfl) ?_
  refine lv_iload_n hx hb dd_Id_domainEnd_1 rfl (lv_at hl 1 rfl) ?_
  refine lv_bipush (v := nI 12) hx hb dd_Id_domainEnd_2 (by decide) ?_
  refine lv_iadd hx hb dd_Id_domainEnd_4 ?_
  refine mw_topi (y := nI (s0 + 12)) (nI_add _ _) ?_
  refine va_mmin hx hb (E.ml.trans hl.1.symm) E.o (E.t _ tw_Id_51) (E.t _ kv_Ma_min) (E.t _ tw_ini_Ma) (E.t _ ky_Ma_min.1) (Nat.le_of_ble_eq_true rfl) (Nat.le_of_ble_eq_true rfl) (by decide) (by decide) dd_Id_domainEnd_5 ?_
  refine mw_topi (y := nI (min e0 (s0 + 12))) (id_min (by omega) (by omega)) ?_
  refine lv_istore_n (lv' := [(3, .int (nI (min e0 (s0 + 12)))), (0, .ref b), (1, .int (nI s0)), (2, .int (nI e0))]) hx hb dd_Id_domainEnd_8 rfl hl (by decide) rfl (fun ls hl => ?_)
  refine lv_iload_n hx hb dd_Id_domainEnd_9 rfl (lv_at hl 2 rfl) ?_
  refine lv_istore (lv' := [(4, .int (nI s0)), (3, .int (nI (min e0 (s0 + 12)))), (0, .ref b), (1, .int (nI s0)), (2, .int (nI e0))]) hx hb dd_Id_domainEnd_10 hl (by decide) rfl (fun ls hl => ?_)
  have loop12 : ∀ (d9 : Nat) (p0 : Nat) (H : Heap) (locs : List Loc) (ls : Array Slot), p0 + d9 = min e0 (s0 + 12) → ie_de g s0 e0 = ie_dm g d9 p0 → mw_at D mg_cl z M H → va_S (mw_A z) s.heap H locs → lv_has ls 5 [(4, .int (nI p0)), (3, .int (nI (min e0 (s0 + 12)))), (0, .ref b)] → W p l e ({ frames := 1, cells := 0, slots := 0, locals := 21 } : Room) s m ([.ref b, .int (nI s0), .int (nI e0)] : List Value).toArray below meth c H locs (0) (0) (MQ below (mw_Q D z (fun v M' => v = some (.int (nI (ie_de g s0 e0))) ∧ M' = M)) ([.ref b, .int (nI s0), .int (nI e0)] : List Value).toArray s 0 0 (mw_A z)) (F0 m 12 ls []) := by
    intro d9
    induction d9 with
    | zero =>
      intro p0 H locs ls hi hu hM hS hl
      refine lv_iload hx hb dd_Id_domainEnd_12 (lv_at hl 0 rfl) ?_
      refine lv_iload_n hx hb dd_Id_domainEnd_14 rfl (lv_at hl 1 rfl) ?_
      refine lv_icmp_ge (tgt := 40) hx hb dd_Id_domainEnd_15 (by decide) (fun h15 => ?_) (fun h15 => ?_)
      ·
        rw [nI_leI (by omega) (by omega)] at h15
        refine lv_iload_n hx hb dd_Id_domainEnd_40 rfl (lv_at hl 1 rfl) ?_
        refine mr_i E hr hk hM hS (by decide) (by decide) ?_ dd_Id_domainEnd_41
        exact ⟨by rw [hu, show min e0 (s0 + 12) = p0 by omega]; rfl, rfl⟩
      ·
        rw [nI_leI (by omega) (by omega)] at h15
        omega
    | succ d9 ih =>
      intro p0 H locs ls hi hu hM hS hl
      refine lv_iload hx hb dd_Id_domainEnd_12 (lv_at hl 0 rfl) ?_
      refine lv_iload_n hx hb dd_Id_domainEnd_14 rfl (lv_at hl 1 rfl) ?_
      refine lv_icmp_ge (tgt := 40) hx hb dd_Id_domainEnd_15 (by decide) (fun h15 => ?_) (fun h15 => ?_)
      ·
        rw [nI_leI (by omega) (by omega)] at h15
        omega
      ·
        rw [nI_leI (by omega) (by omega)] at h15
        refine lv_aload_n hx hb dd_Id_domainEnd_18 rfl (lv_at hl 2 rfl) ?_
        refine lv_iload hx hb dd_Id_domainEnd_19 (lv_at hl 0 rfl) ?_
        refine mw_V (As := [.int (nI p0)]) (rest := []) E (cc_By_at l D z (M) b r f k (nI (p0)) wb wr hk0) ky_By_at kv_By_at tw_Id_41 hM hS wb rfl rfl rfl hl.1 rfl (Nat.le_of_ble_eq_true rfl) dd_Id_domainEnd_21 (by first | decide | exact ⟨by dsimp only; omega, by dsimp only; omega⟩) (by decide) (fun v M1 H locs hp hM hS => ?_)
        obtain ⟨rfl, hq⟩ := hp
        have hq := hq.symm
        subst hq
        refine W.eq (g2 := F0 m 24 ls [.int (by_at f k (nI (p0)))]) rfl ?_
        refine mw_topi (y := nI (g (p0))) ((by_at_nI (by omega) (by omega)).trans (hg (p0) (by omega)).1) ?_
        have hb9 := (hg (p0) (by omega)).2
        refine lv_iconst (v := nI 0) hx hb dd_Id_domainEnd_24 (by decide) ?_
        refine mw_topi (y := zI false) (rfl) ?_
        refine mw_S (As := [.int (nI (g (p0))), .int (zI false)]) (rest := []) E (cc_Id_isNameCharacter l D z (M) (g (p0)) false hb9) ky_Id_isNameCharacter kv_Id_isNameCharacter tw_Id_57 hM hS rfl hl.1 rfl (Nat.le_of_ble_eq_true rfl) dd_Id_domainEnd_25 (by first | decide | exact ⟨by dsimp only; omega, by dsimp only; omega⟩) (by decide) (fun v M1 H locs hp hM hS => ?_)
        obtain ⟨rfl, hq⟩ := hp
        have hq := hq.symm
        subst hq
        refine mw_topi (y := zI (nc_d (g (p0)))) rfl ?_
        refine W.eq (g2 := F0 m 28 ls [.int (zI (nc_d (g (p0))))]) rfl ?_
        refine lv_if_ne (tgt := 34) hx hb dd_Id_domainEnd_28 (by decide) (fun h28 => ?_) (fun h28 => ?_)
        ·
          refine lv_iinc (k := 0) (v := nI (p0 + 1)) (lv' := [(4, .int (nI (p0 + 1))), (3, .int (nI (min e0 (s0 + 12)))), (0, .ref b)]) hx hb dd_Id_domainEnd_34 hl rfl (nI_1 _) (by decide) rfl (fun ls hl => ?_)
          refine lv_goto (tgt := 12) hx hb dd_Id_domainEnd_37 (by decide) ?_
          exact ih (p0 + 1) H locs ls (by omega) (hu.trans (ie_dm_y (Bool.of_not_eq_false (fun q => h28 (zI_0.mpr q))))) hM hS (lv_sub hl [0, 1, 2] rfl)
        ·
          refine lv_iload hx hb dd_Id_domainEnd_31 (lv_at hl 0 rfl) ?_
          refine mr_i E hr hk hM hS (by decide) (by decide) ?_ dd_Id_domainEnd_33
          exact ⟨by rw [hu, ie_dm_n (zI_0.mp h28)], rfl⟩
  exact loop12 (min e0 (s0 + 12) - s0) s0 s.heap [] ls (by omega) rfl hM hS (lv_sub hl [0, 1, 2] rfl)
theorem ie_bad_y {g : Nat → Nat} {e p q : Nat} (h : ie_sg g (e - p) p = q) (hp : p ≤ q) (hd : ∀ j : Nat, p ≤ j → j < q → g j = 46) (h2 : q ≤ p + 2) : ie_bad g e p = true := by
  unfold ie_bad
  rw [h]
  rcases (show q = p ∨ q = p + 1 ∨ q = p + 2 by omega) with rfl | rfl | rfl
  · rw [decide_eq_true rfl, Bool.true_or, Bool.true_or]
  · rw [decide_eq_true (show p + 1 = p + 1 from rfl), decide_eq_true (hd p (Nat.le_refl _) (by omega)), Bool.true_and, Bool.or_true, Bool.true_or]
  · rw [decide_eq_true (show p + 2 = p + 2 from rfl), decide_eq_true (hd p (Nat.le_refl _) (by omega)), decide_eq_true (hd (p + 1) (by omega) (by omega)), Bool.true_and, Bool.true_and, Bool.or_true]
theorem ie_bad_n {g : Nat → Nat} {e p q : Nat} (h : ie_sg g (e - p) p = q) (hp : p ≤ q) (hd : (¬ ∀ j : Nat, p ≤ j → j < q → g j = 46) ∨ p + 2 < q) : ie_bad g e p = false := by
  unfold ie_bad
  rw [h]
  rcases hd with hd | hd
  · rw [decide_eq_false (fun z => hd (fun j h1 h2 => absurd h2 (by omega))), Bool.false_or]
    have a : (decide (q = p + 1) && decide (g p = 46)) = false := by
      rw [Bool.and_eq_false_iff]
      by_cases e1 : q = p + 1
      · exact Or.inr (decide_eq_false (fun z => hd (fun j h1 h2 => by rw [show j = p by omega]; exact z)))
      · exact Or.inl (decide_eq_false e1)
    have b : (decide (q = p + 2) && decide (g p = 46) && decide (g (p + 1) = 46)) = false := by
      rw [Bool.and_eq_false_iff, Bool.and_eq_false_iff]
      by_cases e1 : q = p + 2
      · by_cases e2 : g p = 46
        · exact Or.inr (decide_eq_false (fun z => hd (fun j h1 h2 => by
            by_cases e3 : j = p
            · rw [e3]; exact e2
            · rw [show j = p + 1 by omega]; exact z)))
        · exact Or.inl (Or.inr (decide_eq_false e2))
      · exact Or.inl (Or.inl (decide_eq_false e1))
    rw [a, b]
    rfl
  · rw [decide_eq_false (show ¬ q = p by omega), decide_eq_false (show ¬ q = p + 1 by omega), decide_eq_false (show ¬ q = p + 2 by omega)]
    rfl
theorem cc_Id_isSegment (l : Launch) (D : va_G) (z : Nat) (M : mw_M) (b r : Nat) (f : Nat → Int32) (k : Nat) (g : Nat → Nat) (s0 e0 : Nat) (wb : M b = some (.inr (1, [.ref r, .int (nI k)]))) (wr : M r = some (.inl (D.1 100, 100, .inl f))) (hk0 : k ≤ 100) (hg : ∀ j : Nat, j < k → f j = nI (g j) ∧ g j < 256) (he0 : e0 ≤ k) (hs0 : s0 ≤ e0) : mw_C l yy_Id_isSegment bb_Id_isSegment 5 (Option.some Jvm.ClassFile.FieldType.boolean) 1 21 0 0 D z M [.ref b, .int (nI s0), .int (nI e0)] (fun v M' => v = some (.int (zI (!ie_bad g e0 s0))) ∧ M' = M) := by
  refine mw_of (by decide) (Nat.le_of_ble_eq_true rfl) ?_
  intro p e s m below meth c ls E hr hk hnm hM hl
  have hx := E.x
  have hb := E.b
  have E : mw_E p m c bb_Id_isSegment 5 s _ D z "IdentityIssuer$Ids" := E
  have hl : lv_has ls 5 [(0, .ref b), (1, .int (nI s0)), (2, .int (nI e0))] := hl
  have hS : va_S (mw_A z) s.heap s.heap [] := va_S.rf
  refine lv_iload_n hx hb dd_Id_isSegment_0 rfl (lv_at hl 1 rfl) ?_
  refine lv_istore_n (lv' := [(3, .int (nI s0)), (0, .ref b), (1, .int (nI s0)), (2, .int (nI e0))]) hx hb dd_Id_isSegment_1 rfl hl (by decide) rfl (fun ls hl => ?_)
  refine lv_iconst (v := nI 1) hx hb dd_Id_isSegment_2 (by decide) ?_
  refine mw_topi (y := zI true) (rfl) ?_
  refine lv_istore (lv' := [(4, .int (zI true)), (3, .int (nI s0)), (0, .ref b), (1, .int (nI s0)), (2, .int (nI e0))]) hx hb dd_Id_isSegment_3 hl (by decide) rfl (fun ls hl => ?_)
  have loop5 : ∀ (d9 : Nat) (p0 : Nat) (fl : Bool) (H : Heap) (locs : List Loc) (ls : Array Slot), p0 + d9 = e0 → s0 ≤ p0 → ie_sg g (e0 - s0) s0 = ie_sg g d9 p0 → (fl = true ↔ ∀ j : Nat, s0 ≤ j → j < p0 → g j = 46) → mw_at D mg_cl z M H → va_S (mw_A z) s.heap H locs → lv_has ls 5 [(4, .int (zI fl)), (3, .int (nI p0)), (0, .ref b), (1, .int (nI s0)), (2, .int (nI e0))] → W p l e ({ frames := 1, cells := 0, slots := 0, locals := 21 } : Room) s m ([.ref b, .int (nI s0), .int (nI e0)] : List Value).toArray below meth c H locs (0) (0) (MQ below (mw_Q D z (fun v M' => v = some (.int (zI (!ie_bad g e0 s0))) ∧ M' = M)) ([.ref b, .int (nI s0), .int (nI e0)] : List Value).toArray s 0 0 (mw_A z)) (F0 m 5 ls []) := by
    intro d9
    induction d9 with
    | zero =>
      intro p0 fl H locs ls hi hs1 hu hfl hM hS hl
      refine lv_iload_n hx hb dd_Id_isSegment_5 rfl (lv_at hl 1 rfl) ?_
      refine lv_iload_n hx hb dd_Id_isSegment_6 rfl (lv_at hl 4 rfl) ?_
      refine lv_icmp_ge (tgt := 50) hx hb dd_Id_isSegment_7 (by decide) (fun h7 => ?_) (fun h7 => ?_)
      ·
        rw [nI_leI (by omega) (by omega)] at h7
        have hq : ie_sg g (e0 - s0) s0 = p0 := hu
        refine lv_iload hx hb dd_Id_isSegment_50 (lv_at hl 0 rfl) ?_
        refine lv_if_eq (tgt := 62) hx hb dd_Id_isSegment_52 (by decide) (fun h52 => ?_) (fun h52 => ?_)
        ·
          refine lv_iconst (v := nI 1) hx hb dd_Id_isSegment_62 (by decide) ?_
          refine lv_goto (tgt := 67) hx hb dd_Id_isSegment_63 (by decide) ?_
          refine mr_z E hr hk hM hS (by decide) (by decide) (rfl) ?_ dd_Id_isSegment_67
          exact ⟨by rw [ie_bad_n hq hs1 (Or.inl (fun q => absurd (hfl.mpr q) (by rw [zI_0.mp h52]; decide)))]; rfl, rfl⟩
        ·
          refine lv_iload_n hx hb dd_Id_isSegment_55 rfl (lv_at hl 1 rfl) ?_
          refine lv_iload_n hx hb dd_Id_isSegment_56 rfl (lv_at hl 3 rfl) ?_
          refine lv_isub hx hb dd_Id_isSegment_57 ?_
          refine mw_topi (y := nI (p0 - s0)) (pk_sub (by omega)) ?_
          refine lv_iconst (v := nI 2) hx hb dd_Id_isSegment_58 (by decide) ?_
          refine lv_icmp_le (tgt := 66) hx hb dd_Id_isSegment_59 (by decide) (fun h59 => ?_) (fun h59 => ?_)
          ·
            rw [nI_leI (by omega) (by omega)] at h59
            refine lv_iconst (v := nI 0) hx hb dd_Id_isSegment_66 (by decide) ?_
            refine mr_z E hr hk hM hS (by decide) (by decide) (rfl) ?_ dd_Id_isSegment_67
            exact ⟨by rw [ie_bad_y hq hs1 (hfl.mp (Bool.of_not_eq_false (fun q => h52 (zI_0.mpr q)))) (by omega)]; rfl, rfl⟩
          ·
            rw [nI_leI (by omega) (by omega)] at h59
            refine lv_iconst (v := nI 1) hx hb dd_Id_isSegment_62 (by decide) ?_
            refine lv_goto (tgt := 67) hx hb dd_Id_isSegment_63 (by decide) ?_
            refine mr_z E hr hk hM hS (by decide) (by decide) (rfl) ?_ dd_Id_isSegment_67
            exact ⟨by rw [ie_bad_n hq hs1 (Or.inr (by omega))]; rfl, rfl⟩
      ·
        rw [nI_leI (by omega) (by omega)] at h7
        omega
    | succ d9 ih =>
      intro p0 fl H locs ls hi hs1 hu hfl hM hS hl
      refine lv_iload_n hx hb dd_Id_isSegment_5 rfl (lv_at hl 1 rfl) ?_
      refine lv_iload_n hx hb dd_Id_isSegment_6 rfl (lv_at hl 4 rfl) ?_
      refine lv_icmp_ge (tgt := 50) hx hb dd_Id_isSegment_7 (by decide) (fun h7 => ?_) (fun h7 => ?_)
      ·
        rw [nI_leI (by omega) (by omega)] at h7
        omega
      ·
        rw [nI_leI (by omega) (by omega)] at h7
        refine lv_aload_n hx hb dd_Id_isSegment_10 rfl (lv_at hl 2 rfl) ?_
        refine lv_iload_n hx hb dd_Id_isSegment_11 rfl (lv_at hl 1 rfl) ?_
        refine mw_V (As := [.int (nI p0)]) (rest := []) E (cc_By_at l D z (M) b r f k (nI (p0)) wb wr hk0) ky_By_at kv_By_at tw_Id_41 hM hS wb rfl rfl rfl hl.1 rfl (Nat.le_of_ble_eq_true rfl) dd_Id_isSegment_12 (by first | decide | exact ⟨by dsimp only; omega, by dsimp only; omega⟩) (by decide) (fun v M1 H locs hp hM hS => ?_)
        obtain ⟨rfl, hq⟩ := hp
        have hq := hq.symm
        subst hq
        refine W.eq (g2 := F0 m 15 ls [.int (by_at f k (nI (p0)))]) rfl ?_
        refine mw_topi (y := nI (g (p0))) ((by_at_nI (by omega) (by omega)).trans (hg (p0) (by omega)).1) ?_
        have hb9 := (hg (p0) (by omega)).2
        refine lv_iconst (v := nI 1) hx hb dd_Id_isSegment_15 (by decide) ?_
        refine mw_topi (y := zI true) (rfl) ?_
        refine mw_S (As := [.int (nI (g (p0))), .int (zI true)]) (rest := []) E (cc_Id_isNameCharacter l D z (M) (g (p0)) true hb9) ky_Id_isNameCharacter kv_Id_isNameCharacter tw_Id_57 hM hS rfl hl.1 rfl (Nat.le_of_ble_eq_true rfl) dd_Id_isSegment_16 (by first | decide | exact ⟨by dsimp only; omega, by dsimp only; omega⟩) (by decide) (fun v M1 H locs hp hM hS => ?_)
        obtain ⟨rfl, hq⟩ := hp
        have hq := hq.symm
        subst hq
        refine mw_topi (y := zI (nc_s (g (p0)))) rfl ?_
        refine W.eq (g2 := F0 m 19 ls [.int (zI (nc_s (g (p0))))]) rfl ?_
        refine lv_if_eq (tgt := 50) hx hb dd_Id_isSegment_19 (by decide) (fun h19 => ?_) (fun h19 => ?_)
        ·
          have hq : ie_sg g (e0 - s0) s0 = p0 := hu.trans (ie_sg_n (zI_0.mp h19))
          refine lv_iload hx hb dd_Id_isSegment_50 (lv_at hl 0 rfl) ?_
          refine lv_if_eq (tgt := 62) hx hb dd_Id_isSegment_52 (by decide) (fun h52 => ?_) (fun h52 => ?_)
          ·
            refine lv_iconst (v := nI 1) hx hb dd_Id_isSegment_62 (by decide) ?_
            refine lv_goto (tgt := 67) hx hb dd_Id_isSegment_63 (by decide) ?_
            refine mr_z E hr hk hM hS (by decide) (by decide) (rfl) ?_ dd_Id_isSegment_67
            exact ⟨by rw [ie_bad_n hq hs1 (Or.inl (fun q => absurd (hfl.mpr q) (by rw [zI_0.mp h52]; decide)))]; rfl, rfl⟩
          ·
            refine lv_iload_n hx hb dd_Id_isSegment_55 rfl (lv_at hl 1 rfl) ?_
            refine lv_iload_n hx hb dd_Id_isSegment_56 rfl (lv_at hl 3 rfl) ?_
            refine lv_isub hx hb dd_Id_isSegment_57 ?_
            refine mw_topi (y := nI (p0 - s0)) (pk_sub (by omega)) ?_
            refine lv_iconst (v := nI 2) hx hb dd_Id_isSegment_58 (by decide) ?_
            refine lv_icmp_le (tgt := 66) hx hb dd_Id_isSegment_59 (by decide) (fun h59 => ?_) (fun h59 => ?_)
            ·
              rw [nI_leI (by omega) (by omega)] at h59
              refine lv_iconst (v := nI 0) hx hb dd_Id_isSegment_66 (by decide) ?_
              refine mr_z E hr hk hM hS (by decide) (by decide) (rfl) ?_ dd_Id_isSegment_67
              exact ⟨by rw [ie_bad_y hq hs1 (hfl.mp (Bool.of_not_eq_false (fun q => h52 (zI_0.mpr q)))) (by omega)]; rfl, rfl⟩
            ·
              rw [nI_leI (by omega) (by omega)] at h59
              refine lv_iconst (v := nI 1) hx hb dd_Id_isSegment_62 (by decide) ?_
              refine lv_goto (tgt := 67) hx hb dd_Id_isSegment_63 (by decide) ?_
              refine mr_z E hr hk hM hS (by decide) (by decide) (rfl) ?_ dd_Id_isSegment_67
              exact ⟨by rw [ie_bad_n hq hs1 (Or.inr (by omega))]; rfl, rfl⟩
        ·
          refine lv_iload hx hb dd_Id_isSegment_22 (lv_at hl 0 rfl) ?_
          refine lv_if_eq (tgt := 41) hx hb dd_Id_isSegment_24 (by decide) (fun h24 => ?_) (fun h24 => ?_)
          ·
            refine lv_iconst (v := nI 0) hx hb dd_Id_isSegment_41 (by decide) ?_
            refine mw_topi (y := zI false) (rfl) ?_
            refine lv_istore (lv' := [(4, .int (zI false)), (3, .int (nI p0)), (0, .ref b), (1, .int (nI s0)), (2, .int (nI e0))]) hx hb dd_Id_isSegment_42 hl (by decide) rfl (fun ls hl => ?_)
            refine lv_iinc (k := 1) (v := nI (p0 + 1)) (lv' := [(3, .int (nI (p0 + 1))), (4, .int (zI false)), (0, .ref b), (1, .int (nI s0)), (2, .int (nI e0))]) hx hb dd_Id_isSegment_44 hl rfl (nI_1 _) (by decide) rfl (fun ls hl => ?_)
            refine lv_goto (tgt := 5) hx hb dd_Id_isSegment_47 (by decide) ?_
            exact ih (p0 + 1) false H locs ls (by omega) (by omega) (hu.trans (ie_sg_y (Bool.of_not_eq_false (fun q => h19 (zI_0.mpr q))))) (⟨fun q => (by cases q), fun q => absurd (hfl.mpr (fun j h1 h2 => q j h1 (by omega))) (by rw [zI_0.mp h24]; decide)⟩) hM hS (lv_sub hl [1, 0, 2, 3, 4] rfl)
          ·
            refine lv_aload_n hx hb dd_Id_isSegment_27 rfl (lv_at hl 2 rfl) ?_
            refine lv_iload_n hx hb dd_Id_isSegment_28 rfl (lv_at hl 1 rfl) ?_
            refine mw_V (As := [.int (nI p0)]) (rest := []) E (cc_By_at l D z (M) b r f k (nI (p0)) wb wr hk0) ky_By_at kv_By_at tw_Id_41 hM hS wb rfl rfl rfl hl.1 rfl (Nat.le_of_ble_eq_true rfl) dd_Id_isSegment_29 (by first | decide | exact ⟨by dsimp only; omega, by dsimp only; omega⟩) (by decide) (fun v M1 H locs hp hM hS => ?_)
            obtain ⟨rfl, hq⟩ := hp
            have hq := hq.symm
            subst hq
            refine W.eq (g2 := F0 m 32 ls [.int (by_at f k (nI (p0)))]) rfl ?_
            refine mw_topi (y := nI (g (p0))) ((by_at_nI (by omega) (by omega)).trans (hg (p0) (by omega)).1) ?_
            have hb9 := (hg (p0) (by omega)).2
            refine lv_bipush (v := nI 46) hx hb dd_Id_isSegment_32 (by decide) ?_
            refine lv_icmp_ne (tgt := 41) hx hb dd_Id_isSegment_34 (by decide) (fun h34 => ?_) (fun h34 => ?_)
            ·
              rw [nI_eq (by omega) (by omega)] at h34
              refine lv_iconst (v := nI 0) hx hb dd_Id_isSegment_41 (by decide) ?_
              refine mw_topi (y := zI false) (rfl) ?_
              refine lv_istore (lv' := [(4, .int (zI false)), (3, .int (nI p0)), (0, .ref b), (1, .int (nI s0)), (2, .int (nI e0))]) hx hb dd_Id_isSegment_42 hl (by decide) rfl (fun ls hl => ?_)
              refine lv_iinc (k := 1) (v := nI (p0 + 1)) (lv' := [(3, .int (nI (p0 + 1))), (4, .int (zI false)), (0, .ref b), (1, .int (nI s0)), (2, .int (nI e0))]) hx hb dd_Id_isSegment_44 hl rfl (nI_1 _) (by decide) rfl (fun ls hl => ?_)
              refine lv_goto (tgt := 5) hx hb dd_Id_isSegment_47 (by decide) ?_
              exact ih (p0 + 1) false H locs ls (by omega) (by omega) (hu.trans (ie_sg_y (Bool.of_not_eq_false (fun q => h19 (zI_0.mpr q))))) (⟨fun q => (by cases q), fun q => absurd (q p0 hs1 (by omega)) h34⟩) hM hS (lv_sub hl [1, 0, 2, 3, 4] rfl)
            ·
              rw [nI_eq (by omega) (by omega)] at h34
              refine lv_iconst (v := nI 1) hx hb dd_Id_isSegment_37 (by decide) ?_
              refine mw_topi (y := zI true) (rfl) ?_
              refine lv_goto (tgt := 42) hx hb dd_Id_isSegment_38 (by decide) ?_
              refine lv_istore (lv' := [(4, .int (zI true)), (3, .int (nI p0)), (0, .ref b), (1, .int (nI s0)), (2, .int (nI e0))]) hx hb dd_Id_isSegment_42 hl (by decide) rfl (fun ls hl => ?_)
              refine lv_iinc (k := 1) (v := nI (p0 + 1)) (lv' := [(3, .int (nI (p0 + 1))), (4, .int (zI true)), (0, .ref b), (1, .int (nI s0)), (2, .int (nI e0))]) hx hb dd_Id_isSegment_44 hl rfl (nI_1 _) (by decide) rfl (fun ls hl => ?_)
              refine lv_goto (tgt := 5) hx hb dd_Id_isSegment_47 (by decide) ?_
              exact ih (p0 + 1) true H locs ls (by omega) (by omega) (hu.trans (ie_sg_y (Bool.of_not_eq_false (fun q => h19 (zI_0.mpr q))))) (⟨fun _ j h1 h2 => if e9 : j = p0 then (by rw [e9]; exact h34) else hfl.mp (Bool.of_not_eq_false (fun q => h24 (zI_0.mpr q))) j h1 (by omega), fun _ => rfl⟩) hM hS (lv_sub hl [1, 0, 2, 3, 4] rfl)
  exact loop5 (e0 - s0) s0 true s.heap [] ls (by omega) (Nat.le_refl _) rfl ⟨fun _ j h1 h2 => absurd h2 (by omega), fun _ => rfl⟩ hM hS (lv_sub hl [0, 1, 2, 3, 4] rfl)
theorem cc_Id_pathError (l : Launch) (D : va_G) (z : Nat) (M : mw_M) (b r : Nat) (f : Nat → Int32) (k : Nat) (g : Nat → Nat) (s0 e0 : Nat) (wb : M b = some (.inr (1, [.ref r, .int (nI k)]))) (wr : M r = some (.inl (D.1 100, 100, .inl f))) (hk0 : k ≤ 100) (hg : ∀ j : Nat, j < k → f j = nI (g j) ∧ g j < 256) (he0 : e0 ≤ k) (hs0 : s0 ≤ e0) : mw_C l yy_Id_pathError bb_Id_pathError 5 (Option.some Jvm.ClassFile.FieldType.int) 2 45 0 0 D z M [.ref b, .int (nI s0), .int (nI e0)] (fun v M' => v = some (.int (match ie_pe g e0 e0 s0 with | some q => nI q | none => -1)) ∧ M' = M) := by
  refine mw_of (by decide) (Nat.le_of_ble_eq_true rfl) ?_
  intro p e s m below meth c ls E hr hk hnm hM hl
  have hx := E.x
  have hb := E.b
  have E : mw_E p m c bb_Id_pathError 5 s _ D z "IdentityIssuer$Ids" := E
  have hl : lv_has ls 5 [(0, .ref b), (1, .int (nI s0)), (2, .int (nI e0))] := hl
  have hS : va_S (mw_A z) s.heap s.heap [] := va_S.rf
  refine lv_iload_n hx hb dd_Id_pathError_0 rfl (lv_at hl 1 rfl) ?_
  refine lv_istore_n (lv' := [(3, .int (nI s0)), (0, .ref b), (1, .int (nI s0)), (2, .int (nI e0))]) hx hb dd_Id_pathError_1 rfl hl (by decide) rfl (fun ls hl => ?_)
  have loop2 : ∀ (d9 : Nat) (p0 q0 dd : Nat) (H : Heap) (locs : List Loc) (ls : Array Slot), p0 + d9 = e0 → s0 ≤ p0 → ie_pe g e0 e0 s0 = ie_pe g e0 dd q0 → e0 ≤ q0 + dd → (p0 ≤ q0 ∧ q0 ≤ e0) → (∀ j : Nat, p0 ≤ j → j < q0 → nc_s (g j) = true ∧ s0 < j) → (q0 = s0 ∨ q0 = e0 ∨ nc_s (g q0) = false) → mw_at D mg_cl z M H → va_S (mw_A z) s.heap H locs → lv_has ls 5 [(3, .int (nI p0)), (0, .ref b), (1, .int (nI s0)), (2, .int (nI e0))] → W p l e ({ frames := 2, cells := 0, slots := 0, locals := 45 } : Room) s m ([.ref b, .int (nI s0), .int (nI e0)] : List Value).toArray below meth c H locs (0) (0) (MQ below (mw_Q D z (fun v M' => v = some (.int (match ie_pe g e0 e0 s0 with | some q => nI q | none => -1)) ∧ M' = M)) ([.ref b, .int (nI s0), .int (nI e0)] : List Value).toArray s 0 0 (mw_A z)) (F0 m 2 ls []) := by
    intro d9
    induction d9 with
    | zero =>
      intro p0 q0 dd H locs ls hi hs1 hu hdd hqq hnc hqe hM hS hl
      refine lv_iload_n hx hb dd_Id_pathError_2 rfl (lv_at hl 0 rfl) ?_
      refine lv_iload_n hx hb dd_Id_pathError_3 rfl (lv_at hl 3 rfl) ?_
      refine lv_icmp_ge (tgt := 74) hx hb dd_Id_pathError_4 (by decide) (fun h4 => ?_) (fun h4 => ?_)
      ·
        rw [nI_leI (by omega) (by omega)] at h4
        refine lv_iconst (v := -1) hx hb dd_Id_pathError_74 (by decide) ?_
        refine mr_i E hr hk hM hS (by decide) (by decide) ?_ dd_Id_pathError_75
        exact ⟨by rw [hu, ie_pe_off (by omega)], rfl⟩
      ·
        rw [nI_leI (by omega) (by omega)] at h4
        omega
    | succ d9 ih =>
      intro p0 q0 dd H locs ls hi hs1 hu hdd hqq hnc hqe hM hS hl
      refine lv_iload_n hx hb dd_Id_pathError_2 rfl (lv_at hl 0 rfl) ?_
      refine lv_iload_n hx hb dd_Id_pathError_3 rfl (lv_at hl 3 rfl) ?_
      refine lv_icmp_ge (tgt := 74) hx hb dd_Id_pathError_4 (by decide) (fun h4 => ?_) (fun h4 => ?_)
      ·
        rw [nI_leI (by omega) (by omega)] at h4
        omega
      ·
        rw [nI_leI (by omega) (by omega)] at h4
        refine lv_iload_n hx hb dd_Id_pathError_7 rfl (lv_at hl 0 rfl) ?_
        refine lv_iload_n hx hb dd_Id_pathError_8 rfl (lv_at hl 2 rfl) ?_
        refine lv_icmp_le (tgt := 28) hx hb dd_Id_pathError_9 (by decide) (fun h9 => ?_) (fun h9 => ?_)
        ·
          rw [nI_leI (by omega) (by omega)] at h9
          have e1 : p0 = s0 := by omega
          have e2 : q0 = p0 := by
            refine Classical.byContradiction (fun n9 => ?_)
            have := (hnc p0 (Nat.le_refl _) (by omega)).2
            omega
          obtain ⟨d0, rfl⟩ : ∃ d0, dd = d0 + 1 := ⟨dd - 1, by omega⟩
          refine lv_iconst (v := nI 0) hx hb dd_Id_pathError_28 (by decide) ?_
          refine mw_topi (y := zI false) (rfl) ?_
          refine lv_istore (lv' := [(4, .int (zI false)), (3, .int (nI p0)), (0, .ref b), (1, .int (nI s0)), (2, .int (nI e0))]) hx hb dd_Id_pathError_29 hl (by decide) rfl (fun ls hl => ?_)
          refine lv_iload hx hb dd_Id_pathError_31 (lv_at hl 0 rfl) ?_
          refine lv_if_ne (tgt := 48) hx hb dd_Id_pathError_33 (by decide) (fun h33 => ?_) (fun h33 => ?_)
          ·
            exact absurd rfl h33
          ·
            refine lv_aload_n hx hb dd_Id_pathError_36 rfl (lv_at hl 2 rfl) ?_
            refine lv_iload_n hx hb dd_Id_pathError_37 rfl (lv_at hl 1 rfl) ?_
            refine mw_V (As := [.int (nI p0)]) (rest := []) E (cc_By_at l D z (M) b r f k (nI (p0)) wb wr hk0) ky_By_at kv_By_at tw_Id_41 hM hS wb rfl rfl rfl hl.1 rfl (Nat.le_of_ble_eq_true rfl) dd_Id_pathError_38 (by first | decide | exact ⟨by dsimp only; omega, by dsimp only; omega⟩) (by decide) (fun v M1 H locs hp hM hS => ?_)
            obtain ⟨rfl, hq⟩ := hp
            have hq := hq.symm
            subst hq
            refine W.eq (g2 := F0 m 41 ls [.int (by_at f k (nI (p0)))]) rfl ?_
            refine mw_topi (y := nI (g (p0))) ((by_at_nI (by omega) (by omega)).trans (hg (p0) (by omega)).1) ?_
            have hb9 := (hg (p0) (by omega)).2
            refine lv_bipush (v := nI 47) hx hb dd_Id_pathError_41 (by decide) ?_
            refine lv_icmp_eq (tgt := 48) hx hb dd_Id_pathError_43 (by decide) (fun h43 => ?_) (fun h43 => ?_)
            ·
              rw [nI_eq (by omega) (by omega)] at h43
              refine lv_iload hx hb dd_Id_pathError_48 (lv_at hl 0 rfl) ?_
              refine lv_if_ne (tgt := 68) hx hb dd_Id_pathError_50 (by decide) (fun h50 => ?_) (fun h50 => ?_)
              ·
                exact absurd rfl h50
              ·
                refine lv_aload_n hx hb dd_Id_pathError_53 rfl (lv_at hl 2 rfl) ?_
                refine lv_iload_n hx hb dd_Id_pathError_54 rfl (lv_at hl 1 rfl) ?_
                refine lv_iconst (v := nI 1) hx hb dd_Id_pathError_55 (by decide) ?_
                refine lv_iadd hx hb dd_Id_pathError_56 ?_
                refine mw_topi (y := nI (p0 + 1)) (nI_add _ _) ?_
                refine lv_iload_n hx hb dd_Id_pathError_57 rfl (lv_at hl 4 rfl) ?_
                refine mw_S (As := [.ref b, .int (nI (p0 + 1)), .int (nI e0)]) (rest := []) E (cc_Id_isSegment l D z (M) b r f k g (p0 + 1) e0 wb wr hk0 hg he0 (by omega)) ky_Id_isSegment kv_Id_isSegment tw_Id_61 hM hS rfl hl.1 rfl (Nat.le_of_ble_eq_true rfl) dd_Id_pathError_58 (by first | decide | exact ⟨by dsimp only; omega, by dsimp only; omega⟩) (by decide) (fun v M1 H locs hp hM hS => ?_)
                obtain ⟨rfl, hq⟩ := hp
                have hq := hq.symm
                subst hq
                refine W.eq (g2 := F0 m 61 ls [.int (zI (!ie_bad g e0 (p0 + 1)))]) rfl ?_
                refine lv_if_ne (tgt := 68) hx hb dd_Id_pathError_61 (by decide) (fun h61 => ?_) (fun h61 => ?_)
                ·
                  have hbd : ie_bad g e0 (p0 + 1) = false := by
                    cases hb8 : ie_bad g e0 (p0 + 1) with
                    | false => rfl
                    | true => exact absurd (by rw [hb8]; rfl) h61
                  have hsl := ie_sg_le g (e0 - (p0 + 1)) (p0 + 1)
                  refine lv_iinc (k := 1) (v := nI (p0 + 1)) (lv' := [(3, .int (nI (p0 + 1))), (4, .int (zI false)), (0, .ref b), (1, .int (nI s0)), (2, .int (nI e0))]) hx hb dd_Id_pathError_68 hl rfl (nI_1 _) (by decide) rfl (fun ls hl => ?_)
                  refine lv_goto (tgt := 2) hx hb dd_Id_pathError_71 (by decide) ?_
                  exact ih (p0 + 1) (ie_sg g (e0 - (p0 + 1)) (p0 + 1)) d0 H locs ls (by omega) (by omega) (by rw [hu, e2, ie_pe_3 (by omega) h43 hbd]) (by omega) ⟨hsl.1, by omega⟩ (fun j h1 h2 => ⟨ie_sg_in g _ _ j h1 h2, by omega⟩) ((ie_sg_end g (e0 - (p0 + 1)) (p0 + 1)).elim (fun q => Or.inr (Or.inl (by omega))) (fun q => Or.inr (Or.inr q))) hM hS (lv_sub hl [0, 2, 3, 4] rfl)
                ·
                  have hbd : ie_bad g e0 (p0 + 1) = true := by
                    cases hb8 : ie_bad g e0 (p0 + 1) with
                    | true => rfl
                    | false => rw [hb8] at h61; exact absurd h61 (by decide)
                  refine lv_iload_n hx hb dd_Id_pathError_64 rfl (lv_at hl 1 rfl) ?_
                  refine lv_iconst (v := nI 1) hx hb dd_Id_pathError_65 (by decide) ?_
                  refine lv_iadd hx hb dd_Id_pathError_66 ?_
                  refine mw_topi (y := nI (p0 + 1)) (nI_add _ _) ?_
                  refine mr_i E hr hk hM hS (by decide) (by decide) ?_ dd_Id_pathError_67
                  exact ⟨by rw [hu, e2, ie_pe_2 (by omega) h43 hbd], rfl⟩
            ·
              rw [nI_eq (by omega) (by omega)] at h43
              refine lv_iload_n hx hb dd_Id_pathError_46 rfl (lv_at hl 1 rfl) ?_
              refine mr_i E hr hk hM hS (by decide) (by decide) ?_ dd_Id_pathError_47
              exact ⟨by rw [hu, e2, ie_pe_1 (by omega) h43], rfl⟩
        ·
          rw [nI_leI (by omega) (by omega)] at h9
          refine lv_aload_n hx hb dd_Id_pathError_12 rfl (lv_at hl 1 rfl) ?_
          refine lv_iload_n hx hb dd_Id_pathError_13 rfl (lv_at hl 0 rfl) ?_
          refine mw_V (As := [.int (nI p0)]) (rest := []) E (cc_By_at l D z (M) b r f k (nI (p0)) wb wr hk0) ky_By_at kv_By_at tw_Id_41 hM hS wb rfl rfl rfl hl.1 rfl (Nat.le_of_ble_eq_true rfl) dd_Id_pathError_14 (by first | decide | exact ⟨by dsimp only; omega, by dsimp only; omega⟩) (by decide) (fun v M1 H locs hp hM hS => ?_)
          obtain ⟨rfl, hq⟩ := hp
          have hq := hq.symm
          subst hq
          refine W.eq (g2 := F0 m 17 ls [.int (by_at f k (nI (p0)))]) rfl ?_
          refine mw_topi (y := nI (g (p0))) ((by_at_nI (by omega) (by omega)).trans (hg (p0) (by omega)).1) ?_
          have hb9 := (hg (p0) (by omega)).2
          refine lv_iconst (v := nI 1) hx hb dd_Id_pathError_17 (by decide) ?_
          refine mw_topi (y := zI true) (rfl) ?_
          refine mw_S (As := [.int (nI (g (p0))), .int (zI true)]) (rest := []) E (cc_Id_isNameCharacter l D z (M) (g (p0)) true hb9) ky_Id_isNameCharacter kv_Id_isNameCharacter tw_Id_57 hM hS rfl hl.1 rfl (Nat.le_of_ble_eq_true rfl) dd_Id_pathError_18 (by first | decide | exact ⟨by dsimp only; omega, by dsimp only; omega⟩) (by decide) (fun v M1 H locs hp hM hS => ?_)
          obtain ⟨rfl, hq⟩ := hp
          have hq := hq.symm
          subst hq
          refine mw_topi (y := zI (nc_s (g (p0)))) rfl ?_
          refine W.eq (g2 := F0 m 21 ls [.int (zI (nc_s (g (p0))))]) rfl ?_
          refine lv_if_eq (tgt := 28) hx hb dd_Id_pathError_21 (by decide) (fun h21 => ?_) (fun h21 => ?_)
          ·
            have e2 : q0 = p0 := by
              refine Classical.byContradiction (fun n9 => ?_)
              have h9 := (hnc p0 (Nat.le_refl _) (by omega)).1
              rw [zI_0.mp h21] at h9
              cases h9
            obtain ⟨d0, rfl⟩ : ∃ d0, dd = d0 + 1 := ⟨dd - 1, by omega⟩
            refine lv_iconst (v := nI 0) hx hb dd_Id_pathError_28 (by decide) ?_
            refine mw_topi (y := zI false) (rfl) ?_
            refine lv_istore (lv' := [(4, .int (zI false)), (3, .int (nI p0)), (0, .ref b), (1, .int (nI s0)), (2, .int (nI e0))]) hx hb dd_Id_pathError_29 hl (by decide) rfl (fun ls hl => ?_)
            refine lv_iload hx hb dd_Id_pathError_31 (lv_at hl 0 rfl) ?_
            refine lv_if_ne (tgt := 48) hx hb dd_Id_pathError_33 (by decide) (fun h33 => ?_) (fun h33 => ?_)
            ·
              exact absurd rfl h33
            ·
              refine lv_aload_n hx hb dd_Id_pathError_36 rfl (lv_at hl 2 rfl) ?_
              refine lv_iload_n hx hb dd_Id_pathError_37 rfl (lv_at hl 1 rfl) ?_
              refine mw_V (As := [.int (nI p0)]) (rest := []) E (cc_By_at l D z (M) b r f k (nI (p0)) wb wr hk0) ky_By_at kv_By_at tw_Id_41 hM hS wb rfl rfl rfl hl.1 rfl (Nat.le_of_ble_eq_true rfl) dd_Id_pathError_38 (by first | decide | exact ⟨by dsimp only; omega, by dsimp only; omega⟩) (by decide) (fun v M1 H locs hp hM hS => ?_)
              obtain ⟨rfl, hq⟩ := hp
              have hq := hq.symm
              subst hq
              refine W.eq (g2 := F0 m 41 ls [.int (by_at f k (nI (p0)))]) rfl ?_
              refine mw_topi (y := nI (g (p0))) ((by_at_nI (by omega) (by omega)).trans (hg (p0) (by omega)).1) ?_
              have hb9 := (hg (p0) (by omega)).2
              refine lv_bipush (v := nI 47) hx hb dd_Id_pathError_41 (by decide) ?_
              refine lv_icmp_eq (tgt := 48) hx hb dd_Id_pathError_43 (by decide) (fun h43 => ?_) (fun h43 => ?_)
              ·
                rw [nI_eq (by omega) (by omega)] at h43
                refine lv_iload hx hb dd_Id_pathError_48 (lv_at hl 0 rfl) ?_
                refine lv_if_ne (tgt := 68) hx hb dd_Id_pathError_50 (by decide) (fun h50 => ?_) (fun h50 => ?_)
                ·
                  exact absurd rfl h50
                ·
                  refine lv_aload_n hx hb dd_Id_pathError_53 rfl (lv_at hl 2 rfl) ?_
                  refine lv_iload_n hx hb dd_Id_pathError_54 rfl (lv_at hl 1 rfl) ?_
                  refine lv_iconst (v := nI 1) hx hb dd_Id_pathError_55 (by decide) ?_
                  refine lv_iadd hx hb dd_Id_pathError_56 ?_
                  refine mw_topi (y := nI (p0 + 1)) (nI_add _ _) ?_
                  refine lv_iload_n hx hb dd_Id_pathError_57 rfl (lv_at hl 4 rfl) ?_
                  refine mw_S (As := [.ref b, .int (nI (p0 + 1)), .int (nI e0)]) (rest := []) E (cc_Id_isSegment l D z (M) b r f k g (p0 + 1) e0 wb wr hk0 hg he0 (by omega)) ky_Id_isSegment kv_Id_isSegment tw_Id_61 hM hS rfl hl.1 rfl (Nat.le_of_ble_eq_true rfl) dd_Id_pathError_58 (by first | decide | exact ⟨by dsimp only; omega, by dsimp only; omega⟩) (by decide) (fun v M1 H locs hp hM hS => ?_)
                  obtain ⟨rfl, hq⟩ := hp
                  have hq := hq.symm
                  subst hq
                  refine W.eq (g2 := F0 m 61 ls [.int (zI (!ie_bad g e0 (p0 + 1)))]) rfl ?_
                  refine lv_if_ne (tgt := 68) hx hb dd_Id_pathError_61 (by decide) (fun h61 => ?_) (fun h61 => ?_)
                  ·
                    have hbd : ie_bad g e0 (p0 + 1) = false := by
                      cases hb8 : ie_bad g e0 (p0 + 1) with
                      | false => rfl
                      | true => exact absurd (by rw [hb8]; rfl) h61
                    have hsl := ie_sg_le g (e0 - (p0 + 1)) (p0 + 1)
                    refine lv_iinc (k := 1) (v := nI (p0 + 1)) (lv' := [(3, .int (nI (p0 + 1))), (4, .int (zI false)), (0, .ref b), (1, .int (nI s0)), (2, .int (nI e0))]) hx hb dd_Id_pathError_68 hl rfl (nI_1 _) (by decide) rfl (fun ls hl => ?_)
                    refine lv_goto (tgt := 2) hx hb dd_Id_pathError_71 (by decide) ?_
                    exact ih (p0 + 1) (ie_sg g (e0 - (p0 + 1)) (p0 + 1)) d0 H locs ls (by omega) (by omega) (by rw [hu, e2, ie_pe_3 (by omega) h43 hbd]) (by omega) ⟨hsl.1, by omega⟩ (fun j h1 h2 => ⟨ie_sg_in g _ _ j h1 h2, by omega⟩) ((ie_sg_end g (e0 - (p0 + 1)) (p0 + 1)).elim (fun q => Or.inr (Or.inl (by omega))) (fun q => Or.inr (Or.inr q))) hM hS (lv_sub hl [0, 2, 3, 4] rfl)
                  ·
                    have hbd : ie_bad g e0 (p0 + 1) = true := by
                      cases hb8 : ie_bad g e0 (p0 + 1) with
                      | true => rfl
                      | false => rw [hb8] at h61; exact absurd h61 (by decide)
                    refine lv_iload_n hx hb dd_Id_pathError_64 rfl (lv_at hl 1 rfl) ?_
                    refine lv_iconst (v := nI 1) hx hb dd_Id_pathError_65 (by decide) ?_
                    refine lv_iadd hx hb dd_Id_pathError_66 ?_
                    refine mw_topi (y := nI (p0 + 1)) (nI_add _ _) ?_
                    refine mr_i E hr hk hM hS (by decide) (by decide) ?_ dd_Id_pathError_67
                    exact ⟨by rw [hu, e2, ie_pe_2 (by omega) h43 hbd], rfl⟩
              ·
                rw [nI_eq (by omega) (by omega)] at h43
                refine lv_iload_n hx hb dd_Id_pathError_46 rfl (lv_at hl 1 rfl) ?_
                refine mr_i E hr hk hM hS (by decide) (by decide) ?_ dd_Id_pathError_47
                exact ⟨by rw [hu, e2, ie_pe_1 (by omega) h43], rfl⟩
          ·
            have hlt : p0 < q0 := by
              refine Classical.byContradiction (fun n9 => ?_)
              have e3 : q0 = p0 := by omega
              rcases hqe with h | h | h
              · omega
              · omega
              · rw [e3] at h
                exact h21 (zI_0.mpr h)
            refine lv_iconst (v := nI 1) hx hb dd_Id_pathError_24 (by decide) ?_
            refine mw_topi (y := zI true) (rfl) ?_
            refine lv_goto (tgt := 29) hx hb dd_Id_pathError_25 (by decide) ?_
            refine lv_istore (lv' := [(4, .int (zI true)), (3, .int (nI p0)), (0, .ref b), (1, .int (nI s0)), (2, .int (nI e0))]) hx hb dd_Id_pathError_29 hl (by decide) rfl (fun ls hl => ?_)
            refine lv_iload hx hb dd_Id_pathError_31 (lv_at hl 0 rfl) ?_
            refine lv_if_ne (tgt := 48) hx hb dd_Id_pathError_33 (by decide) (fun h33 => ?_) (fun h33 => ?_)
            ·
              refine lv_iload hx hb dd_Id_pathError_48 (lv_at hl 0 rfl) ?_
              refine lv_if_ne (tgt := 68) hx hb dd_Id_pathError_50 (by decide) (fun h50 => ?_) (fun h50 => ?_)
              ·
                refine lv_iinc (k := 1) (v := nI (p0 + 1)) (lv' := [(3, .int (nI (p0 + 1))), (4, .int (zI true)), (0, .ref b), (1, .int (nI s0)), (2, .int (nI e0))]) hx hb dd_Id_pathError_68 hl rfl (nI_1 _) (by decide) rfl (fun ls hl => ?_)
                refine lv_goto (tgt := 2) hx hb dd_Id_pathError_71 (by decide) ?_
                exact ih (p0 + 1) q0 dd H locs ls (by omega) (by omega) hu hdd ⟨by omega, hqq.2⟩ (fun j h1 h2 => hnc j (by omega) h2) hqe hM hS (lv_sub hl [0, 2, 3, 4] rfl)
              ·
                exact absurd h50 (by decide)
            ·
              exact absurd h33 (by decide)
  exact loop2 (e0 - s0) s0 s0 e0 s.heap [] ls (by omega) (Nat.le_refl _) rfl (by omega) ⟨Nat.le_refl _, hs0⟩ (fun j h1 h2 => absurd h2 (by omega)) (Or.inl rfl) hM hS (lv_sub hl [0, 1, 2, 3] rfl)
theorem ie_err_l {g : Nat → Nat} {a n : Nat} (h : 40 < ie_by g a n) (hn : 40 < n) : ie_err g a n = some 40 := by
  unfold ie_err
  have e0 : (if 40 < n ∧ 40 < ie_by g a n then 40 else ie_by g a n) = 40 := if_pos ⟨hn, h⟩
  rw [e0, if_neg (by omega)]
theorem ie_err_n {g : Nat → Nat} {a n : Nat} (h : ie_by g a n = n + 1) (hn : n ≤ 40) : ie_err g a n = none := by
  unfold ie_err
  have e0 : (if 40 < n ∧ 40 < ie_by g a n then 40 else ie_by g a n) = n + 1 := (if_neg (by omega)).trans h
  rw [e0, if_pos (by omega)]
theorem ie_err_s {g : Nat → Nat} {a n i : Nat} (h : ie_by g a n = i) (hi : i ≤ n) (hn : n ≤ 40 ∨ i ≤ 40) : ie_err g a n = some i := by
  unfold ie_err
  have e0 : (if 40 < n ∧ 40 < ie_by g a n then 40 else ie_by g a n) = i := (if_neg (by omega)).trans h
  rw [e0, if_neg (by omega)]
theorem ie_sc_n2 {g : Nat → Nat} {a n : Nat} : ∀ d j i : Nat, ie_sc g a n d j = some i → j ≤ n → i ≤ n := by
  intro d
  induction d with
  | zero => exact fun j i h _ => by cases h
  | succ d ih =>
    intro j i hj hn
    by_cases h0 : n ≤ j ∨ g (a + j) ≠ ie_ch j
    · rw [ie_sc_y h0] at hj
      cases hj
      exact hn
    · rw [show ie_sc g a n (d + 1) j = ie_sc g a n d (j + 1) from if_neg h0] at hj
      exact ih (j + 1) i hj (Nat.lt_of_not_le (fun q => h0 (Or.inl q)))
theorem cc_Id_firstError (l : Launch) (D : va_G) (z : Nat) (M : mw_M) (b r : Nat) (f : Nat → Int32) (k : Nat) (g : Nat → Nat) (a n : Nat) (wb : M b = some (.inr (1, [.ref r, .int (nI k)]))) (wr : M r = some (.inl (D.1 100, 100, .inl f))) (hk0 : k ≤ 100) (hg : ∀ j : Nat, j < k → f j = nI (g j) ∧ g j < 256) (han : a + n ≤ k) : mw_C l yy_Id_firstError bb_Id_firstError 6 (Option.some Jvm.ClassFile.FieldType.int) 5 108 0 0 D z M [.ref b, .int (nI a), .int (nI (a + n))] (fun v M' => v = some (.int (match ie_err g a n with | some i => nI (a + i) | none => -1)) ∧ M' = M) := by
  refine mw_of (by decide) (Nat.le_of_ble_eq_true rfl) ?_
  intro p e s m below meth c ls E hr hk hnm hM hl
  have hx := E.x
  have hb := E.b
  have E : mw_E p m c bb_Id_firstError 6 s _ D z "IdentityIssuer$Ids" := E
  have hl : lv_has ls 6 [(0, .ref b), (1, .int (nI a)), (2, .int (nI (a + n)))] := hl
  have hS : va_S (mw_A z) s.heap s.heap [] := va_S.rf
  refine lv_aload_n hx hb dd_Id_firstError_0 rfl (lv_at hl 0 rfl) ?_
  refine lv_iload_n hx hb dd_Id_firstError_1 rfl (lv_at hl 1 rfl) ?_
  refine lv_iload_n hx hb dd_Id_firstError_2 rfl (lv_at hl 2 rfl) ?_
  refine mw_S (As := [.ref b, .int (nI a), .int (nI (a + n))]) (rest := []) E (cc_Id_schemeError l D z (M) b r f k g a n wb wr hk0 hg han) ky_Id_schemeError kv_Id_schemeError tw_Id_23 hM hS rfl hl.1 rfl (Nat.le_of_ble_eq_true rfl) dd_Id_firstError_3 (by first | decide | exact ⟨by dsimp only; omega, by dsimp only; omega⟩) (by decide) (fun v M1 H locs hp hM hS => ?_)
  obtain ⟨rfl, hq⟩ := hp
  have hq := hq.symm
  subst hq
  rcases hsc : ie_sc g a n 9 0 with _ | i0
  ·
    refine W.eq (g2 := F0 m 6 ls [.int (-1)]) rfl ?_
    have h9n := ie_sc_len hsc
    refine lv_istore_n (lv' := [(3, .int (-1)), (0, .ref b), (1, .int (nI a)), (2, .int (nI (a + n)))]) hx hb dd_Id_firstError_6 rfl hl (by decide) rfl (fun ls hl => ?_)
    refine lv_iload_n hx hb dd_Id_firstError_7 rfl (lv_at hl 0 rfl) ?_
    refine lv_iconst (v := -1) hx hb dd_Id_firstError_8 (by decide) ?_
    refine lv_icmp_ne (tgt := 50) hx hb dd_Id_firstError_9 (by decide) (fun h9 => ?_) (fun h9 => ?_)
    ·
      exact absurd rfl h9
    ·
      refine lv_iload_n hx hb dd_Id_firstError_12 rfl (lv_at hl 2 rfl) ?_
      refine va_ldcS hx hb E.o E.N.2.2.2.2.2.1 dd_Id_firstError_13 ?_
      refine mw_V0 (As := []) (rest := [.int (nI a)]) E (cc_St_length l D z (M)) ky_St_length kv_St_length tw_Id_29 hM hS (vk_recv (N := 1) (i := 0) (adK := fun _ => D.2 200 4) E.Z.2.2.2.2.2.2 (by decide) hS) rfl hl.1 rfl (Nat.le_of_ble_eq_true rfl) dd_Id_firstError_15 (by first | decide | exact ⟨by dsimp only; omega, by dsimp only; omega⟩) (by decide) (fun v M1 H locs hp hM hS => ?_)
      obtain ⟨rfl, hq⟩ := hp
      have hq := hq.symm
      subst hq
      refine W.eq (g2 := F0 m 18 ls [.int (nI 9), .int (nI a)]) rfl ?_
      refine lv_iadd hx hb dd_Id_firstError_18 ?_
      refine mw_topi (y := nI (a + 9)) (nI_add _ _) ?_
      refine lv_istore (lv' := [(4, .int (nI (a + 9))), (3, .int (-1)), (0, .ref b), (1, .int (nI a)), (2, .int (nI (a + n)))]) hx hb dd_Id_firstError_19 hl (by decide) rfl (fun ls hl => ?_)
      refine lv_aload_n hx hb dd_Id_firstError_21 rfl (lv_at hl 2 rfl) ?_
      refine lv_iload hx hb dd_Id_firstError_22 (lv_at hl 0 rfl) ?_
      refine lv_iload_n hx hb dd_Id_firstError_24 rfl (lv_at hl 4 rfl) ?_
      refine mw_S (As := [.ref b, .int (nI (a + 9)), .int (nI (a + n))]) (rest := []) E (cc_Id_domainEnd l D z (M) b r f k g (a + 9) (a + n) wb wr hk0 hg han (by omega)) ky_Id_domainEnd kv_Id_domainEnd tw_Id_35 hM hS rfl hl.1 rfl (Nat.le_of_ble_eq_true rfl) dd_Id_firstError_25 (by first | decide | exact ⟨by dsimp only; omega, by dsimp only; omega⟩) (by decide) (fun v M1 H locs hp hM hS => ?_)
      obtain ⟨rfl, hq⟩ := hp
      have hq := hq.symm
      subst hq
      refine W.eq (g2 := F0 m 28 ls [.int (nI (ie_de g (a + 9) (a + n)))]) rfl ?_
      have hde := ie_de_le (g := g) (s0 := a + 9) (e := a + n) (by omega)
      refine lv_istore (lv' := [(5, .int (nI (ie_de g (a + 9) (a + n)))), (4, .int (nI (a + 9))), (3, .int (-1)), (0, .ref b), (1, .int (nI a)), (2, .int (nI (a + n)))]) hx hb dd_Id_firstError_28 hl (by decide) rfl (fun ls hl => ?_)
      refine lv_iload hx hb dd_Id_firstError_30 (lv_at hl 0 rfl) ?_
      refine lv_iload hx hb dd_Id_firstError_32 (lv_at hl 1 rfl) ?_
      refine lv_icmp_ne (tgt := 42) hx hb dd_Id_firstError_34 (by decide) (fun h34 => ?_) (fun h34 => ?_)
      ·
        rw [nI_eq (by omega) (by omega)] at h34
        refine lv_aload_n hx hb dd_Id_firstError_42 rfl (lv_at hl 3 rfl) ?_
        refine lv_iload hx hb dd_Id_firstError_43 (lv_at hl 0 rfl) ?_
        refine lv_iload_n hx hb dd_Id_firstError_45 rfl (lv_at hl 5 rfl) ?_
        refine mw_S (As := [.ref b, .int (nI (ie_de g (a + 9) (a + n))), .int (nI (a + n))]) (rest := []) E (cc_Id_pathError l D z (M) b r f k g (ie_de g (a + 9) (a + n)) (a + n) wb wr hk0 hg han (by omega)) ky_Id_pathError kv_Id_pathError tw_Id_38 hM hS rfl hl.1 rfl (Nat.le_of_ble_eq_true rfl) dd_Id_firstError_46 (by first | decide | exact ⟨by dsimp only; omega, by dsimp only; omega⟩) (by decide) (fun v M1 H locs hp hM hS => ?_)
        obtain ⟨rfl, hq⟩ := hp
        have hq := hq.symm
        subst hq
        rcases hpe : ie_pe g (a + n) (a + n) (ie_de g (a + 9) (a + n)) with _ | q0
        ·
          refine W.eq (g2 := F0 m 49 ls [.int (-1)]) rfl ?_
          have hby : ie_by g a n = n + 1 := by unfold ie_by; rw [hsc]; show (if _ then _ else _) = _; rw [if_neg h34, hpe]
          refine lv_istore_n (lv' := [(3, .int (-1)), (5, .int (nI (ie_de g (a + 9) (a + n)))), (4, .int (nI (a + 9))), (0, .ref b), (1, .int (nI a)), (2, .int (nI (a + n)))]) hx hb dd_Id_firstError_49 rfl hl (by decide) rfl (fun ls hl => ?_)
          refine lv_iload_n hx hb dd_Id_firstError_50 rfl (lv_at hl 4 rfl) ?_
          refine lv_bipush (v := nI 40) hx hb dd_Id_firstError_51 (by decide) ?_
          refine lv_iadd hx hb dd_Id_firstError_53 ?_
          refine mw_topi (y := nI (a + 40)) (nI_add _ _) ?_
          refine lv_istore (lv' := [(4, .int (nI (a + 40))), (3, .int (-1)), (5, .int (nI (ie_de g (a + 9) (a + n)))), (0, .ref b), (1, .int (nI a)), (2, .int (nI (a + n)))]) hx hb dd_Id_firstError_54 hl (by decide) rfl (fun ls hl => ?_)
          refine lv_iload_n hx hb dd_Id_firstError_56 rfl (lv_at hl 5 rfl) ?_
          refine lv_iload hx hb dd_Id_firstError_57 (lv_at hl 0 rfl) ?_
          refine lv_icmp_le (tgt := 77) hx hb dd_Id_firstError_59 (by decide) (fun h59 => ?_) (fun h59 => ?_)
          ·
            rw [nI_leI (by omega) (by omega)] at h59
            refine lv_iconst (v := nI 0) hx hb dd_Id_firstError_77 (by decide) ?_
            refine lv_istore (lv' := [(5, .int (nI 0)), (4, .int (nI (a + 40))), (3, .int (-1)), (0, .ref b), (1, .int (nI a)), (2, .int (nI (a + n)))]) hx hb dd_Id_firstError_78 hl (by decide) rfl (fun ls hl => ?_)
            refine lv_iload hx hb dd_Id_firstError_80 (lv_at hl 0 rfl) ?_
            refine lv_if_eq (tgt := 90) hx hb dd_Id_firstError_82 (by decide) (fun h82 => ?_) (fun h82 => ?_)
            ·
              refine lv_iload_n hx hb dd_Id_firstError_90 rfl (lv_at hl 2 rfl) ?_
              refine mr_i E hr hk hM hS (by decide) (by decide) ?_ dd_Id_firstError_91
              exact ⟨by rw [ie_err_n hby (by omega)], rfl⟩
            ·
              exact absurd rfl h82
          ·
            rw [nI_leI (by omega) (by omega)] at h59
            refine lv_iload_n hx hb dd_Id_firstError_62 rfl (lv_at hl 1 rfl) ?_
            refine lv_iconst (v := -1) hx hb dd_Id_firstError_63 (by decide) ?_
            refine lv_icmp_eq (tgt := 73) hx hb dd_Id_firstError_64 (by decide) (fun h64 => ?_) (fun h64 => ?_)
            ·
              refine lv_iconst (v := nI 1) hx hb dd_Id_firstError_73 (by decide) ?_
              refine lv_goto (tgt := 78) hx hb dd_Id_firstError_74 (by decide) ?_
              refine lv_istore (lv' := [(5, .int (nI 1)), (4, .int (nI (a + 40))), (3, .int (-1)), (0, .ref b), (1, .int (nI a)), (2, .int (nI (a + n)))]) hx hb dd_Id_firstError_78 hl (by decide) rfl (fun ls hl => ?_)
              refine lv_iload hx hb dd_Id_firstError_80 (lv_at hl 0 rfl) ?_
              refine lv_if_eq (tgt := 90) hx hb dd_Id_firstError_82 (by decide) (fun h82 => ?_) (fun h82 => ?_)
              ·
                exact absurd h82 (by decide)
              ·
                refine lv_iload hx hb dd_Id_firstError_85 (lv_at hl 1 rfl) ?_
                refine lv_goto (tgt := 91) hx hb dd_Id_firstError_87 (by decide) ?_
                refine mr_i E hr hk hM hS (by decide) (by decide) ?_ dd_Id_firstError_91
                exact ⟨by rw [ie_err_l (by rw [hby]; omega) (by omega)], rfl⟩
            ·
              exact absurd rfl h64
        ·
          have hpl := ie_pe_le _ _ _ hpe
          obtain ⟨j0, rfl⟩ : ∃ j0, q0 = a + j0 := ⟨q0 - a, by omega⟩
          refine W.eq (g2 := F0 m 49 ls [.int (nI (a + j0))]) rfl ?_
          have hby : ie_by g a n = j0 := by unfold ie_by; rw [hsc]; show (if _ then _ else _) = _; rw [if_neg h34, hpe]; show a + j0 - a = j0; omega
          refine lv_istore_n (lv' := [(3, .int (nI (a + j0))), (5, .int (nI (ie_de g (a + 9) (a + n)))), (4, .int (nI (a + 9))), (0, .ref b), (1, .int (nI a)), (2, .int (nI (a + n)))]) hx hb dd_Id_firstError_49 rfl hl (by decide) rfl (fun ls hl => ?_)
          refine lv_iload_n hx hb dd_Id_firstError_50 rfl (lv_at hl 4 rfl) ?_
          refine lv_bipush (v := nI 40) hx hb dd_Id_firstError_51 (by decide) ?_
          refine lv_iadd hx hb dd_Id_firstError_53 ?_
          refine mw_topi (y := nI (a + 40)) (nI_add _ _) ?_
          refine lv_istore (lv' := [(4, .int (nI (a + 40))), (3, .int (nI (a + j0))), (5, .int (nI (ie_de g (a + 9) (a + n)))), (0, .ref b), (1, .int (nI a)), (2, .int (nI (a + n)))]) hx hb dd_Id_firstError_54 hl (by decide) rfl (fun ls hl => ?_)
          refine lv_iload_n hx hb dd_Id_firstError_56 rfl (lv_at hl 5 rfl) ?_
          refine lv_iload hx hb dd_Id_firstError_57 (lv_at hl 0 rfl) ?_
          refine lv_icmp_le (tgt := 77) hx hb dd_Id_firstError_59 (by decide) (fun h59 => ?_) (fun h59 => ?_)
          ·
            rw [nI_leI (by omega) (by omega)] at h59
            refine lv_iconst (v := nI 0) hx hb dd_Id_firstError_77 (by decide) ?_
            refine lv_istore (lv' := [(5, .int (nI 0)), (4, .int (nI (a + 40))), (3, .int (nI (a + j0))), (0, .ref b), (1, .int (nI a)), (2, .int (nI (a + n)))]) hx hb dd_Id_firstError_78 hl (by decide) rfl (fun ls hl => ?_)
            refine lv_iload hx hb dd_Id_firstError_80 (lv_at hl 0 rfl) ?_
            refine lv_if_eq (tgt := 90) hx hb dd_Id_firstError_82 (by decide) (fun h82 => ?_) (fun h82 => ?_)
            ·
              refine lv_iload_n hx hb dd_Id_firstError_90 rfl (lv_at hl 2 rfl) ?_
              refine mr_i E hr hk hM hS (by decide) (by decide) ?_ dd_Id_firstError_91
              exact ⟨by rw [ie_err_s hby (by omega) (by omega)], rfl⟩
            ·
              exact absurd rfl h82
          ·
            rw [nI_leI (by omega) (by omega)] at h59
            refine lv_iload_n hx hb dd_Id_firstError_62 rfl (lv_at hl 1 rfl) ?_
            refine lv_iconst (v := -1) hx hb dd_Id_firstError_63 (by decide) ?_
            refine lv_icmp_eq (tgt := 73) hx hb dd_Id_firstError_64 (by decide) (fun h64 => ?_) (fun h64 => ?_)
            ·
              exact absurd h64.symm (nI_nm1 (by omega))
            ·
              refine lv_iload_n hx hb dd_Id_firstError_67 rfl (lv_at hl 1 rfl) ?_
              refine lv_iload hx hb dd_Id_firstError_68 (lv_at hl 0 rfl) ?_
              refine lv_icmp_le (tgt := 77) hx hb dd_Id_firstError_70 (by decide) (fun h70 => ?_) (fun h70 => ?_)
              ·
                rw [nI_leI (by omega) (by omega)] at h70
                refine lv_iconst (v := nI 0) hx hb dd_Id_firstError_77 (by decide) ?_
                refine lv_istore (lv' := [(5, .int (nI 0)), (4, .int (nI (a + 40))), (3, .int (nI (a + j0))), (0, .ref b), (1, .int (nI a)), (2, .int (nI (a + n)))]) hx hb dd_Id_firstError_78 hl (by decide) rfl (fun ls hl => ?_)
                refine lv_iload hx hb dd_Id_firstError_80 (lv_at hl 0 rfl) ?_
                refine lv_if_eq (tgt := 90) hx hb dd_Id_firstError_82 (by decide) (fun h82 => ?_) (fun h82 => ?_)
                ·
                  refine lv_iload_n hx hb dd_Id_firstError_90 rfl (lv_at hl 2 rfl) ?_
                  refine mr_i E hr hk hM hS (by decide) (by decide) ?_ dd_Id_firstError_91
                  exact ⟨by rw [ie_err_s hby (by omega) (by omega)], rfl⟩
                ·
                  exact absurd rfl h82
              ·
                rw [nI_leI (by omega) (by omega)] at h70
                refine lv_iconst (v := nI 1) hx hb dd_Id_firstError_73 (by decide) ?_
                refine lv_goto (tgt := 78) hx hb dd_Id_firstError_74 (by decide) ?_
                refine lv_istore (lv' := [(5, .int (nI 1)), (4, .int (nI (a + 40))), (3, .int (nI (a + j0))), (0, .ref b), (1, .int (nI a)), (2, .int (nI (a + n)))]) hx hb dd_Id_firstError_78 hl (by decide) rfl (fun ls hl => ?_)
                refine lv_iload hx hb dd_Id_firstError_80 (lv_at hl 0 rfl) ?_
                refine lv_if_eq (tgt := 90) hx hb dd_Id_firstError_82 (by decide) (fun h82 => ?_) (fun h82 => ?_)
                ·
                  exact absurd h82 (by decide)
                ·
                  refine lv_iload hx hb dd_Id_firstError_85 (lv_at hl 1 rfl) ?_
                  refine lv_goto (tgt := 91) hx hb dd_Id_firstError_87 (by decide) ?_
                  refine mr_i E hr hk hM hS (by decide) (by decide) ?_ dd_Id_firstError_91
                  exact ⟨by rw [ie_err_l (by rw [hby]; omega) (by omega)], rfl⟩
      ·
        rw [nI_eq (by omega) (by omega)] at h34
        have hby : ie_by g a n = 9 := by unfold ie_by; rw [hsc]; exact if_pos h34
        have hi0 : 9 ≤ n := h9n
        refine lv_iload hx hb dd_Id_firstError_37 (lv_at hl 1 rfl) ?_
        refine lv_goto (tgt := 49) hx hb dd_Id_firstError_39 (by decide) ?_
        refine lv_istore_n (lv' := [(3, .int (nI (a + 9))), (5, .int (nI (ie_de g (a + 9) (a + n)))), (4, .int (nI (a + 9))), (0, .ref b), (1, .int (nI a)), (2, .int (nI (a + n)))]) hx hb dd_Id_firstError_49 rfl hl (by decide) rfl (fun ls hl => ?_)
        refine lv_iload_n hx hb dd_Id_firstError_50 rfl (lv_at hl 4 rfl) ?_
        refine lv_bipush (v := nI 40) hx hb dd_Id_firstError_51 (by decide) ?_
        refine lv_iadd hx hb dd_Id_firstError_53 ?_
        refine mw_topi (y := nI (a + 40)) (nI_add _ _) ?_
        refine lv_istore (lv' := [(4, .int (nI (a + 40))), (3, .int (nI (a + 9))), (5, .int (nI (ie_de g (a + 9) (a + n)))), (0, .ref b), (1, .int (nI a)), (2, .int (nI (a + n)))]) hx hb dd_Id_firstError_54 hl (by decide) rfl (fun ls hl => ?_)
        refine lv_iload_n hx hb dd_Id_firstError_56 rfl (lv_at hl 5 rfl) ?_
        refine lv_iload hx hb dd_Id_firstError_57 (lv_at hl 0 rfl) ?_
        refine lv_icmp_le (tgt := 77) hx hb dd_Id_firstError_59 (by decide) (fun h59 => ?_) (fun h59 => ?_)
        ·
          rw [nI_leI (by omega) (by omega)] at h59
          refine lv_iconst (v := nI 0) hx hb dd_Id_firstError_77 (by decide) ?_
          refine lv_istore (lv' := [(5, .int (nI 0)), (4, .int (nI (a + 40))), (3, .int (nI (a + 9))), (0, .ref b), (1, .int (nI a)), (2, .int (nI (a + n)))]) hx hb dd_Id_firstError_78 hl (by decide) rfl (fun ls hl => ?_)
          refine lv_iload hx hb dd_Id_firstError_80 (lv_at hl 0 rfl) ?_
          refine lv_if_eq (tgt := 90) hx hb dd_Id_firstError_82 (by decide) (fun h82 => ?_) (fun h82 => ?_)
          ·
            refine lv_iload_n hx hb dd_Id_firstError_90 rfl (lv_at hl 2 rfl) ?_
            refine mr_i E hr hk hM hS (by decide) (by decide) ?_ dd_Id_firstError_91
            exact ⟨by rw [ie_err_s hby (by omega) (by omega)], rfl⟩
          ·
            exact absurd rfl h82
        ·
          rw [nI_leI (by omega) (by omega)] at h59
          refine lv_iload_n hx hb dd_Id_firstError_62 rfl (lv_at hl 1 rfl) ?_
          refine lv_iconst (v := -1) hx hb dd_Id_firstError_63 (by decide) ?_
          refine lv_icmp_eq (tgt := 73) hx hb dd_Id_firstError_64 (by decide) (fun h64 => ?_) (fun h64 => ?_)
          ·
            exact absurd h64.symm (nI_nm1 (by omega))
          ·
            refine lv_iload_n hx hb dd_Id_firstError_67 rfl (lv_at hl 1 rfl) ?_
            refine lv_iload hx hb dd_Id_firstError_68 (lv_at hl 0 rfl) ?_
            refine lv_icmp_le (tgt := 77) hx hb dd_Id_firstError_70 (by decide) (fun h70 => ?_) (fun h70 => ?_)
            ·
              rw [nI_leI (by omega) (by omega)] at h70
              refine lv_iconst (v := nI 0) hx hb dd_Id_firstError_77 (by decide) ?_
              refine lv_istore (lv' := [(5, .int (nI 0)), (4, .int (nI (a + 40))), (3, .int (nI (a + 9))), (0, .ref b), (1, .int (nI a)), (2, .int (nI (a + n)))]) hx hb dd_Id_firstError_78 hl (by decide) rfl (fun ls hl => ?_)
              refine lv_iload hx hb dd_Id_firstError_80 (lv_at hl 0 rfl) ?_
              refine lv_if_eq (tgt := 90) hx hb dd_Id_firstError_82 (by decide) (fun h82 => ?_) (fun h82 => ?_)
              ·
                refine lv_iload_n hx hb dd_Id_firstError_90 rfl (lv_at hl 2 rfl) ?_
                refine mr_i E hr hk hM hS (by decide) (by decide) ?_ dd_Id_firstError_91
                exact ⟨by rw [ie_err_s hby (by omega) (by omega)], rfl⟩
              ·
                exact absurd rfl h82
            ·
              rw [nI_leI (by omega) (by omega)] at h70
              refine lv_iconst (v := nI 1) hx hb dd_Id_firstError_73 (by decide) ?_
              refine lv_goto (tgt := 78) hx hb dd_Id_firstError_74 (by decide) ?_
              refine lv_istore (lv' := [(5, .int (nI 1)), (4, .int (nI (a + 40))), (3, .int (nI (a + 9))), (0, .ref b), (1, .int (nI a)), (2, .int (nI (a + n)))]) hx hb dd_Id_firstError_78 hl (by decide) rfl (fun ls hl => ?_)
              refine lv_iload hx hb dd_Id_firstError_80 (lv_at hl 0 rfl) ?_
              refine lv_if_eq (tgt := 90) hx hb dd_Id_firstError_82 (by decide) (fun h82 => ?_) (fun h82 => ?_)
              ·
                exact absurd h82 (by decide)
              ·
                refine lv_iload hx hb dd_Id_firstError_85 (lv_at hl 1 rfl) ?_
                refine lv_goto (tgt := 91) hx hb dd_Id_firstError_87 (by decide) ?_
                refine mr_i E hr hk hM hS (by decide) (by decide) ?_ dd_Id_firstError_91
                exact ⟨by rw [ie_err_l (by rw [hby]; omega) (by omega)], rfl⟩
  ·
    refine W.eq (g2 := F0 m 6 ls [.int (nI (a + i0))]) rfl ?_
    have hi0 := ie_sc_n2 9 0 i0 hsc (Nat.zero_le _)
    have hby : ie_by g a n = i0 := by unfold ie_by; rw [hsc]
    refine lv_istore_n (lv' := [(3, .int (nI (a + i0))), (0, .ref b), (1, .int (nI a)), (2, .int (nI (a + n)))]) hx hb dd_Id_firstError_6 rfl hl (by decide) rfl (fun ls hl => ?_)
    refine lv_iload_n hx hb dd_Id_firstError_7 rfl (lv_at hl 0 rfl) ?_
    refine lv_iconst (v := -1) hx hb dd_Id_firstError_8 (by decide) ?_
    refine lv_icmp_ne (tgt := 50) hx hb dd_Id_firstError_9 (by decide) (fun h9 => ?_) (fun h9 => ?_)
    ·
      refine lv_iload_n hx hb dd_Id_firstError_50 rfl (lv_at hl 2 rfl) ?_
      refine lv_bipush (v := nI 40) hx hb dd_Id_firstError_51 (by decide) ?_
      refine lv_iadd hx hb dd_Id_firstError_53 ?_
      refine mw_topi (y := nI (a + 40)) (nI_add _ _) ?_
      refine lv_istore (lv' := [(4, .int (nI (a + 40))), (3, .int (nI (a + i0))), (0, .ref b), (1, .int (nI a)), (2, .int (nI (a + n)))]) hx hb dd_Id_firstError_54 hl (by decide) rfl (fun ls hl => ?_)
      refine lv_iload_n hx hb dd_Id_firstError_56 rfl (lv_at hl 4 rfl) ?_
      refine lv_iload hx hb dd_Id_firstError_57 (lv_at hl 0 rfl) ?_
      refine lv_icmp_le (tgt := 77) hx hb dd_Id_firstError_59 (by decide) (fun h59 => ?_) (fun h59 => ?_)
      ·
        rw [nI_leI (by omega) (by omega)] at h59
        refine lv_iconst (v := nI 0) hx hb dd_Id_firstError_77 (by decide) ?_
        refine lv_istore (lv' := [(5, .int (nI 0)), (4, .int (nI (a + 40))), (3, .int (nI (a + i0))), (0, .ref b), (1, .int (nI a)), (2, .int (nI (a + n)))]) hx hb dd_Id_firstError_78 hl (by decide) rfl (fun ls hl => ?_)
        refine lv_iload hx hb dd_Id_firstError_80 (lv_at hl 0 rfl) ?_
        refine lv_if_eq (tgt := 90) hx hb dd_Id_firstError_82 (by decide) (fun h82 => ?_) (fun h82 => ?_)
        ·
          refine lv_iload_n hx hb dd_Id_firstError_90 rfl (lv_at hl 2 rfl) ?_
          refine mr_i E hr hk hM hS (by decide) (by decide) ?_ dd_Id_firstError_91
          exact ⟨by rw [ie_err_s hby (by omega) (by omega)], rfl⟩
        ·
          exact absurd rfl h82
      ·
        rw [nI_leI (by omega) (by omega)] at h59
        refine lv_iload_n hx hb dd_Id_firstError_62 rfl (lv_at hl 1 rfl) ?_
        refine lv_iconst (v := -1) hx hb dd_Id_firstError_63 (by decide) ?_
        refine lv_icmp_eq (tgt := 73) hx hb dd_Id_firstError_64 (by decide) (fun h64 => ?_) (fun h64 => ?_)
        ·
          exact absurd h64.symm (nI_nm1 (by omega))
        ·
          refine lv_iload_n hx hb dd_Id_firstError_67 rfl (lv_at hl 1 rfl) ?_
          refine lv_iload hx hb dd_Id_firstError_68 (lv_at hl 0 rfl) ?_
          refine lv_icmp_le (tgt := 77) hx hb dd_Id_firstError_70 (by decide) (fun h70 => ?_) (fun h70 => ?_)
          ·
            rw [nI_leI (by omega) (by omega)] at h70
            refine lv_iconst (v := nI 0) hx hb dd_Id_firstError_77 (by decide) ?_
            refine lv_istore (lv' := [(5, .int (nI 0)), (4, .int (nI (a + 40))), (3, .int (nI (a + i0))), (0, .ref b), (1, .int (nI a)), (2, .int (nI (a + n)))]) hx hb dd_Id_firstError_78 hl (by decide) rfl (fun ls hl => ?_)
            refine lv_iload hx hb dd_Id_firstError_80 (lv_at hl 0 rfl) ?_
            refine lv_if_eq (tgt := 90) hx hb dd_Id_firstError_82 (by decide) (fun h82 => ?_) (fun h82 => ?_)
            ·
              refine lv_iload_n hx hb dd_Id_firstError_90 rfl (lv_at hl 2 rfl) ?_
              refine mr_i E hr hk hM hS (by decide) (by decide) ?_ dd_Id_firstError_91
              exact ⟨by rw [ie_err_s hby (by omega) (by omega)], rfl⟩
            ·
              exact absurd rfl h82
          ·
            rw [nI_leI (by omega) (by omega)] at h70
            refine lv_iconst (v := nI 1) hx hb dd_Id_firstError_73 (by decide) ?_
            refine lv_goto (tgt := 78) hx hb dd_Id_firstError_74 (by decide) ?_
            refine lv_istore (lv' := [(5, .int (nI 1)), (4, .int (nI (a + 40))), (3, .int (nI (a + i0))), (0, .ref b), (1, .int (nI a)), (2, .int (nI (a + n)))]) hx hb dd_Id_firstError_78 hl (by decide) rfl (fun ls hl => ?_)
            refine lv_iload hx hb dd_Id_firstError_80 (lv_at hl 0 rfl) ?_
            refine lv_if_eq (tgt := 90) hx hb dd_Id_firstError_82 (by decide) (fun h82 => ?_) (fun h82 => ?_)
            ·
              exact absurd h82 (by decide)
            ·
              refine lv_iload hx hb dd_Id_firstError_85 (lv_at hl 1 rfl) ?_
              refine lv_goto (tgt := 91) hx hb dd_Id_firstError_87 (by decide) ?_
              refine mr_i E hr hk hM hS (by decide) (by decide) ?_ dd_Id_firstError_91
              exact ⟨by rw [ie_err_l (by rw [hby]; omega) (by omega)], rfl⟩
    ·
      exact absurd h9.symm (nI_nm1 (by have := ie_sc_lt 9 0 i0 hsc; omega))
