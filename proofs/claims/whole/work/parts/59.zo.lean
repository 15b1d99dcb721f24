/-! the reference: entry, remove, attest -/
def en_wr (Ln Dn : Nat → Nat) (G : Nat → Nat → Nat) (i0 j0 : Nat) (s0 t0 f0 : Int32) : Prop := ¬ (0 < i0 ∧ Dn i0 < Ln i0 ∧ id_ours Dn G i0) ∨ ¬ id_ours Dn G j0 ∨ mo_out s0 (nI 1) (nI 65535) = true ∨ mo_out t0 (nI 1) (nI 64) = true ∨ mo_out f0 (nI 0) (nI 15) = true
theorem mo_hasN {j k : Nat} (h : j < k) (hk : k < 2 ^ 31) : (!xi_has k (nI j)) = false := by rw [xi_hasN h hk]; rfl
theorem mq_es_len (A : Nat → Nat → Int32) (n : Nat) : (mq_es A n).length ≤ n := Nat.le_trans (List.length_filter_le _ _) (by rw [List.length_range]; exact Nat.le_refl _)
theorem cc_Mo_entry_w (l : Launch) (D : va_G) (z : Nat) (M : mw_M) (mm : Nat) (ra : Nat → Nat) (V : Nat → Int32) (A : Nat → Nat → Int32) (S : Nat → Int64) (ic : Nat) (Ln Dn : Nat → Nat) (G : Nat → Nat → Nat) (i0 j0 : Nat) (s0 t0 f0 : Int32) (mk : Nat) (hR : mq_R D M mm ra V A S) (hJ : mi_at V A ic Ln Dn G) (hO : id_ok ic Ln Dn G) (hi0 : i0 < ic) (hj0 : j0 < ic) (hv15 : V 15 = nI mk) (hmk : mk ≤ 60) (hW : en_wr Ln Dn G i0 j0 s0 t0 f0) : mw_C l yy_Mo_entry bb_Mo_entry 8 (Option.some Jvm.ClassFile.FieldType.int) 2 44 0 0 D z M [.ref mm, .int (nI i0), .int (nI j0), .int (s0), .int (t0), .int (f0)] (fun v M' => v = some (.int (-1002)) ∧ M' = M) := by
  refine mw_of (by decide) (Nat.le_of_ble_eq_true rfl) ?_
  intro p e s m below meth c ls E hr hk hnm hM hl
  have hx := E.x
  have hb := E.b
  have E : mw_E p m c bb_Mo_entry 8 s _ D z "IdentityIssuerModel" := E
  have hl : lv_has ls 8 [(0, .ref mm), (1, .int (nI i0)), (2, .int (nI j0)), (3, .int (s0)), (4, .int (t0)), (5, .int (f0))] := hl
  have hS : va_S (mw_A z) s.heap s.heap [] := va_S.rf
  have hic := hO.1
  have hv4 := hJ.1
  refine lv_iload_n hx hb dd_Mo_entry_0 rfl (lv_at hl 1 rfl) ?_
  refine lv_iconst (v := nI 0) hx hb dd_Mo_entry_1 (by decide) ?_
  refine lv_aload_n hx hb dd_Mo_entry_2 rfl (lv_at hl 0 rfl) ?_
  refine gf_Mo_150 E hM hR.m ((mo_at (by decide)).trans (congrArg some (mq_vi rfl hv4))) dd_Mo_entry_3 ?_
  refine lv_iconst (v := nI 1) hx hb dd_Mo_entry_6 (by decide) ?_
  refine lv_isub hx hb dd_Mo_entry_7 ?_
  refine mw_S (As := [.int (nI i0), .int (nI 0), .int ((nI ic) - (nI 1))]) (rest := []) E (cc_Mo_outside l D z (M) (nI i0) (nI 0) (nI ic - nI 1)) ky_Mo_outside kv_Mo_outside tw_Mo_118 hM hS rfl hl.1 rfl (Nat.le_of_ble_eq_true rfl) dd_Mo_entry_8 (by first | decide | exact ⟨by dsimp only; omega, by dsimp only; omega⟩) (by decide) (fun v M1 H locs hp hM hS => ?_)
  obtain ⟨rfl, hq⟩ := hp
  have hq := hq.symm
  subst hq
  rw [mo_out_has (by omega), mo_hasN hi0 (by omega)]
  refine W.eq (g2 := F0 m 11 ls [.int (zI false)]) rfl ?_
  refine lv_if_ne (tgt := 28) hx hb dd_Mo_entry_11 (by decide) (fun h11 => ?_) (fun h11 => ?_)
  ·
    exact absurd rfl h11
  ·
    refine lv_iload_n hx hb dd_Mo_entry_14 rfl (lv_at hl 2 rfl) ?_
    refine lv_iconst (v := nI 0) hx hb dd_Mo_entry_15 (by decide) ?_
    refine lv_aload_n hx hb dd_Mo_entry_16 rfl (lv_at hl 0 rfl) ?_
    refine gf_Mo_150 E hM hR.m ((mo_at (by decide)).trans (congrArg some (mq_vi rfl hv4))) dd_Mo_entry_17 ?_
    refine lv_iconst (v := nI 1) hx hb dd_Mo_entry_20 (by decide) ?_
    refine lv_isub hx hb dd_Mo_entry_21 ?_
    refine mw_S (As := [.int (nI j0), .int (nI 0), .int ((nI ic) - (nI 1))]) (rest := []) E (cc_Mo_outside l D z (M) (nI j0) (nI 0) (nI ic - nI 1)) ky_Mo_outside kv_Mo_outside tw_Mo_118 hM hS rfl hl.1 rfl (Nat.le_of_ble_eq_true rfl) dd_Mo_entry_22 (by first | decide | exact ⟨by dsimp only; omega, by dsimp only; omega⟩) (by decide) (fun v M1 H locs hp hM hS => ?_)
    obtain ⟨rfl, hq⟩ := hp
    have hq := hq.symm
    subst hq
    rw [mo_out_has (by omega), mo_hasN hj0 (by omega)]
    refine W.eq (g2 := F0 m 25 ls [.int (zI false)]) rfl ?_
    refine lv_if_eq (tgt := 32) hx hb dd_Mo_entry_25 (by decide) (fun h25 => ?_) (fun h25 => ?_)
    ·
      refine lv_aload_n hx hb dd_Mo_entry_32 rfl (lv_at hl 0 rfl) ?_
      refine lv_iload_n hx hb dd_Mo_entry_33 rfl (lv_at hl 1 rfl) ?_
      refine mw_V (As := [.int (nI i0)]) (rest := []) E (cc_Mo_goodI l D z (M) mm ra V A S ic Ln Dn G i0 hR hJ hO hi0) ky_Mo_good kv_Mo_good tw_Mo_163 hM hS hR.m rfl rfl rfl hl.1 rfl (Nat.le_of_ble_eq_true rfl) dd_Mo_entry_34 (by first | decide | exact ⟨by dsimp only; omega, by dsimp only; omega⟩) (by decide) (fun v M1 H locs hp hM hS => ?_)
      obtain ⟨b1, rfl, hb1, hq⟩ := hp
      have hq := hq.symm
      subst hq
      refine W.eq (g2 := F0 m 37 ls [.int (zI b1)]) rfl ?_
      refine lv_if_eq (tgt := 80) hx hb dd_Mo_entry_37 (by decide) (fun h37 => ?_) (fun h37 => ?_)
      ·
        refine lv_sipush (v := -1002) hx hb dd_Mo_entry_80 (by decide) ?_
        refine mr_i E hr hk hM hS (by decide) (by decide) ?_ dd_Mo_entry_83
        exact ⟨rfl, rfl⟩
      ·
        refine lv_aload_n hx hb dd_Mo_entry_40 rfl (lv_at hl 0 rfl) ?_
        refine lv_iload_n hx hb dd_Mo_entry_41 rfl (lv_at hl 2 rfl) ?_
        refine mw_V (As := [.int (nI j0)]) (rest := []) E (cc_Mo_ours l D z (M) mm ra V A S ic Ln Dn G j0 hR hJ hO hj0) ky_Mo_ours kv_Mo_ours tw_Mo_160 hM hS hR.m rfl rfl rfl hl.1 rfl (Nat.le_of_ble_eq_true rfl) dd_Mo_entry_42 (by first | decide | exact ⟨by dsimp only; omega, by dsimp only; omega⟩) (by decide) (fun v M1 H locs hp hM hS => ?_)
        obtain ⟨b2, rfl, hb2, hq⟩ := hp
        have hq := hq.symm
        subst hq
        refine W.eq (g2 := F0 m 45 ls [.int (zI b2)]) rfl ?_
        refine lv_if_eq (tgt := 80) hx hb dd_Mo_entry_45 (by decide) (fun h45 => ?_) (fun h45 => ?_)
        ·
          refine lv_sipush (v := -1002) hx hb dd_Mo_entry_80 (by decide) ?_
          refine mr_i E hr hk hM hS (by decide) (by decide) ?_ dd_Mo_entry_83
          exact ⟨rfl, rfl⟩
        ·
          refine lv_iload_n hx hb dd_Mo_entry_48 rfl (lv_at hl 3 rfl) ?_
          refine lv_iconst (v := nI 1) hx hb dd_Mo_entry_49 (by decide) ?_
          refine lv_ldc (v := 65535) hx hb E.o (E.t _ tw_Mo_166) dd_Mo_entry_50 ?_
          refine mw_topi (y := nI 65535) (by decide) ?_
          refine mw_S (As := [.int (s0), .int (nI 1), .int (nI 65535)]) (rest := []) E (cc_Mo_outside l D z (M) s0 (nI 1) (nI 65535)) ky_Mo_outside kv_Mo_outside tw_Mo_118 hM hS rfl hl.1 rfl (Nat.le_of_ble_eq_true rfl) dd_Mo_entry_52 (by first | decide | exact ⟨by dsimp only; omega, by dsimp only; omega⟩) (by decide) (fun v M1 H locs hp hM hS => ?_)
          obtain ⟨rfl, hq⟩ := hp
          have hq := hq.symm
          subst hq
          refine W.eq (g2 := F0 m 55 ls [.int (zI (mo_out s0 (nI 1) (nI 65535)))]) rfl ?_
          refine lv_if_ne (tgt := 80) hx hb dd_Mo_entry_55 (by decide) (fun h55 => ?_) (fun h55 => ?_)
          ·
            refine lv_sipush (v := -1002) hx hb dd_Mo_entry_80 (by decide) ?_
            refine mr_i E hr hk hM hS (by decide) (by decide) ?_ dd_Mo_entry_83
            exact ⟨rfl, rfl⟩
          ·
            refine lv_iload hx hb dd_Mo_entry_58 (lv_at hl 4 rfl) ?_
            refine lv_iconst (v := nI 1) hx hb dd_Mo_entry_60 (by decide) ?_
            refine lv_bipush (v := nI 64) hx hb dd_Mo_entry_61 (by decide) ?_
            refine mw_S (As := [.int (t0), .int (nI 1), .int (nI 64)]) (rest := []) E (cc_Mo_outside l D z (M) t0 (nI 1) (nI 64)) ky_Mo_outside kv_Mo_outside tw_Mo_118 hM hS rfl hl.1 rfl (Nat.le_of_ble_eq_true rfl) dd_Mo_entry_63 (by first | decide | exact ⟨by dsimp only; omega, by dsimp only; omega⟩) (by decide) (fun v M1 H locs hp hM hS => ?_)
            obtain ⟨rfl, hq⟩ := hp
            have hq := hq.symm
            subst hq
            refine W.eq (g2 := F0 m 66 ls [.int (zI (mo_out t0 (nI 1) (nI 64)))]) rfl ?_
            refine lv_if_ne (tgt := 80) hx hb dd_Mo_entry_66 (by decide) (fun h66 => ?_) (fun h66 => ?_)
            ·
              refine lv_sipush (v := -1002) hx hb dd_Mo_entry_80 (by decide) ?_
              refine mr_i E hr hk hM hS (by decide) (by decide) ?_ dd_Mo_entry_83
              exact ⟨rfl, rfl⟩
            ·
              refine lv_iload hx hb dd_Mo_entry_69 (lv_at hl 5 rfl) ?_
              refine lv_iconst (v := nI 0) hx hb dd_Mo_entry_71 (by decide) ?_
              refine lv_bipush (v := nI 15) hx hb dd_Mo_entry_72 (by decide) ?_
              refine mw_S (As := [.int (f0), .int (nI 0), .int (nI 15)]) (rest := []) E (cc_Mo_outside l D z (M) f0 (nI 0) (nI 15)) ky_Mo_outside kv_Mo_outside tw_Mo_118 hM hS rfl hl.1 rfl (Nat.le_of_ble_eq_true rfl) dd_Mo_entry_74 (by first | decide | exact ⟨by dsimp only; omega, by dsimp only; omega⟩) (by decide) (fun v M1 H locs hp hM hS => ?_)
              obtain ⟨rfl, hq⟩ := hp
              have hq := hq.symm
              subst hq
              refine W.eq (g2 := F0 m 77 ls [.int (zI (mo_out f0 (nI 0) (nI 15)))]) rfl ?_
              refine lv_if_eq (tgt := 84) hx hb dd_Mo_entry_77 (by decide) (fun h77 => ?_) (fun h77 => ?_)
              ·
                exact absurd hW (fun q => q.elim (fun q => q (hb1.mp (Bool.of_not_eq_false (fun q => h37 (zI_0.mpr q))))) (fun q => q.elim (fun q => q (hb2.mp (Bool.of_not_eq_false (fun q => h45 (zI_0.mpr q))))) (fun q => q.elim (fun q => absurd q (by rw [zI_0.mp h55]; decide)) (fun q => q.elim (fun q => absurd q (by rw [zI_0.mp h66]; decide)) (fun q => absurd q (by rw [zI_0.mp h77]; decide))))))
              ·
                refine lv_sipush (v := -1002) hx hb dd_Mo_entry_80 (by decide) ?_
                refine mr_i E hr hk hM hS (by decide) (by decide) ?_ dd_Mo_entry_83
                exact ⟨rfl, rfl⟩
    ·
      exact absurd rfl h25
theorem cc_Mo_entry_f (l : Launch) (D : va_G) (z : Nat) (M : mw_M) (mm : Nat) (ra : Nat → Nat) (V : Nat → Int32) (A : Nat → Nat → Int32) (S : Nat → Int64) (ic : Nat) (Ln Dn : Nat → Nat) (G : Nat → Nat → Nat) (i0 j0 : Nat) (s0 t0 f0 : Int32) (mk : Nat) (hR : mq_R D M mm ra V A S) (hJ : mi_at V A ic Ln Dn G) (hO : id_ok ic Ln Dn G) (hi0 : i0 < ic) (hj0 : j0 < ic) (hv15 : V 15 = nI mk) (hmk : mk ≤ 60) (hW : ¬ en_wr Ln Dn G i0 j0 s0 t0 f0) (hF9 : mk = 60 ∨ (mq_es A mk).length = 12) : mw_C l yy_Mo_entry bb_Mo_entry 8 (Option.some Jvm.ClassFile.FieldType.int) 2 44 0 0 D z M [.ref mm, .int (nI i0), .int (nI j0), .int (s0), .int (t0), .int (f0)] (fun v M' => v = some (.int (-1003)) ∧ M' = M) := by
  refine mw_of (by decide) (Nat.le_of_ble_eq_true rfl) ?_
  intro p e s m below meth c ls E hr hk hnm hM hl
  have hx := E.x
  have hb := E.b
  have E : mw_E p m c bb_Mo_entry 8 s _ D z "IdentityIssuerModel" := E
  have hl : lv_has ls 8 [(0, .ref mm), (1, .int (nI i0)), (2, .int (nI j0)), (3, .int (s0)), (4, .int (t0)), (5, .int (f0))] := hl
  have hS : va_S (mw_A z) s.heap s.heap [] := va_S.rf
  have hic := hO.1
  have hv4 := hJ.1
  refine lv_iload_n hx hb dd_Mo_entry_0 rfl (lv_at hl 1 rfl) ?_
  refine lv_iconst (v := nI 0) hx hb dd_Mo_entry_1 (by decide) ?_
  refine lv_aload_n hx hb dd_Mo_entry_2 rfl (lv_at hl 0 rfl) ?_
  refine gf_Mo_150 E hM hR.m ((mo_at (by decide)).trans (congrArg some (mq_vi rfl hv4))) dd_Mo_entry_3 ?_
  refine lv_iconst (v := nI 1) hx hb dd_Mo_entry_6 (by decide) ?_
  refine lv_isub hx hb dd_Mo_entry_7 ?_
  refine mw_S (As := [.int (nI i0), .int (nI 0), .int ((nI ic) - (nI 1))]) (rest := []) E (cc_Mo_outside l D z (M) (nI i0) (nI 0) (nI ic - nI 1)) ky_Mo_outside kv_Mo_outside tw_Mo_118 hM hS rfl hl.1 rfl (Nat.le_of_ble_eq_true rfl) dd_Mo_entry_8 (by first | decide | exact ⟨by dsimp only; omega, by dsimp only; omega⟩) (by decide) (fun v M1 H locs hp hM hS => ?_)
  obtain ⟨rfl, hq⟩ := hp
  have hq := hq.symm
  subst hq
  rw [mo_out_has (by omega), mo_hasN hi0 (by omega)]
  refine W.eq (g2 := F0 m 11 ls [.int (zI false)]) rfl ?_
  refine lv_if_ne (tgt := 28) hx hb dd_Mo_entry_11 (by decide) (fun h11 => ?_) (fun h11 => ?_)
  ·
    exact absurd rfl h11
  ·
    refine lv_iload_n hx hb dd_Mo_entry_14 rfl (lv_at hl 2 rfl) ?_
    refine lv_iconst (v := nI 0) hx hb dd_Mo_entry_15 (by decide) ?_
    refine lv_aload_n hx hb dd_Mo_entry_16 rfl (lv_at hl 0 rfl) ?_
    refine gf_Mo_150 E hM hR.m ((mo_at (by decide)).trans (congrArg some (mq_vi rfl hv4))) dd_Mo_entry_17 ?_
    refine lv_iconst (v := nI 1) hx hb dd_Mo_entry_20 (by decide) ?_
    refine lv_isub hx hb dd_Mo_entry_21 ?_
    refine mw_S (As := [.int (nI j0), .int (nI 0), .int ((nI ic) - (nI 1))]) (rest := []) E (cc_Mo_outside l D z (M) (nI j0) (nI 0) (nI ic - nI 1)) ky_Mo_outside kv_Mo_outside tw_Mo_118 hM hS rfl hl.1 rfl (Nat.le_of_ble_eq_true rfl) dd_Mo_entry_22 (by first | decide | exact ⟨by dsimp only; omega, by dsimp only; omega⟩) (by decide) (fun v M1 H locs hp hM hS => ?_)
    obtain ⟨rfl, hq⟩ := hp
    have hq := hq.symm
    subst hq
    rw [mo_out_has (by omega), mo_hasN hj0 (by omega)]
    refine W.eq (g2 := F0 m 25 ls [.int (zI false)]) rfl ?_
    refine lv_if_eq (tgt := 32) hx hb dd_Mo_entry_25 (by decide) (fun h25 => ?_) (fun h25 => ?_)
    ·
      refine lv_aload_n hx hb dd_Mo_entry_32 rfl (lv_at hl 0 rfl) ?_
      refine lv_iload_n hx hb dd_Mo_entry_33 rfl (lv_at hl 1 rfl) ?_
      refine mw_V (As := [.int (nI i0)]) (rest := []) E (cc_Mo_goodI l D z (M) mm ra V A S ic Ln Dn G i0 hR hJ hO hi0) ky_Mo_good kv_Mo_good tw_Mo_163 hM hS hR.m rfl rfl rfl hl.1 rfl (Nat.le_of_ble_eq_true rfl) dd_Mo_entry_34 (by first | decide | exact ⟨by dsimp only; omega, by dsimp only; omega⟩) (by decide) (fun v M1 H locs hp hM hS => ?_)
      obtain ⟨b1, rfl, hb1, hq⟩ := hp
      have hq := hq.symm
      subst hq
      refine W.eq (g2 := F0 m 37 ls [.int (zI b1)]) rfl ?_
      refine lv_if_eq (tgt := 80) hx hb dd_Mo_entry_37 (by decide) (fun h37 => ?_) (fun h37 => ?_)
      ·
        exact absurd (show en_wr Ln Dn G i0 j0 s0 t0 f0 from Or.inl (fun q => absurd (hb1.mpr q) (by rw [zI_0.mp h37]; decide))) hW
      ·
        refine lv_aload_n hx hb dd_Mo_entry_40 rfl (lv_at hl 0 rfl) ?_
        refine lv_iload_n hx hb dd_Mo_entry_41 rfl (lv_at hl 2 rfl) ?_
        refine mw_V (As := [.int (nI j0)]) (rest := []) E (cc_Mo_ours l D z (M) mm ra V A S ic Ln Dn G j0 hR hJ hO hj0) ky_Mo_ours kv_Mo_ours tw_Mo_160 hM hS hR.m rfl rfl rfl hl.1 rfl (Nat.le_of_ble_eq_true rfl) dd_Mo_entry_42 (by first | decide | exact ⟨by dsimp only; omega, by dsimp only; omega⟩) (by decide) (fun v M1 H locs hp hM hS => ?_)
        obtain ⟨b2, rfl, hb2, hq⟩ := hp
        have hq := hq.symm
        subst hq
        refine W.eq (g2 := F0 m 45 ls [.int (zI b2)]) rfl ?_
        refine lv_if_eq (tgt := 80) hx hb dd_Mo_entry_45 (by decide) (fun h45 => ?_) (fun h45 => ?_)
        ·
          exact absurd (show en_wr Ln Dn G i0 j0 s0 t0 f0 from Or.inr (Or.inl (fun q => absurd (hb2.mpr q) (by rw [zI_0.mp h45]; decide)))) hW
        ·
          refine lv_iload_n hx hb dd_Mo_entry_48 rfl (lv_at hl 3 rfl) ?_
          refine lv_iconst (v := nI 1) hx hb dd_Mo_entry_49 (by decide) ?_
          refine lv_ldc (v := 65535) hx hb E.o (E.t _ tw_Mo_166) dd_Mo_entry_50 ?_
          refine mw_topi (y := nI 65535) (by decide) ?_
          refine mw_S (As := [.int (s0), .int (nI 1), .int (nI 65535)]) (rest := []) E (cc_Mo_outside l D z (M) s0 (nI 1) (nI 65535)) ky_Mo_outside kv_Mo_outside tw_Mo_118 hM hS rfl hl.1 rfl (Nat.le_of_ble_eq_true rfl) dd_Mo_entry_52 (by first | decide | exact ⟨by dsimp only; omega, by dsimp only; omega⟩) (by decide) (fun v M1 H locs hp hM hS => ?_)
          obtain ⟨rfl, hq⟩ := hp
          have hq := hq.symm
          subst hq
          refine W.eq (g2 := F0 m 55 ls [.int (zI (mo_out s0 (nI 1) (nI 65535)))]) rfl ?_
          refine lv_if_ne (tgt := 80) hx hb dd_Mo_entry_55 (by decide) (fun h55 => ?_) (fun h55 => ?_)
          ·
            exact absurd (show en_wr Ln Dn G i0 j0 s0 t0 f0 from Or.inr (Or.inr (Or.inl (Bool.of_not_eq_false (fun q => h55 (zI_0.mpr q)))))) hW
          ·
            refine lv_iload hx hb dd_Mo_entry_58 (lv_at hl 4 rfl) ?_
            refine lv_iconst (v := nI 1) hx hb dd_Mo_entry_60 (by decide) ?_
            refine lv_bipush (v := nI 64) hx hb dd_Mo_entry_61 (by decide) ?_
            refine mw_S (As := [.int (t0), .int (nI 1), .int (nI 64)]) (rest := []) E (cc_Mo_outside l D z (M) t0 (nI 1) (nI 64)) ky_Mo_outside kv_Mo_outside tw_Mo_118 hM hS rfl hl.1 rfl (Nat.le_of_ble_eq_true rfl) dd_Mo_entry_63 (by first | decide | exact ⟨by dsimp only; omega, by dsimp only; omega⟩) (by decide) (fun v M1 H locs hp hM hS => ?_)
            obtain ⟨rfl, hq⟩ := hp
            have hq := hq.symm
            subst hq
            refine W.eq (g2 := F0 m 66 ls [.int (zI (mo_out t0 (nI 1) (nI 64)))]) rfl ?_
            refine lv_if_ne (tgt := 80) hx hb dd_Mo_entry_66 (by decide) (fun h66 => ?_) (fun h66 => ?_)
            ·
              exact absurd (show en_wr Ln Dn G i0 j0 s0 t0 f0 from Or.inr (Or.inr (Or.inr (Or.inl (Bool.of_not_eq_false (fun q => h66 (zI_0.mpr q))))))) hW
            ·
              refine lv_iload hx hb dd_Mo_entry_69 (lv_at hl 5 rfl) ?_
              refine lv_iconst (v := nI 0) hx hb dd_Mo_entry_71 (by decide) ?_
              refine lv_bipush (v := nI 15) hx hb dd_Mo_entry_72 (by decide) ?_
              refine mw_S (As := [.int (f0), .int (nI 0), .int (nI 15)]) (rest := []) E (cc_Mo_outside l D z (M) f0 (nI 0) (nI 15)) ky_Mo_outside kv_Mo_outside tw_Mo_118 hM hS rfl hl.1 rfl (Nat.le_of_ble_eq_true rfl) dd_Mo_entry_74 (by first | decide | exact ⟨by dsimp only; omega, by dsimp only; omega⟩) (by decide) (fun v M1 H locs hp hM hS => ?_)
              obtain ⟨rfl, hq⟩ := hp
              have hq := hq.symm
              subst hq
              refine W.eq (g2 := F0 m 77 ls [.int (zI (mo_out f0 (nI 0) (nI 15)))]) rfl ?_
              refine lv_if_eq (tgt := 84) hx hb dd_Mo_entry_77 (by decide) (fun h77 => ?_) (fun h77 => ?_)
              ·
                refine lv_iconst (v := nI 0) hx hb dd_Mo_entry_84 (by decide) ?_
                refine lv_istore (lv' := [(6, .int (nI 0)), (0, .ref mm), (1, .int (nI i0)), (2, .int (nI j0)), (3, .int (s0)), (4, .int (t0)), (5, .int (f0))]) hx hb dd_Mo_entry_85 hl (by decide) rfl (fun ls hl => ?_)
                refine lv_iconst (v := nI 0) hx hb dd_Mo_entry_87 (by decide) ?_
                refine lv_istore (lv' := [(7, .int (nI 0)), (6, .int (nI 0)), (0, .ref mm), (1, .int (nI i0)), (2, .int (nI j0)), (3, .int (s0)), (4, .int (t0)), (5, .int (f0))]) hx hb dd_Mo_entry_88 hl (by decide) rfl (fun ls hl => ?_)
                have loop90 : ∀ (d9 : Nat) (n0 e0 : Nat) (H : Heap) (locs : List Loc) (ls : Array Slot), e0 + d9 = mk → n0 = (mq_es A e0).length → mw_at D mg_cl z M H → va_S (mw_A z) s.heap H locs → lv_has ls 8 [(6, .int (nI n0)), (7, .int (nI e0)), (0, .ref mm), (1, .int (nI i0)), (2, .int (nI j0)), (3, .int (s0)), (4, .int (t0)), (5, .int (f0))] → W p l e ({ frames := 2, cells := 0, slots := 0, locals := 44 } : Room) s m ([.ref mm, .int (nI i0), .int (nI j0), .int (s0), .int (t0), .int (f0)] : List Value).toArray below meth c H locs (0) (0) (MQ below (mw_Q D z (fun v M' => v = some (.int (-1003)) ∧ M' = M)) ([.ref mm, .int (nI i0), .int (nI j0), .int (s0), .int (t0), .int (f0)] : List Value).toArray s 0 0 (mw_A z)) (F0 m 90 ls []) := by
                  intro d9
                  induction d9 with
                  | zero =>
                    intro n0 e0 H locs ls hp hu hM hS hl
                    refine lv_iload hx hb dd_Mo_entry_90 (lv_at hl 1 rfl) ?_
                    refine lv_aload_n hx hb dd_Mo_entry_92 rfl (lv_at hl 2 rfl) ?_
                    refine gf_Mo_167 E hM hR.m ((mo_at (by decide)).trans (congrArg some (mq_vi rfl hv15))) dd_Mo_entry_93 ?_
                    refine lv_icmp_ge (tgt := 126) hx hb dd_Mo_entry_96 (by decide) (fun h96 => ?_) (fun h96 => ?_)
                    ·
                      rw [nI_leI (by omega) (by omega)] at h96
                      have hn9 : n0 = (mq_es A mk).length := by rw [hu, show e0 = mk by omega]
                      have hl9 := mq_es_len A mk
                      refine lv_aload_n hx hb dd_Mo_entry_126 rfl (lv_at hl 2 rfl) ?_
                      refine gf_Mo_167 E hM hR.m ((mo_at (by decide)).trans (congrArg some (mq_vi rfl hv15))) dd_Mo_entry_127 ?_
                      refine lv_bipush (v := nI 60) hx hb dd_Mo_entry_130 (by decide) ?_
                      refine lv_icmp_eq (tgt := 142) hx hb dd_Mo_entry_132 (by decide) (fun h132 => ?_) (fun h132 => ?_)
                      ·
                        rw [nI_eq (by omega) (by omega)] at h132
                        refine lv_sipush (v := -1003) hx hb dd_Mo_entry_142 (by decide) ?_
                        refine mr_i E hr hk hM hS (by decide) (by decide) ?_ dd_Mo_entry_145
                        exact ⟨rfl, rfl⟩
                      ·
                        rw [nI_eq (by omega) (by omega)] at h132
                        refine lv_iload hx hb dd_Mo_entry_135 (lv_at hl 0 rfl) ?_
                        refine lv_bipush (v := nI 12) hx hb dd_Mo_entry_137 (by decide) ?_
                        refine lv_icmp_ne (tgt := 146) hx hb dd_Mo_entry_139 (by decide) (fun h139 => ?_) (fun h139 => ?_)
                        ·
                          rw [nI_eq (by omega) (by omega)] at h139
                          omega
                        ·
                          rw [nI_eq (by omega) (by omega)] at h139
                          refine lv_sipush (v := -1003) hx hb dd_Mo_entry_142 (by decide) ?_
                          refine mr_i E hr hk hM hS (by decide) (by decide) ?_ dd_Mo_entry_145
                          exact ⟨rfl, rfl⟩
                    ·
                      rw [nI_leI (by omega) (by omega)] at h96
                      omega
                  | succ d9 ih =>
                    intro n0 e0 H locs ls hp hu hM hS hl
                    refine lv_iload hx hb dd_Mo_entry_90 (lv_at hl 1 rfl) ?_
                    refine lv_aload_n hx hb dd_Mo_entry_92 rfl (lv_at hl 2 rfl) ?_
                    refine gf_Mo_167 E hM hR.m ((mo_at (by decide)).trans (congrArg some (mq_vi rfl hv15))) dd_Mo_entry_93 ?_
                    refine lv_icmp_ge (tgt := 126) hx hb dd_Mo_entry_96 (by decide) (fun h96 => ?_) (fun h96 => ?_)
                    ·
                      rw [nI_leI (by omega) (by omega)] at h96
                      omega
                    ·
                      rw [nI_leI (by omega) (by omega)] at h96
                      refine lv_aload_n hx hb dd_Mo_entry_99 rfl (lv_at hl 2 rfl) ?_
                      refine gf_Mo_29 E hM hR.m ((mo_at (by decide)).trans (congrArg some (mq_va rfl))) dd_Mo_entry_100 ?_
                      have w16 : M (ra 16) = some (.inl (D.1 102, 60, .inl (A 16))) := hR.w 16 rfl (by decide)
                      refine lv_iload hx hb dd_Mo_entry_103 (lv_at hl 1 rfl) ?_
                      refine mw_zald hx hb E.K hM 2 w16 rfl (vp_in_nI (by omega) (by omega)) dd_Mo_entry_105 ?_
                      refine mw_topi (y := (A 16) e0) (by rw [nI_clamp (by omega)]) ?_
                      refine lv_if_eq (tgt := 116) hx hb dd_Mo_entry_106 (by decide) (fun h106 => ?_) (fun h106 => ?_)
                      ·
                        refine lv_iload hx hb dd_Mo_entry_116 (lv_at hl 0 rfl) ?_
                        refine lv_istore (lv' := [(6, .int (nI n0)), (7, .int (nI e0)), (0, .ref mm), (1, .int (nI i0)), (2, .int (nI j0)), (3, .int (s0)), (4, .int (t0)), (5, .int (f0))]) hx hb dd_Mo_entry_118 hl (by decide) rfl (fun ls hl => ?_)
                        refine lv_iinc (k := 1) (v := nI (e0 + 1)) (lv' := [(7, .int (nI (e0 + 1))), (6, .int (nI n0)), (0, .ref mm), (1, .int (nI i0)), (2, .int (nI j0)), (3, .int (s0)), (4, .int (t0)), (5, .int (f0))]) hx hb dd_Mo_entry_120 hl rfl (nI_1 _) (by decide) rfl (fun ls hl => ?_)
                        refine lv_goto (tgt := 90) hx hb dd_Mo_entry_123 (by decide) ?_
                        exact ih n0 (e0 + 1) H locs ls (by omega) (by rw [mq_es_n (mq_thF h106)]; exact hu) hM hS (lv_sub hl [1, 0, 2, 3, 4, 5, 6, 7] rfl)
                      ·
                        refine lv_iload hx hb dd_Mo_entry_109 (lv_at hl 0 rfl) ?_
                        refine lv_iconst (v := nI 1) hx hb dd_Mo_entry_111 (by decide) ?_
                        refine lv_iadd hx hb dd_Mo_entry_112 ?_
                        refine mw_topi (y := nI (n0 + 1)) (nI_add _ _) ?_
                        refine lv_goto (tgt := 118) hx hb dd_Mo_entry_113 (by decide) ?_
                        refine lv_istore (lv' := [(6, .int (nI (n0 + 1))), (7, .int (nI e0)), (0, .ref mm), (1, .int (nI i0)), (2, .int (nI j0)), (3, .int (s0)), (4, .int (t0)), (5, .int (f0))]) hx hb dd_Mo_entry_118 hl (by decide) rfl (fun ls hl => ?_)
                        refine lv_iinc (k := 1) (v := nI (e0 + 1)) (lv' := [(7, .int (nI (e0 + 1))), (6, .int (nI (n0 + 1))), (0, .ref mm), (1, .int (nI i0)), (2, .int (nI j0)), (3, .int (s0)), (4, .int (t0)), (5, .int (f0))]) hx hb dd_Mo_entry_120 hl rfl (nI_1 _) (by decide) rfl (fun ls hl => ?_)
                        refine lv_goto (tgt := 90) hx hb dd_Mo_entry_123 (by decide) ?_
                        exact ih (n0 + 1) (e0 + 1) H locs ls (by omega) (by rw [mq_es_y (mq_thT h106), List.length_append, ← hu]; rfl) hM hS (lv_sub hl [1, 0, 2, 3, 4, 5, 6, 7] rfl)
                exact loop90 mk 0 0 H locs ls (by omega) rfl hM hS (lv_sub hl [1, 0, 2, 3, 4, 5, 6, 7] rfl)
              ·
                exact absurd (show en_wr Ln Dn G i0 j0 s0 t0 f0 from Or.inr (Or.inr (Or.inr (Or.inr (Bool.of_not_eq_false (fun q => h77 (zI_0.mpr q))))))) hW
    ·
      exact absurd rfl h25
theorem cc_Mo_entry_y (l : Launch) (D : va_G) (z : Nat) (M : mw_M) (mm : Nat) (ra : Nat → Nat) (V : Nat → Int32) (A : Nat → Nat → Int32) (S : Nat → Int64) (ic : Nat) (Ln Dn : Nat → Nat) (G : Nat → Nat → Nat) (i0 j0 : Nat) (s0 t0 f0 : Int32) (mk : Nat) (hR : mq_R D M mm ra V A S) (hJ : mi_at V A ic Ln Dn G) (hO : id_ok ic Ln Dn G) (hi0 : i0 < ic) (hj0 : j0 < ic) (hv15 : V 15 = nI mk) (hmk : mk ≤ 60) (hW : ¬ en_wr Ln Dn G i0 j0 s0 t0 f0) (hF9 : ¬ (mk = 60 ∨ (mq_es A mk).length = 12)) : mw_C l yy_Mo_entry bb_Mo_entry 8 (Option.some Jvm.ClassFile.FieldType.int) 2 44 0 0 D z M [.ref mm, .int (nI i0), .int (nI j0), .int (s0), .int (t0), .int (f0)] (fun v M' => v = some (.int (nI mk)) ∧ (∃ A1, mq_R D M' mm ra (va_up V 15 (nI (mk + 1))) A1 S ∧ (∀ k : Nat, k ≠ 16 → k ≠ 17 → k ≠ 18 → k ≠ 19 → k ≠ 20 → k ≠ 21 → A1 k = A k) ∧ A1 16 = upd (A 16) mk (nI 1) ∧ A1 17 = upd (A 17) mk (nI i0) ∧ A1 18 = upd (A 18) mk (nI j0) ∧ A1 19 = upd (A 19) mk s0 ∧ A1 20 = upd (A 20) mk t0 ∧ A1 21 = upd (A 21) mk f0) ∧ mw_fr (mq_P mm ra) M M') := by
  refine mw_of (by decide) (Nat.le_of_ble_eq_true rfl) ?_
  intro p e s m below meth c ls E hr hk hnm hM hl
  have hx := E.x
  have hb := E.b
  have E : mw_E p m c bb_Mo_entry 8 s _ D z "IdentityIssuerModel" := E
  have hl : lv_has ls 8 [(0, .ref mm), (1, .int (nI i0)), (2, .int (nI j0)), (3, .int (s0)), (4, .int (t0)), (5, .int (f0))] := hl
  have hS : va_S (mw_A z) s.heap s.heap [] := va_S.rf
  have hF : mw_fr (mq_P mm ra) M M := mw_fr.rf
  have hic := hO.1
  have hv4 := hJ.1
  refine lv_iload_n hx hb dd_Mo_entry_0 rfl (lv_at hl 1 rfl) ?_
  refine lv_iconst (v := nI 0) hx hb dd_Mo_entry_1 (by decide) ?_
  refine lv_aload_n hx hb dd_Mo_entry_2 rfl (lv_at hl 0 rfl) ?_
  refine gf_Mo_150 E hM hR.m ((mo_at (by decide)).trans (congrArg some (mq_vi rfl hv4))) dd_Mo_entry_3 ?_
  refine lv_iconst (v := nI 1) hx hb dd_Mo_entry_6 (by decide) ?_
  refine lv_isub hx hb dd_Mo_entry_7 ?_
  refine mw_S (As := [.int (nI i0), .int (nI 0), .int ((nI ic) - (nI 1))]) (rest := []) E (cc_Mo_outside l D z (M) (nI i0) (nI 0) (nI ic - nI 1)) ky_Mo_outside kv_Mo_outside tw_Mo_118 hM hS rfl hl.1 rfl (Nat.le_of_ble_eq_true rfl) dd_Mo_entry_8 (by first | decide | exact ⟨by dsimp only; omega, by dsimp only; omega⟩) (by decide) (fun v M1 H locs hp hM hS => ?_)
  obtain ⟨rfl, hq⟩ := hp
  have hq := hq.symm
  subst hq
  rw [mo_out_has (by omega), mo_hasN hi0 (by omega)]
  refine W.eq (g2 := F0 m 11 ls [.int (zI false)]) rfl ?_
  refine lv_if_ne (tgt := 28) hx hb dd_Mo_entry_11 (by decide) (fun h11 => ?_) (fun h11 => ?_)
  ·
    exact absurd rfl h11
  ·
    refine lv_iload_n hx hb dd_Mo_entry_14 rfl (lv_at hl 2 rfl) ?_
    refine lv_iconst (v := nI 0) hx hb dd_Mo_entry_15 (by decide) ?_
    refine lv_aload_n hx hb dd_Mo_entry_16 rfl (lv_at hl 0 rfl) ?_
    refine gf_Mo_150 E hM hR.m ((mo_at (by decide)).trans (congrArg some (mq_vi rfl hv4))) dd_Mo_entry_17 ?_
    refine lv_iconst (v := nI 1) hx hb dd_Mo_entry_20 (by decide) ?_
    refine lv_isub hx hb dd_Mo_entry_21 ?_
    refine mw_S (As := [.int (nI j0), .int (nI 0), .int ((nI ic) - (nI 1))]) (rest := []) E (cc_Mo_outside l D z (M) (nI j0) (nI 0) (nI ic - nI 1)) ky_Mo_outside kv_Mo_outside tw_Mo_118 hM hS rfl hl.1 rfl (Nat.le_of_ble_eq_true rfl) dd_Mo_entry_22 (by first | decide | exact ⟨by dsimp only; omega, by dsimp only; omega⟩) (by decide) (fun v M1 H locs hp hM hS => ?_)
    obtain ⟨rfl, hq⟩ := hp
    have hq := hq.symm
    subst hq
    rw [mo_out_has (by omega), mo_hasN hj0 (by omega)]
    refine W.eq (g2 := F0 m 25 ls [.int (zI false)]) rfl ?_
    refine lv_if_eq (tgt := 32) hx hb dd_Mo_entry_25 (by decide) (fun h25 => ?_) (fun h25 => ?_)
    ·
      refine lv_aload_n hx hb dd_Mo_entry_32 rfl (lv_at hl 0 rfl) ?_
      refine lv_iload_n hx hb dd_Mo_entry_33 rfl (lv_at hl 1 rfl) ?_
      refine mw_V (As := [.int (nI i0)]) (rest := []) E (cc_Mo_goodI l D z (M) mm ra V A S ic Ln Dn G i0 hR hJ hO hi0) ky_Mo_good kv_Mo_good tw_Mo_163 hM hS hR.m rfl rfl rfl hl.1 rfl (Nat.le_of_ble_eq_true rfl) dd_Mo_entry_34 (by first | decide | exact ⟨by dsimp only; omega, by dsimp only; omega⟩) (by decide) (fun v M1 H locs hp hM hS => ?_)
      obtain ⟨b1, rfl, hb1, hq⟩ := hp
      have hq := hq.symm
      subst hq
      refine W.eq (g2 := F0 m 37 ls [.int (zI b1)]) rfl ?_
      refine lv_if_eq (tgt := 80) hx hb dd_Mo_entry_37 (by decide) (fun h37 => ?_) (fun h37 => ?_)
      ·
        exact absurd (show en_wr Ln Dn G i0 j0 s0 t0 f0 from Or.inl (fun q => absurd (hb1.mpr q) (by rw [zI_0.mp h37]; decide))) hW
      ·
        refine lv_aload_n hx hb dd_Mo_entry_40 rfl (lv_at hl 0 rfl) ?_
        refine lv_iload_n hx hb dd_Mo_entry_41 rfl (lv_at hl 2 rfl) ?_
        refine mw_V (As := [.int (nI j0)]) (rest := []) E (cc_Mo_ours l D z (M) mm ra V A S ic Ln Dn G j0 hR hJ hO hj0) ky_Mo_ours kv_Mo_ours tw_Mo_160 hM hS hR.m rfl rfl rfl hl.1 rfl (Nat.le_of_ble_eq_true rfl) dd_Mo_entry_42 (by first | decide | exact ⟨by dsimp only; omega, by dsimp only; omega⟩) (by decide) (fun v M1 H locs hp hM hS => ?_)
        obtain ⟨b2, rfl, hb2, hq⟩ := hp
        have hq := hq.symm
        subst hq
        refine W.eq (g2 := F0 m 45 ls [.int (zI b2)]) rfl ?_
        refine lv_if_eq (tgt := 80) hx hb dd_Mo_entry_45 (by decide) (fun h45 => ?_) (fun h45 => ?_)
        ·
          exact absurd (show en_wr Ln Dn G i0 j0 s0 t0 f0 from Or.inr (Or.inl (fun q => absurd (hb2.mpr q) (by rw [zI_0.mp h45]; decide)))) hW
        ·
          refine lv_iload_n hx hb dd_Mo_entry_48 rfl (lv_at hl 3 rfl) ?_
          refine lv_iconst (v := nI 1) hx hb dd_Mo_entry_49 (by decide) ?_
          refine lv_ldc (v := 65535) hx hb E.o (E.t _ tw_Mo_166) dd_Mo_entry_50 ?_
          refine mw_topi (y := nI 65535) (by decide) ?_
          refine mw_S (As := [.int (s0), .int (nI 1), .int (nI 65535)]) (rest := []) E (cc_Mo_outside l D z (M) s0 (nI 1) (nI 65535)) ky_Mo_outside kv_Mo_outside tw_Mo_118 hM hS rfl hl.1 rfl (Nat.le_of_ble_eq_true rfl) dd_Mo_entry_52 (by first | decide | exact ⟨by dsimp only; omega, by dsimp only; omega⟩) (by decide) (fun v M1 H locs hp hM hS => ?_)
          obtain ⟨rfl, hq⟩ := hp
          have hq := hq.symm
          subst hq
          refine W.eq (g2 := F0 m 55 ls [.int (zI (mo_out s0 (nI 1) (nI 65535)))]) rfl ?_
          refine lv_if_ne (tgt := 80) hx hb dd_Mo_entry_55 (by decide) (fun h55 => ?_) (fun h55 => ?_)
          ·
            exact absurd (show en_wr Ln Dn G i0 j0 s0 t0 f0 from Or.inr (Or.inr (Or.inl (Bool.of_not_eq_false (fun q => h55 (zI_0.mpr q)))))) hW
          ·
            refine lv_iload hx hb dd_Mo_entry_58 (lv_at hl 4 rfl) ?_
            refine lv_iconst (v := nI 1) hx hb dd_Mo_entry_60 (by decide) ?_
            refine lv_bipush (v := nI 64) hx hb dd_Mo_entry_61 (by decide) ?_
            refine mw_S (As := [.int (t0), .int (nI 1), .int (nI 64)]) (rest := []) E (cc_Mo_outside l D z (M) t0 (nI 1) (nI 64)) ky_Mo_outside kv_Mo_outside tw_Mo_118 hM hS rfl hl.1 rfl (Nat.le_of_ble_eq_true rfl) dd_Mo_entry_63 (by first | decide | exact ⟨by dsimp only; omega, by dsimp only; omega⟩) (by decide) (fun v M1 H locs hp hM hS => ?_)
            obtain ⟨rfl, hq⟩ := hp
            have hq := hq.symm
            subst hq
            refine W.eq (g2 := F0 m 66 ls [.int (zI (mo_out t0 (nI 1) (nI 64)))]) rfl ?_
            refine lv_if_ne (tgt := 80) hx hb dd_Mo_entry_66 (by decide) (fun h66 => ?_) (fun h66 => ?_)
            ·
              exact absurd (show en_wr Ln Dn G i0 j0 s0 t0 f0 from Or.inr (Or.inr (Or.inr (Or.inl (Bool.of_not_eq_false (fun q => h66 (zI_0.mpr q))))))) hW
            ·
              refine lv_iload hx hb dd_Mo_entry_69 (lv_at hl 5 rfl) ?_
              refine lv_iconst (v := nI 0) hx hb dd_Mo_entry_71 (by decide) ?_
              refine lv_bipush (v := nI 15) hx hb dd_Mo_entry_72 (by decide) ?_
              refine mw_S (As := [.int (f0), .int (nI 0), .int (nI 15)]) (rest := []) E (cc_Mo_outside l D z (M) f0 (nI 0) (nI 15)) ky_Mo_outside kv_Mo_outside tw_Mo_118 hM hS rfl hl.1 rfl (Nat.le_of_ble_eq_true rfl) dd_Mo_entry_74 (by first | decide | exact ⟨by dsimp only; omega, by dsimp only; omega⟩) (by decide) (fun v M1 H locs hp hM hS => ?_)
              obtain ⟨rfl, hq⟩ := hp
              have hq := hq.symm
              subst hq
              refine W.eq (g2 := F0 m 77 ls [.int (zI (mo_out f0 (nI 0) (nI 15)))]) rfl ?_
              refine lv_if_eq (tgt := 84) hx hb dd_Mo_entry_77 (by decide) (fun h77 => ?_) (fun h77 => ?_)
              ·
                refine lv_iconst (v := nI 0) hx hb dd_Mo_entry_84 (by decide) ?_
                refine lv_istore (lv' := [(6, .int (nI 0)), (0, .ref mm), (1, .int (nI i0)), (2, .int (nI j0)), (3, .int (s0)), (4, .int (t0)), (5, .int (f0))]) hx hb dd_Mo_entry_85 hl (by decide) rfl (fun ls hl => ?_)
                refine lv_iconst (v := nI 0) hx hb dd_Mo_entry_87 (by decide) ?_
                refine lv_istore (lv' := [(7, .int (nI 0)), (6, .int (nI 0)), (0, .ref mm), (1, .int (nI i0)), (2, .int (nI j0)), (3, .int (s0)), (4, .int (t0)), (5, .int (f0))]) hx hb dd_Mo_entry_88 hl (by decide) rfl (fun ls hl => ?_)
                have loop90 : ∀ (d9 : Nat) (n0 e0 : Nat) (H : Heap) (locs : List Loc) (ls : Array Slot), e0 + d9 = mk → n0 = (mq_es A e0).length → mw_at D mg_cl z M H → va_S (mw_A z) s.heap H locs → lv_has ls 8 [(6, .int (nI n0)), (7, .int (nI e0)), (0, .ref mm), (1, .int (nI i0)), (2, .int (nI j0)), (3, .int (s0)), (4, .int (t0)), (5, .int (f0))] → W p l e ({ frames := 2, cells := 0, slots := 0, locals := 44 } : Room) s m ([.ref mm, .int (nI i0), .int (nI j0), .int (s0), .int (t0), .int (f0)] : List Value).toArray below meth c H locs (0) (0) (MQ below (mw_Q D z (fun v M' => v = some (.int (nI mk)) ∧ (∃ A1, mq_R D M' mm ra (va_up V 15 (nI (mk + 1))) A1 S ∧ (∀ k : Nat, k ≠ 16 → k ≠ 17 → k ≠ 18 → k ≠ 19 → k ≠ 20 → k ≠ 21 → A1 k = A k) ∧ A1 16 = upd (A 16) mk (nI 1) ∧ A1 17 = upd (A 17) mk (nI i0) ∧ A1 18 = upd (A 18) mk (nI j0) ∧ A1 19 = upd (A 19) mk s0 ∧ A1 20 = upd (A 20) mk t0 ∧ A1 21 = upd (A 21) mk f0) ∧ mw_fr (mq_P mm ra) M M')) ([.ref mm, .int (nI i0), .int (nI j0), .int (s0), .int (t0), .int (f0)] : List Value).toArray s 0 0 (mw_A z)) (F0 m 90 ls []) := by
                  intro d9
                  induction d9 with
                  | zero =>
                    intro n0 e0 H locs ls hp hu hM hS hl
                    refine lv_iload hx hb dd_Mo_entry_90 (lv_at hl 1 rfl) ?_
                    refine lv_aload_n hx hb dd_Mo_entry_92 rfl (lv_at hl 2 rfl) ?_
                    refine gf_Mo_167 E hM hR.m ((mo_at (by decide)).trans (congrArg some (mq_vi rfl hv15))) dd_Mo_entry_93 ?_
                    refine lv_icmp_ge (tgt := 126) hx hb dd_Mo_entry_96 (by decide) (fun h96 => ?_) (fun h96 => ?_)
                    ·
                      rw [nI_leI (by omega) (by omega)] at h96
                      have hn9 : n0 = (mq_es A mk).length := by rw [hu, show e0 = mk by omega]
                      have hl9 := mq_es_len A mk
                      refine lv_aload_n hx hb dd_Mo_entry_126 rfl (lv_at hl 2 rfl) ?_
                      refine gf_Mo_167 E hM hR.m ((mo_at (by decide)).trans (congrArg some (mq_vi rfl hv15))) dd_Mo_entry_127 ?_
                      refine lv_bipush (v := nI 60) hx hb dd_Mo_entry_130 (by decide) ?_
                      refine lv_icmp_eq (tgt := 142) hx hb dd_Mo_entry_132 (by decide) (fun h132 => ?_) (fun h132 => ?_)
                      ·
                        rw [nI_eq (by omega) (by omega)] at h132
                        omega
                      ·
                        rw [nI_eq (by omega) (by omega)] at h132
                        refine lv_iload hx hb dd_Mo_entry_135 (lv_at hl 0 rfl) ?_
                        refine lv_bipush (v := nI 12) hx hb dd_Mo_entry_137 (by decide) ?_
                        refine lv_icmp_ne (tgt := 146) hx hb dd_Mo_entry_139 (by decide) (fun h139 => ?_) (fun h139 => ?_)
                        ·
                          rw [nI_eq (by omega) (by omega)] at h139
                          refine lv_aload_n hx hb dd_Mo_entry_146 rfl (lv_at hl 2 rfl) ?_
                          refine gf_Mo_29 E hM hR.m ((mo_at (by decide)).trans (congrArg some (mq_va rfl))) dd_Mo_entry_147 ?_
                          have w16 : M (ra 16) = some (.inl (D.1 102, 60, .inl (A 16))) := hR.w 16 rfl (by decide)
                          refine lv_aload_n hx hb dd_Mo_entry_150 rfl (lv_at hl 2 rfl) ?_
                          refine gf_Mo_167 E hM hR.m ((mo_at (by decide)).trans (congrArg some (mq_vi rfl hv15))) dd_Mo_entry_151 ?_
                          refine lv_iconst (v := nI 1) hx hb dd_Mo_entry_154 (by decide) ?_
                          have w16 : M (ra 16) = some (.inl (D.1 102, 60, .inl (A 16))) := hR.w 16 rfl (by decide)
                          refine mw_zast hx hb E.K hM E.zz hS 2 w16 rfl (vp_in_nI (by omega) (by omega)) dd_Mo_entry_155 (fun H locs hM hS => ?_)
                          rw [nI_clamp (by omega)] at hM
                          have hM : mw_at D mg_cl z (va_up M (ra 16) (some (.inl (D.1 102, 60, .inl ((upd (A 16) mk (vp_nar .boolean (nI 1)))))))) H := hM
                          obtain ⟨M1, hM1⟩ : ∃ M9 : mw_M, M9 = va_up M (ra 16) (some (.inl (D.1 102, 60, .inl ((upd (A 16) mk (vp_nar .boolean (nI 1))))))) := ⟨_, rfl⟩
                          rw [← hM1] at hM
                          obtain ⟨A21, hA21⟩ : ∃ A9 : Nat → Nat → Int32, A9 = va_up A 16 (upd (A 16) mk (vp_nar .boolean (nI 1))) := ⟨_, rfl⟩
                          have hR := hR.setA 16 rfl (by decide) hM1 hA21
                          have hF := mw_fu hM1 hF (mq_Pa (k := 16) rfl)
                          refine lv_aload_n hx hb dd_Mo_entry_156 rfl (lv_at hl 2 rfl) ?_
                          refine gf_Mo_33 E hM hR.m ((mo_at (by decide)).trans (congrArg some (mq_va rfl))) dd_Mo_entry_157 ?_
                          have w17 : M1 (ra 17) = some (.inl (D.1 100, 60, .inl (A21 17))) := hR.w 17 rfl (by decide)
                          refine lv_aload_n hx hb dd_Mo_entry_160 rfl (lv_at hl 2 rfl) ?_
                          refine gf_Mo_167 E hM hR.m ((mo_at (by decide)).trans (congrArg some (mq_vi rfl hv15))) dd_Mo_entry_161 ?_
                          refine lv_iload_n hx hb dd_Mo_entry_164 rfl (lv_at hl 3 rfl) ?_
                          have w17 : M1 (ra 17) = some (.inl (D.1 100, 60, .inl (A21 17))) := hR.w 17 rfl (by decide)
                          refine mw_iast hx hb E.K hM E.zz hS 0 w17 rfl (vp_in_nI (by omega) (by omega)) dd_Mo_entry_165 (fun H locs hM hS => ?_)
                          rw [nI_clamp (by omega)] at hM
                          have hM : mw_at D mg_cl z (va_up M1 (ra 17) (some (.inl (D.1 100, 60, .inl ((upd (A21 17) mk (nI i0))))))) H := hM
                          obtain ⟨M1, hM1⟩ : ∃ M9 : mw_M, M9 = va_up M1 (ra 17) (some (.inl (D.1 100, 60, .inl ((upd (A21 17) mk (nI i0)))))) := ⟨_, rfl⟩
                          rw [← hM1] at hM
                          obtain ⟨A22, hA22⟩ : ∃ A9 : Nat → Nat → Int32, A9 = va_up A21 17 (upd (A21 17) mk (nI i0)) := ⟨_, rfl⟩
                          have hR := hR.setA 17 rfl (by decide) hM1 hA22
                          have hF := mw_fu hM1 hF (mq_Pa (k := 17) rfl)
                          refine lv_aload_n hx hb dd_Mo_entry_166 rfl (lv_at hl 2 rfl) ?_
                          refine gf_Mo_36 E hM hR.m ((mo_at (by decide)).trans (congrArg some (mq_va rfl))) dd_Mo_entry_167 ?_
                          have w18 : M1 (ra 18) = some (.inl (D.1 100, 60, .inl (A22 18))) := hR.w 18 rfl (by decide)
                          refine lv_aload_n hx hb dd_Mo_entry_170 rfl (lv_at hl 2 rfl) ?_
                          refine gf_Mo_167 E hM hR.m ((mo_at (by decide)).trans (congrArg some (mq_vi rfl hv15))) dd_Mo_entry_171 ?_
                          refine lv_iload_n hx hb dd_Mo_entry_174 rfl (lv_at hl 4 rfl) ?_
                          have w18 : M1 (ra 18) = some (.inl (D.1 100, 60, .inl (A22 18))) := hR.w 18 rfl (by decide)
                          refine mw_iast hx hb E.K hM E.zz hS 0 w18 rfl (vp_in_nI (by omega) (by omega)) dd_Mo_entry_175 (fun H locs hM hS => ?_)
                          rw [nI_clamp (by omega)] at hM
                          have hM : mw_at D mg_cl z (va_up M1 (ra 18) (some (.inl (D.1 100, 60, .inl ((upd (A22 18) mk (nI j0))))))) H := hM
                          obtain ⟨M1, hM1⟩ : ∃ M9 : mw_M, M9 = va_up M1 (ra 18) (some (.inl (D.1 100, 60, .inl ((upd (A22 18) mk (nI j0)))))) := ⟨_, rfl⟩
                          rw [← hM1] at hM
                          obtain ⟨A23, hA23⟩ : ∃ A9 : Nat → Nat → Int32, A9 = va_up A22 18 (upd (A22 18) mk (nI j0)) := ⟨_, rfl⟩
                          have hR := hR.setA 18 rfl (by decide) hM1 hA23
                          have hF := mw_fu hM1 hF (mq_Pa (k := 18) rfl)
                          refine lv_aload_n hx hb dd_Mo_entry_176 rfl (lv_at hl 2 rfl) ?_
                          refine gf_Mo_39 E hM hR.m ((mo_at (by decide)).trans (congrArg some (mq_va rfl))) dd_Mo_entry_177 ?_
                          have w19 : M1 (ra 19) = some (.inl (D.1 100, 60, .inl (A23 19))) := hR.w 19 rfl (by decide)
                          refine lv_aload_n hx hb dd_Mo_entry_180 rfl (lv_at hl 2 rfl) ?_
                          refine gf_Mo_167 E hM hR.m ((mo_at (by decide)).trans (congrArg some (mq_vi rfl hv15))) dd_Mo_entry_181 ?_
                          refine lv_iload_n hx hb dd_Mo_entry_184 rfl (lv_at hl 5 rfl) ?_
                          have w19 : M1 (ra 19) = some (.inl (D.1 100, 60, .inl (A23 19))) := hR.w 19 rfl (by decide)
                          refine mw_iast hx hb E.K hM E.zz hS 0 w19 rfl (vp_in_nI (by omega) (by omega)) dd_Mo_entry_185 (fun H locs hM hS => ?_)
                          rw [nI_clamp (by omega)] at hM
                          have hM : mw_at D mg_cl z (va_up M1 (ra 19) (some (.inl (D.1 100, 60, .inl ((upd (A23 19) mk s0)))))) H := hM
                          obtain ⟨M1, hM1⟩ : ∃ M9 : mw_M, M9 = va_up M1 (ra 19) (some (.inl (D.1 100, 60, .inl ((upd (A23 19) mk s0))))) := ⟨_, rfl⟩
                          rw [← hM1] at hM
                          obtain ⟨A24, hA24⟩ : ∃ A9 : Nat → Nat → Int32, A9 = va_up A23 19 (upd (A23 19) mk s0) := ⟨_, rfl⟩
                          have hR := hR.setA 19 rfl (by decide) hM1 hA24
                          have hF := mw_fu hM1 hF (mq_Pa (k := 19) rfl)
                          refine lv_aload_n hx hb dd_Mo_entry_186 rfl (lv_at hl 2 rfl) ?_
                          refine gf_Mo_42 E hM hR.m ((mo_at (by decide)).trans (congrArg some (mq_va rfl))) dd_Mo_entry_187 ?_
                          have w20 : M1 (ra 20) = some (.inl (D.1 100, 60, .inl (A24 20))) := hR.w 20 rfl (by decide)
                          refine lv_aload_n hx hb dd_Mo_entry_190 rfl (lv_at hl 2 rfl) ?_
                          refine gf_Mo_167 E hM hR.m ((mo_at (by decide)).trans (congrArg some (mq_vi rfl hv15))) dd_Mo_entry_191 ?_
                          refine lv_iload hx hb dd_Mo_entry_194 (lv_at hl 6 rfl) ?_
                          have w20 : M1 (ra 20) = some (.inl (D.1 100, 60, .inl (A24 20))) := hR.w 20 rfl (by decide)
                          refine mw_iast hx hb E.K hM E.zz hS 0 w20 rfl (vp_in_nI (by omega) (by omega)) dd_Mo_entry_196 (fun H locs hM hS => ?_)
                          rw [nI_clamp (by omega)] at hM
                          have hM : mw_at D mg_cl z (va_up M1 (ra 20) (some (.inl (D.1 100, 60, .inl ((upd (A24 20) mk t0)))))) H := hM
                          obtain ⟨M1, hM1⟩ : ∃ M9 : mw_M, M9 = va_up M1 (ra 20) (some (.inl (D.1 100, 60, .inl ((upd (A24 20) mk t0))))) := ⟨_, rfl⟩
                          rw [← hM1] at hM
                          obtain ⟨A25, hA25⟩ : ∃ A9 : Nat → Nat → Int32, A9 = va_up A24 20 (upd (A24 20) mk t0) := ⟨_, rfl⟩
                          have hR := hR.setA 20 rfl (by decide) hM1 hA25
                          have hF := mw_fu hM1 hF (mq_Pa (k := 20) rfl)
                          refine lv_aload_n hx hb dd_Mo_entry_197 rfl (lv_at hl 2 rfl) ?_
                          refine gf_Mo_45 E hM hR.m ((mo_at (by decide)).trans (congrArg some (mq_va rfl))) dd_Mo_entry_198 ?_
                          have w21 : M1 (ra 21) = some (.inl (D.1 100, 60, .inl (A25 21))) := hR.w 21 rfl (by decide)
                          refine lv_aload_n hx hb dd_Mo_entry_201 rfl (lv_at hl 2 rfl) ?_
                          refine gf_Mo_167 E hM hR.m ((mo_at (by decide)).trans (congrArg some (mq_vi rfl hv15))) dd_Mo_entry_202 ?_
                          refine lv_iload hx hb dd_Mo_entry_205 (lv_at hl 7 rfl) ?_
                          have w21 : M1 (ra 21) = some (.inl (D.1 100, 60, .inl (A25 21))) := hR.w 21 rfl (by decide)
                          refine mw_iast hx hb E.K hM E.zz hS 0 w21 rfl (vp_in_nI (by omega) (by omega)) dd_Mo_entry_207 (fun H locs hM hS => ?_)
                          rw [nI_clamp (by omega)] at hM
                          have hM : mw_at D mg_cl z (va_up M1 (ra 21) (some (.inl (D.1 100, 60, .inl ((upd (A25 21) mk f0)))))) H := hM
                          obtain ⟨M1, hM1⟩ : ∃ M9 : mw_M, M9 = va_up M1 (ra 21) (some (.inl (D.1 100, 60, .inl ((upd (A25 21) mk f0))))) := ⟨_, rfl⟩
                          rw [← hM1] at hM
                          obtain ⟨A26, hA26⟩ : ∃ A9 : Nat → Nat → Int32, A9 = va_up A25 21 (upd (A25 21) mk f0) := ⟨_, rfl⟩
                          have hR := hR.setA 21 rfl (by decide) hM1 hA26
                          have hF := mw_fu hM1 hF (mq_Pa (k := 21) rfl)
                          refine lv_aload_n hx hb dd_Mo_entry_208 rfl (lv_at hl 2 rfl) ?_
                          refine lv_dup hx hb dd_Mo_entry_209 rfl ?_
                          refine gf_Mo_167 E hM hR.m ((mo_at (by decide)).trans (congrArg some (mq_vi rfl hv15))) dd_Mo_entry_210 ?_
                          refine lv_iconst (v := nI 1) hx hb dd_Mo_entry_213 (by decide) ?_
                          refine lv_iadd hx hb dd_Mo_entry_214 ?_
                          refine mw_topi (y := nI (mk + 1)) (nI_add _ _) ?_
                          refine pf_Mo_167 E hM hS hR.m (by rw [mo_len]; decide) dd_Mo_entry_215 (fun H locs hM hS => ?_)
                          rw [mo_set (by decide), mq_vu rfl] at hM
                          obtain ⟨V27, hV27⟩ : ∃ V9 : Nat → Int32, V9 = va_up V 15 (nI (mk + 1)) := ⟨_, rfl⟩
                          rw [← hV27] at hM
                          obtain ⟨M1, hM1⟩ : ∃ M9 : mw_M, M9 = va_up M1 mm (some (.inr (13, mo_l (mq_v ra V27)))) := ⟨_, rfl⟩
                          rw [← hM1] at hM
                          have hR := hR.setV hM1
                          have hF := mw_fu hM1 hF (Or.inl rfl)
                          have hv4 := mq_vn hV27 hv4 (by decide)
                          have hv15 := mq_vs hV27
                          refine lv_aload_n hx hb dd_Mo_entry_218 rfl (lv_at hl 2 rfl) ?_
                          refine gf_Mo_167 E hM hR.m ((mo_at (by decide)).trans (congrArg some (mq_vi rfl hv15))) dd_Mo_entry_219 ?_
                          refine lv_iconst (v := nI 1) hx hb dd_Mo_entry_222 (by decide) ?_
                          refine lv_isub hx hb dd_Mo_entry_223 ?_
                          refine mw_topi (y := nI ((mk + 1) - 1)) (pk_sub (by omega)) ?_
                          refine mr_i E hr hk hM hS (by decide) (by decide) ?_ dd_Mo_entry_224
                          refine ⟨by rw [Nat.add_sub_cancel], ⟨A26, by rw [← hV27]; exact hR, fun k h1 h2 h3 h4 h5 h6 => by rw [hA26, va_up_ne _ _ h6, hA25, va_up_ne _ _ h5, hA24, va_up_ne _ _ h4, hA23, va_up_ne _ _ h3, hA22, va_up_ne _ _ h2, hA21, va_up_ne _ _ h1], by rw [hA26, va_up_ne _ _ (by decide), hA25, va_up_ne _ _ (by decide), hA24, va_up_ne _ _ (by decide), hA23, va_up_ne _ _ (by decide), hA22, va_up_ne _ _ (by decide), hA21, va_up_self]; rfl, by rw [hA26, va_up_ne _ _ (by decide), hA25, va_up_ne _ _ (by decide), hA24, va_up_ne _ _ (by decide), hA23, va_up_ne _ _ (by decide), hA22, va_up_self, hA21, va_up_ne _ _ (by decide)], by rw [hA26, va_up_ne _ _ (by decide), hA25, va_up_ne _ _ (by decide), hA24, va_up_ne _ _ (by decide), hA23, va_up_self, hA22, va_up_ne _ _ (by decide), hA21, va_up_ne _ _ (by decide)], by rw [hA26, va_up_ne _ _ (by decide), hA25, va_up_ne _ _ (by decide), hA24, va_up_self, hA23, va_up_ne _ _ (by decide), hA22, va_up_ne _ _ (by decide), hA21, va_up_ne _ _ (by decide)], by rw [hA26, va_up_ne _ _ (by decide), hA25, va_up_self, hA24, va_up_ne _ _ (by decide), hA23, va_up_ne _ _ (by decide), hA22, va_up_ne _ _ (by decide), hA21, va_up_ne _ _ (by decide)], by rw [hA26, va_up_self, hA25, va_up_ne _ _ (by decide), hA24, va_up_ne _ _ (by decide), hA23, va_up_ne _ _ (by decide), hA22, va_up_ne _ _ (by decide), hA21, va_up_ne _ _ (by decide)]⟩, hF⟩
                        ·
                          rw [nI_eq (by omega) (by omega)] at h139
                          omega
                    ·
                      rw [nI_leI (by omega) (by omega)] at h96
                      omega
                  | succ d9 ih =>
                    intro n0 e0 H locs ls hp hu hM hS hl
                    refine lv_iload hx hb dd_Mo_entry_90 (lv_at hl 1 rfl) ?_
                    refine lv_aload_n hx hb dd_Mo_entry_92 rfl (lv_at hl 2 rfl) ?_
                    refine gf_Mo_167 E hM hR.m ((mo_at (by decide)).trans (congrArg some (mq_vi rfl hv15))) dd_Mo_entry_93 ?_
                    refine lv_icmp_ge (tgt := 126) hx hb dd_Mo_entry_96 (by decide) (fun h96 => ?_) (fun h96 => ?_)
                    ·
                      rw [nI_leI (by omega) (by omega)] at h96
                      omega
                    ·
                      rw [nI_leI (by omega) (by omega)] at h96
                      refine lv_aload_n hx hb dd_Mo_entry_99 rfl (lv_at hl 2 rfl) ?_
                      refine gf_Mo_29 E hM hR.m ((mo_at (by decide)).trans (congrArg some (mq_va rfl))) dd_Mo_entry_100 ?_
                      have w16 : M (ra 16) = some (.inl (D.1 102, 60, .inl (A 16))) := hR.w 16 rfl (by decide)
                      refine lv_iload hx hb dd_Mo_entry_103 (lv_at hl 1 rfl) ?_
                      refine mw_zald hx hb E.K hM 2 w16 rfl (vp_in_nI (by omega) (by omega)) dd_Mo_entry_105 ?_
                      refine mw_topi (y := (A 16) e0) (by rw [nI_clamp (by omega)]) ?_
                      refine lv_if_eq (tgt := 116) hx hb dd_Mo_entry_106 (by decide) (fun h106 => ?_) (fun h106 => ?_)
                      ·
                        refine lv_iload hx hb dd_Mo_entry_116 (lv_at hl 0 rfl) ?_
                        refine lv_istore (lv' := [(6, .int (nI n0)), (7, .int (nI e0)), (0, .ref mm), (1, .int (nI i0)), (2, .int (nI j0)), (3, .int (s0)), (4, .int (t0)), (5, .int (f0))]) hx hb dd_Mo_entry_118 hl (by decide) rfl (fun ls hl => ?_)
                        refine lv_iinc (k := 1) (v := nI (e0 + 1)) (lv' := [(7, .int (nI (e0 + 1))), (6, .int (nI n0)), (0, .ref mm), (1, .int (nI i0)), (2, .int (nI j0)), (3, .int (s0)), (4, .int (t0)), (5, .int (f0))]) hx hb dd_Mo_entry_120 hl rfl (nI_1 _) (by decide) rfl (fun ls hl => ?_)
                        refine lv_goto (tgt := 90) hx hb dd_Mo_entry_123 (by decide) ?_
                        exact ih n0 (e0 + 1) H locs ls (by omega) (by rw [mq_es_n (mq_thF h106)]; exact hu) hM hS (lv_sub hl [1, 0, 2, 3, 4, 5, 6, 7] rfl)
                      ·
                        refine lv_iload hx hb dd_Mo_entry_109 (lv_at hl 0 rfl) ?_
                        refine lv_iconst (v := nI 1) hx hb dd_Mo_entry_111 (by decide) ?_
                        refine lv_iadd hx hb dd_Mo_entry_112 ?_
                        refine mw_topi (y := nI (n0 + 1)) (nI_add _ _) ?_
                        refine lv_goto (tgt := 118) hx hb dd_Mo_entry_113 (by decide) ?_
                        refine lv_istore (lv' := [(6, .int (nI (n0 + 1))), (7, .int (nI e0)), (0, .ref mm), (1, .int (nI i0)), (2, .int (nI j0)), (3, .int (s0)), (4, .int (t0)), (5, .int (f0))]) hx hb dd_Mo_entry_118 hl (by decide) rfl (fun ls hl => ?_)
                        refine lv_iinc (k := 1) (v := nI (e0 + 1)) (lv' := [(7, .int (nI (e0 + 1))), (6, .int (nI (n0 + 1))), (0, .ref mm), (1, .int (nI i0)), (2, .int (nI j0)), (3, .int (s0)), (4, .int (t0)), (5, .int (f0))]) hx hb dd_Mo_entry_120 hl rfl (nI_1 _) (by decide) rfl (fun ls hl => ?_)
                        refine lv_goto (tgt := 90) hx hb dd_Mo_entry_123 (by decide) ?_
                        exact ih (n0 + 1) (e0 + 1) H locs ls (by omega) (by rw [mq_es_y (mq_thT h106), List.length_append, ← hu]; rfl) hM hS (lv_sub hl [1, 0, 2, 3, 4, 5, 6, 7] rfl)
                exact loop90 mk 0 0 H locs ls (by omega) rfl hM hS (lv_sub hl [1, 0, 2, 3, 4, 5, 6, 7] rfl)
              ·
                exact absurd (show en_wr Ln Dn G i0 j0 s0 t0 f0 from Or.inr (Or.inr (Or.inr (Or.inr (Bool.of_not_eq_false (fun q => h77 (zI_0.mpr q))))))) hW
    ·
      exact absurd rfl h25
theorem cc_Mo_remove (l : Launch) (D : va_G) (z : Nat) (M : mw_M) (mm : Nat) (ra : Nat → Nat) (V : Nat → Int32) (A : Nat → Nat → Int32) (S : Nat → Int64) (e0 mk : Nat) (hR : mq_R D M mm ra V A S) (hv15 : V 15 = nI mk) (hmk : mk ≤ 60) (he0 : e0 < mk) : mw_C l yy_Mo_remove bb_Mo_remove 2 (Option.some Jvm.ClassFile.FieldType.boolean) 1 22 0 0 D z M [.ref mm, .int (nI e0)] (fun v M' => (mq_th A e0 = false → v = some (.int 0) ∧ M' = M) ∧ (mq_th A e0 = true → v = some (.int 1) ∧ ∃ A1, mq_R D M' mm ra V A1 S ∧ A1 = va_up A 16 (upd (A 16) e0 (nI 0))) ∧ mw_fr (mq_P mm ra) M M') := by
  refine mw_of (by decide) (Nat.le_of_ble_eq_true rfl) ?_
  intro p e s m below meth c ls E hr hk hnm hM hl
  have hx := E.x
  have hb := E.b
  have E : mw_E p m c bb_Mo_remove 2 s _ D z "IdentityIssuerModel" := E
  have hl : lv_has ls 2 [(0, .ref mm), (1, .int (nI e0))] := hl
  have hS : va_S (mw_A z) s.heap s.heap [] := va_S.rf
  have hF : mw_fr (mq_P mm ra) M M := mw_fr.rf
  refine lv_iload_n hx hb dd_Mo_remove_0 rfl (lv_at hl 1 rfl) ?_
  refine lv_iconst (v := nI 0) hx hb dd_Mo_remove_1 (by decide) ?_
  refine lv_aload_n hx hb dd_Mo_remove_2 rfl (lv_at hl 0 rfl) ?_
  refine gf_Mo_167 E hM hR.m ((mo_at (by decide)).trans (congrArg some (mq_vi rfl hv15))) dd_Mo_remove_3 ?_
  refine lv_iconst (v := nI 1) hx hb dd_Mo_remove_6 (by decide) ?_
  refine lv_isub hx hb dd_Mo_remove_7 ?_
  refine mw_S (As := [.int (nI e0), .int (nI 0), .int ((nI mk) - (nI 1))]) (rest := []) E (cc_Mo_outside l D z (M) (nI e0) (nI 0) (nI mk - nI 1)) ky_Mo_outside kv_Mo_outside tw_Mo_118 hM hS rfl hl.1 rfl (Nat.le_of_ble_eq_true rfl) dd_Mo_remove_8 (by first | decide | exact ⟨by dsimp only; omega, by dsimp only; omega⟩) (by decide) (fun v M1 H locs hp hM hS => ?_)
  obtain ⟨rfl, hq⟩ := hp
  have hq := hq.symm
  subst hq
  rw [mo_out_has (by omega), mo_hasN he0 (by omega)]
  refine W.eq (g2 := F0 m 11 ls [.int (zI false)]) rfl ?_
  refine lv_if_ne (tgt := 23) hx hb dd_Mo_remove_11 (by decide) (fun h11 => ?_) (fun h11 => ?_)
  ·
    exact absurd rfl h11
  ·
    refine lv_aload_n hx hb dd_Mo_remove_14 rfl (lv_at hl 0 rfl) ?_
    refine gf_Mo_29 E hM hR.m ((mo_at (by decide)).trans (congrArg some (mq_va rfl))) dd_Mo_remove_15 ?_
    have w16 : M (ra 16) = some (.inl (D.1 102, 60, .inl (A 16))) := hR.w 16 rfl (by decide)
    refine lv_iload_n hx hb dd_Mo_remove_18 rfl (lv_at hl 1 rfl) ?_
    refine mw_zald hx hb E.K hM 2 w16 rfl (vp_in_nI (by omega) (by omega)) dd_Mo_remove_19 ?_
    refine mw_topi (y := (A 16) e0) (by rw [nI_clamp (by omega)]) ?_
    refine lv_if_ne (tgt := 25) hx hb dd_Mo_remove_20 (by decide) (fun h20 => ?_) (fun h20 => ?_)
    ·
      refine lv_aload_n hx hb dd_Mo_remove_25 rfl (lv_at hl 0 rfl) ?_
      refine gf_Mo_29 E hM hR.m ((mo_at (by decide)).trans (congrArg some (mq_va rfl))) dd_Mo_remove_26 ?_
      have w16 : M (ra 16) = some (.inl (D.1 102, 60, .inl (A 16))) := hR.w 16 rfl (by decide)
      refine lv_iload_n hx hb dd_Mo_remove_29 rfl (lv_at hl 1 rfl) ?_
      refine lv_iconst (v := nI 0) hx hb dd_Mo_remove_30 (by decide) ?_
      have w16 : M (ra 16) = some (.inl (D.1 102, 60, .inl (A 16))) := hR.w 16 rfl (by decide)
      refine mw_zast hx hb E.K hM E.zz hS 2 w16 rfl (vp_in_nI (by omega) (by omega)) dd_Mo_remove_31 (fun H locs hM hS => ?_)
      rw [nI_clamp (by omega)] at hM
      have hM : mw_at D mg_cl z (va_up M (ra 16) (some (.inl (D.1 102, 60, .inl ((upd (A 16) e0 (vp_nar .boolean (nI 0)))))))) H := hM
      obtain ⟨M1, hM1⟩ : ∃ M9 : mw_M, M9 = va_up M (ra 16) (some (.inl (D.1 102, 60, .inl ((upd (A 16) e0 (vp_nar .boolean (nI 0))))))) := ⟨_, rfl⟩
      rw [← hM1] at hM
      obtain ⟨A21, hA21⟩ : ∃ A9 : Nat → Nat → Int32, A9 = va_up A 16 (upd (A 16) e0 (vp_nar .boolean (nI 0))) := ⟨_, rfl⟩
      have hR := hR.setA 16 rfl (by decide) hM1 hA21
      have hF := mw_fu hM1 hF (mq_Pa (k := 16) rfl)
      refine lv_iconst (v := nI 1) hx hb dd_Mo_remove_32 (by decide) ?_
      refine mr_z E hr hk hM hS (by decide) (by decide) (rfl) ?_ dd_Mo_remove_33
      exact ⟨fun q => absurd q (by rw [mq_thT h20]; decide), fun _ => ⟨rfl, _, hR, hA21⟩, hF⟩
    ·
      refine lv_iconst (v := nI 0) hx hb dd_Mo_remove_23 (by decide) ?_
      refine mr_z E hr hk hM hS (by decide) (by decide) (rfl) ?_ dd_Mo_remove_24
      exact ⟨fun _ => ⟨rfl, rfl⟩, fun q => absurd q (by rw [mq_thF h20]; decide), hF⟩
theorem cc_Mo_forget (l : Launch) (D : va_G) (z : Nat) (M : mw_M) (mm : Nat) (ra : Nat → Nat) (V : Nat → Int32) (A : Nat → Nat → Int32) (S : Nat → Int64) (a : Nat) (hR : mq_R D M mm ra V A S) (ha0 : a < 3) : mw_C l yy_Mo_forget bb_Mo_forget 3 (Option.none : Option Jvm.ClassFile.FieldType) 0 0 0 0 D z M [.ref mm, .int (nI a)] (fun v M' => v = none ∧ (∃ A1, mq_R D M' mm ra V A1 S ∧ (∀ k : Nat, k ≠ 26 → k ≠ 31 → k ≠ 32 → A1 k = A k) ∧ (∀ e : Nat, e < 60 → A1 26 (60 * a + e) = 0) ∧ (∀ q : Nat, (q < 60 * a ∨ 60 * a + 60 ≤ q) → A1 26 q = A 26 q) ∧ A1 31 = upd (A 31) a (nI 0) ∧ A1 32 = upd (A 32) a (nI 0)) ∧ mw_fr (mq_P mm ra) M M') := by
  refine mw_of (by decide) (Nat.le_of_ble_eq_true rfl) ?_
  intro p e s m below meth c ls E hr hk hnm hM hl
  have hx := E.x
  have hb := E.b
  have E : mw_E p m c bb_Mo_forget 3 s _ D z "IdentityIssuerModel" := E
  have hl : lv_has ls 3 [(0, .ref mm), (1, .int (nI a))] := hl
  have hS : va_S (mw_A z) s.heap s.heap [] := va_S.rf
  have hF : mw_fr (mq_P mm ra) M M := mw_fr.rf
  refine lv_iconst (v := nI 0) hx hb dd_Mo_forget_0 (by decide) ?_
  refine lv_istore_n (lv' := [(2, .int (nI 0)), (0, .ref mm), (1, .int (nI a))]) hx hb dd_Mo_forget_1 rfl hl (by decide) rfl (fun ls hl => ?_)
  have loop2 : ∀ (d9 : Nat) (e0 : Nat) (A1 : Nat → Nat → Int32) (M1 : mw_M) (H : Heap) (locs : List Loc) (ls : Array Slot), e0 + d9 = 60 → mq_R D M1 mm ra V A1 S → (∀ k : Nat, k ≠ 26 → A1 k = A k) → (∀ e : Nat, e < e0 → A1 26 (60 * a + e) = 0) → (∀ q : Nat, (q < 60 * a ∨ 60 * a + 60 ≤ q) → A1 26 q = A 26 q) → mw_fr (mq_P mm ra) M M1 → mw_at D mg_cl z M1 H → va_S (mw_A z) s.heap H locs → lv_has ls 3 [(2, .int (nI e0)), (0, .ref mm), (1, .int (nI a))] → W p l e ({ frames := 0, cells := 0, slots := 0, locals := 0 } : Room) s m ([.ref mm, .int (nI a)] : List Value).toArray below meth c H locs (0) (0) (MQ below (mw_Q D z (fun v M' => v = none ∧ (∃ A1, mq_R D M' mm ra V A1 S ∧ (∀ k : Nat, k ≠ 26 → k ≠ 31 → k ≠ 32 → A1 k = A k) ∧ (∀ e : Nat, e < 60 → A1 26 (60 * a + e) = 0) ∧ (∀ q : Nat, (q < 60 * a ∨ 60 * a + 60 ≤ q) → A1 26 q = A 26 q) ∧ A1 31 = upd (A 31) a (nI 0) ∧ A1 32 = upd (A 32) a (nI 0)) ∧ mw_fr (mq_P mm ra) M M')) ([.ref mm, .int (nI a)] : List Value).toArray s 0 0 (mw_A z)) (F0 m 2 ls []) := by
    intro d9
    induction d9 with
    | zero =>
      intro e0 A1 M1 H locs ls hp hR hA hz ho hF hM hS hl
      refine lv_iload_n hx hb dd_Mo_forget_2 rfl (lv_at hl 0 rfl) ?_
      refine lv_bipush (v := nI 60) hx hb dd_Mo_forget_3 (by decide) ?_
      refine lv_icmp_ge (tgt := 26) hx hb dd_Mo_forget_5 (by decide) (fun h5 => ?_) (fun h5 => ?_)
      ·
        rw [nI_leI (by omega) (by omega)] at h5
        refine lv_aload_n hx hb dd_Mo_forget_26 rfl (lv_at hl 1 rfl) ?_
        refine gf_Mo_69 E hM hR.m ((mo_at (by decide)).trans (congrArg some (mq_va rfl))) dd_Mo_forget_27 ?_
        have w31 : M1 (ra 31) = some (.inl (D.1 100, 3, .inl (A1 31))) := hR.w 31 rfl (by decide)
        refine lv_iload_n hx hb dd_Mo_forget_30 rfl (lv_at hl 2 rfl) ?_
        refine lv_iconst (v := nI 0) hx hb dd_Mo_forget_31 (by decide) ?_
        have w31 : M1 (ra 31) = some (.inl (D.1 100, 3, .inl (A1 31))) := hR.w 31 rfl (by decide)
        refine mw_iast hx hb E.K hM E.zz hS 0 w31 rfl (vp_in_nI (by omega) (by omega)) dd_Mo_forget_32 (fun H locs hM hS => ?_)
        rw [nI_clamp (by omega)] at hM
        have hM : mw_at D mg_cl z (va_up M1 (ra 31) (some (.inl (D.1 100, 3, .inl ((upd (A1 31) a (nI 0))))))) H := hM
        obtain ⟨M1, hM1⟩ : ∃ M9 : mw_M, M9 = va_up M1 (ra 31) (some (.inl (D.1 100, 3, .inl ((upd (A1 31) a (nI 0)))))) := ⟨_, rfl⟩
        rw [← hM1] at hM
        obtain ⟨A21, hA21⟩ : ∃ A9 : Nat → Nat → Int32, A9 = va_up A1 31 (upd (A1 31) a (nI 0)) := ⟨_, rfl⟩
        have hR := hR.setA 31 rfl (by decide) hM1 hA21
        have hF := mw_fu hM1 hF (mq_Pa (k := 31) rfl)
        refine lv_aload_n hx hb dd_Mo_forget_33 rfl (lv_at hl 1 rfl) ?_
        refine gf_Mo_72 E hM hR.m ((mo_at (by decide)).trans (congrArg some (mq_va rfl))) dd_Mo_forget_34 ?_
        have w32 : M1 (ra 32) = some (.inl (D.1 100, 3, .inl (A21 32))) := hR.w 32 rfl (by decide)
        refine lv_iload_n hx hb dd_Mo_forget_37 rfl (lv_at hl 2 rfl) ?_
        refine lv_iconst (v := nI 0) hx hb dd_Mo_forget_38 (by decide) ?_
        have w32 : M1 (ra 32) = some (.inl (D.1 100, 3, .inl (A21 32))) := hR.w 32 rfl (by decide)
        refine mw_iast hx hb E.K hM E.zz hS 0 w32 rfl (vp_in_nI (by omega) (by omega)) dd_Mo_forget_39 (fun H locs hM hS => ?_)
        rw [nI_clamp (by omega)] at hM
        have hM : mw_at D mg_cl z (va_up M1 (ra 32) (some (.inl (D.1 100, 3, .inl ((upd (A21 32) a (nI 0))))))) H := hM
        obtain ⟨M1, hM1⟩ : ∃ M9 : mw_M, M9 = va_up M1 (ra 32) (some (.inl (D.1 100, 3, .inl ((upd (A21 32) a (nI 0)))))) := ⟨_, rfl⟩
        rw [← hM1] at hM
        obtain ⟨A22, hA22⟩ : ∃ A9 : Nat → Nat → Int32, A9 = va_up A21 32 (upd (A21 32) a (nI 0)) := ⟨_, rfl⟩
        have hR := hR.setA 32 rfl (by decide) hM1 hA22
        have hF := mw_fu hM1 hF (mq_Pa (k := 32) rfl)
        refine mr_v E hr hk hM hS (by decide) (by decide) ?_ dd_Mo_forget_40
        exact ⟨rfl, ⟨A22, hR, fun k h1 h2 h3 => by rw [hA22, va_up_ne _ _ h3, hA21, va_up_ne _ _ h2]; exact hA k h1, fun e he => by rw [hA22, va_up_ne _ _ (by decide), hA21, va_up_ne _ _ (by decide)]; exact hz e (by omega), fun q hq => by rw [hA22, va_up_ne _ _ (by decide), hA21, va_up_ne _ _ (by decide)]; exact ho q hq, by rw [hA22, va_up_ne _ _ (by decide), hA21, va_up_self, hA 31 (by decide)], by rw [hA22, va_up_self, hA21, va_up_ne _ _ (by decide), hA 32 (by decide)]⟩, hF⟩
      ·
        rw [nI_leI (by omega) (by omega)] at h5
        omega
    | succ d9 ih =>
      intro e0 A1 M1 H locs ls hp hR hA hz ho hF hM hS hl
      refine lv_iload_n hx hb dd_Mo_forget_2 rfl (lv_at hl 0 rfl) ?_
      refine lv_bipush (v := nI 60) hx hb dd_Mo_forget_3 (by decide) ?_
      refine lv_icmp_ge (tgt := 26) hx hb dd_Mo_forget_5 (by decide) (fun h5 => ?_) (fun h5 => ?_)
      ·
        rw [nI_leI (by omega) (by omega)] at h5
        omega
      ·
        rw [nI_leI (by omega) (by omega)] at h5
        refine lv_aload_n hx hb dd_Mo_forget_8 rfl (lv_at hl 1 rfl) ?_
        refine gf_Mo_54 E hM hR.m ((mo_at (by decide)).trans (congrArg some (mq_va rfl))) dd_Mo_forget_9 ?_
        have w26 : M1 (ra 26) = some (.inl (D.1 100, 180, .inl (A1 26))) := hR.w 26 rfl (by decide)
        refine lv_bipush (v := nI 60) hx hb dd_Mo_forget_12 (by decide) ?_
        refine lv_iload_n hx hb dd_Mo_forget_14 rfl (lv_at hl 2 rfl) ?_
        refine lv_imul hx hb dd_Mo_forget_15 ?_
        refine mw_topi (y := nI (60 * a)) (pk_mul _ _) ?_
        refine lv_iload_n hx hb dd_Mo_forget_16 rfl (lv_at hl 0 rfl) ?_
        refine lv_iadd hx hb dd_Mo_forget_17 ?_
        refine mw_topi (y := nI ((60 * a) + e0)) (nI_add _ _) ?_
        refine lv_iconst (v := nI 0) hx hb dd_Mo_forget_18 (by decide) ?_
        have w26 : M1 (ra 26) = some (.inl (D.1 100, 180, .inl (A1 26))) := hR.w 26 rfl (by decide)
        refine mw_iast hx hb E.K hM E.zz hS 0 w26 rfl (vp_in_nI (by omega) (by omega)) dd_Mo_forget_19 (fun H locs hM hS => ?_)
        rw [nI_clamp (by omega)] at hM
        have hM : mw_at D mg_cl z (va_up M1 (ra 26) (some (.inl (D.1 100, 180, .inl ((upd (A1 26) ((60 * a) + e0) (nI 0))))))) H := hM
        obtain ⟨M1, hM1⟩ : ∃ M9 : mw_M, M9 = va_up M1 (ra 26) (some (.inl (D.1 100, 180, .inl ((upd (A1 26) ((60 * a) + e0) (nI 0)))))) := ⟨_, rfl⟩
        rw [← hM1] at hM
        obtain ⟨A23, hA23⟩ : ∃ A9 : Nat → Nat → Int32, A9 = va_up A1 26 (upd (A1 26) ((60 * a) + e0) (nI 0)) := ⟨_, rfl⟩
        have hR := hR.setA 26 rfl (by decide) hM1 hA23
        have hF := mw_fu hM1 hF (mq_Pa (k := 26) rfl)
        refine lv_iinc (k := 0) (v := nI (e0 + 1)) (lv' := [(2, .int (nI (e0 + 1))), (0, .ref mm), (1, .int (nI a))]) hx hb dd_Mo_forget_20 hl rfl (nI_1 _) (by decide) rfl (fun ls hl => ?_)
        refine lv_goto (tgt := 2) hx hb dd_Mo_forget_23 (by decide) ?_
        refine ih (e0 + 1) _ M1 H locs ls (by omega) hR (fun k hk9 => by rw [hA23, va_up_ne _ _ hk9]; exact hA k hk9) (fun e he9 => ?_) (fun q hq9 => ?_) hF hM hS (lv_sub hl [0, 1, 2] rfl)
        · rw [hA23, va_up_self]
          by_cases e9 : e = e0
          · rw [e9, up_s]
            rfl
          · rw [up_n (by omega)]
            exact hz e (by omega)
        · rw [hA23, va_up_self, up_n (by omega)]
          exact ho q hq9
  exact loop2 60 0 A M s.heap [] ls (by omega) hR (fun _ _ => rfl) (fun e h => absurd h (by omega)) (fun _ _ => rfl) hF hM hS (lv_sub hl [0, 1, 2] rfl)
