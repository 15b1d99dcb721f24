/-! the reference: attest, watch, fetch, svid -/
def at_wr (Ln Dn : Nat → Nat) (G : Nat → Nat → Nat) (i0 : Nat) (s0 : Int32) : Prop := ¬ (0 < i0 ∧ Dn i0 < Ln i0 ∧ id_ours Dn G i0) ∨ mo_out s0 (nI 0) (nI 65535) = true
theorem cc_Mo_attest_w (l : Launch) (D : va_G) (z : Nat) (M : mw_M) (mm : Nat) (ra : Nat → Nat) (V : Nat → Int32) (A : Nat → Nat → Int32) (S : Nat → Int64) (ic : Nat) (Ln Dn : Nat → Nat) (G : Nat → Nat → Nat) (i0 na a : Nat) (s0 : Int32) (hR : mq_R D M mm ra V A S) (hJ : mi_at V A ic Ln Dn G) (hO : id_ok ic Ln Dn G) (hi0 : i0 < ic) (hv23 : V 23 = nI na) (hna : na ≤ 3) (hW : at_wr Ln Dn G i0 s0) : mw_C l yy_Mo_attest bb_Mo_attest 4 (Option.some Jvm.ClassFile.FieldType.int) 2 44 0 0 D z M [.ref mm, .int (nI i0), .int (s0)] (fun v M' => v = some (.int (-1002)) ∧ M' = M) := by
  refine mw_of (by decide) (Nat.le_of_ble_eq_true rfl) ?_
  intro p e s m below meth c ls E hr hk hnm hM hl
  have hx := E.x
  have hb := E.b
  have E : mw_E p m c bb_Mo_attest 4 s _ D z "IdentityIssuerModel" := E
  have hl : lv_has ls 4 [(0, .ref mm), (1, .int (nI i0)), (2, .int (s0))] := hl
  have hS : va_S (mw_A z) s.heap s.heap [] := va_S.rf
  have hic := hO.1
  have hv4 := hJ.1
  refine lv_iload_n hx hb dd_Mo_attest_0 rfl (lv_at hl 1 rfl) ?_
  refine lv_iconst (v := nI 0) hx hb dd_Mo_attest_1 (by decide) ?_
  refine lv_aload_n hx hb dd_Mo_attest_2 rfl (lv_at hl 0 rfl) ?_
  refine gf_Mo_150 E hM hR.m ((mo_at (by decide)).trans (congrArg some (mq_vi rfl hv4))) dd_Mo_attest_3 ?_
  refine lv_iconst (v := nI 1) hx hb dd_Mo_attest_6 (by decide) ?_
  refine lv_isub hx hb dd_Mo_attest_7 ?_
  refine mw_S (As := [.int (nI i0), .int (nI 0), .int ((nI ic) - (nI 1))]) (rest := []) E (cc_Mo_outside l D z (M) (nI i0) (nI 0) (nI ic - nI 1)) ky_Mo_outside kv_Mo_outside tw_Mo_118 hM hS rfl hl.1 rfl (Nat.le_of_ble_eq_true rfl) dd_Mo_attest_8 (by first | decide | exact ⟨by dsimp only; omega, by dsimp only; omega⟩) (by decide) (fun v M1 H locs hp hM hS => ?_)
  obtain ⟨rfl, hq⟩ := hp
  have hq := hq.symm
  subst hq
  rw [mo_out_has (by omega), mo_hasN hi0 (by omega)]
  refine W.eq (g2 := F0 m 11 ls [.int (zI false)]) rfl ?_
  refine lv_if_eq (tgt := 18) hx hb dd_Mo_attest_11 (by decide) (fun h11 => ?_) (fun h11 => ?_)
  ·
    refine lv_aload_n hx hb dd_Mo_attest_18 rfl (lv_at hl 0 rfl) ?_
    refine lv_iload_n hx hb dd_Mo_attest_19 rfl (lv_at hl 1 rfl) ?_
    refine mw_V (As := [.int (nI i0)]) (rest := []) E (cc_Mo_goodI l D z (M) mm ra V A S ic Ln Dn G i0 hR hJ hO hi0) ky_Mo_good kv_Mo_good tw_Mo_163 hM hS hR.m rfl rfl rfl hl.1 rfl (Nat.le_of_ble_eq_true rfl) dd_Mo_attest_20 (by first | decide | exact ⟨by dsimp only; omega, by dsimp only; omega⟩) (by decide) (fun v M1 H locs hp hM hS => ?_)
    obtain ⟨b1, rfl, hb1, hq⟩ := hp
    have hq := hq.symm
    subst hq
    refine W.eq (g2 := F0 m 23 ls [.int (zI b1)]) rfl ?_
    refine lv_if_eq (tgt := 36) hx hb dd_Mo_attest_23 (by decide) (fun h23 => ?_) (fun h23 => ?_)
    ·
      refine lv_sipush (v := -1002) hx hb dd_Mo_attest_36 (by decide) ?_
      refine mr_i E hr hk hM hS (by decide) (by decide) ?_ dd_Mo_attest_39
      exact ⟨rfl, rfl⟩
    ·
      refine lv_iload_n hx hb dd_Mo_attest_26 rfl (lv_at hl 2 rfl) ?_
      refine lv_iconst (v := nI 0) hx hb dd_Mo_attest_27 (by decide) ?_
      refine lv_ldc (v := 65535) hx hb E.o (E.t _ tw_Mo_166) dd_Mo_attest_28 ?_
      refine mw_topi (y := nI 65535) (by decide) ?_
      refine mw_S (As := [.int (s0), .int (nI 0), .int (nI 65535)]) (rest := []) E (cc_Mo_outside l D z (M) s0 (nI 0) (nI 65535)) ky_Mo_outside kv_Mo_outside tw_Mo_118 hM hS rfl hl.1 rfl (Nat.le_of_ble_eq_true rfl) dd_Mo_attest_30 (by first | decide | exact ⟨by dsimp only; omega, by dsimp only; omega⟩) (by decide) (fun v M1 H locs hp hM hS => ?_)
      obtain ⟨rfl, hq⟩ := hp
      have hq := hq.symm
      subst hq
      refine W.eq (g2 := F0 m 33 ls [.int (zI (mo_out s0 (nI 0) (nI 65535)))]) rfl ?_
      refine lv_if_eq (tgt := 40) hx hb dd_Mo_attest_33 (by decide) (fun h33 => ?_) (fun h33 => ?_)
      ·
        exact absurd hW (fun q => q.elim (fun q => q (hb1.mp (Bool.of_not_eq_false (fun q => h23 (zI_0.mpr q))))) (fun q => absurd q (by rw [zI_0.mp h33]; decide)))
      ·
        refine lv_sipush (v := -1002) hx hb dd_Mo_attest_36 (by decide) ?_
        refine mr_i E hr hk hM hS (by decide) (by decide) ?_ dd_Mo_attest_39
        exact ⟨rfl, rfl⟩
  ·
    exact absurd rfl h11
theorem cc_Mo_attest_f (l : Launch) (D : va_G) (z : Nat) (M : mw_M) (mm : Nat) (ra : Nat → Nat) (V : Nat → Int32) (A : Nat → Nat → Int32) (S : Nat → Int64) (ic : Nat) (Ln Dn : Nat → Nat) (G : Nat → Nat → Nat) (i0 na a : Nat) (s0 : Int32) (hR : mq_R D M mm ra V A S) (hJ : mi_at V A ic Ln Dn G) (hO : id_ok ic Ln Dn G) (hi0 : i0 < ic) (hv23 : V 23 = nI na) (hna : na ≤ 3) (hW : ¬ at_wr Ln Dn G i0 s0) (hmn : ∀ q : Nat, q < a → A 24 q ≠ nI i0) (hxa : a = na ∨ (a < na ∧ A 24 a = nI i0)) (ha3 : a = 3) : mw_C l yy_Mo_attest bb_Mo_attest 4 (Option.some Jvm.ClassFile.FieldType.int) 2 44 0 0 D z M [.ref mm, .int (nI i0), .int (s0)] (fun v M' => v = some (.int (-1003)) ∧ M' = M) := by
  refine mw_of (by decide) (Nat.le_of_ble_eq_true rfl) ?_
  intro p e s m below meth c ls E hr hk hnm hM hl
  have hx := E.x
  have hb := E.b
  have E : mw_E p m c bb_Mo_attest 4 s _ D z "IdentityIssuerModel" := E
  have hl : lv_has ls 4 [(0, .ref mm), (1, .int (nI i0)), (2, .int (s0))] := hl
  have hS : va_S (mw_A z) s.heap s.heap [] := va_S.rf
  have hic := hO.1
  have hv4 := hJ.1
  refine lv_iload_n hx hb dd_Mo_attest_0 rfl (lv_at hl 1 rfl) ?_
  refine lv_iconst (v := nI 0) hx hb dd_Mo_attest_1 (by decide) ?_
  refine lv_aload_n hx hb dd_Mo_attest_2 rfl (lv_at hl 0 rfl) ?_
  refine gf_Mo_150 E hM hR.m ((mo_at (by decide)).trans (congrArg some (mq_vi rfl hv4))) dd_Mo_attest_3 ?_
  refine lv_iconst (v := nI 1) hx hb dd_Mo_attest_6 (by decide) ?_
  refine lv_isub hx hb dd_Mo_attest_7 ?_
  refine mw_S (As := [.int (nI i0), .int (nI 0), .int ((nI ic) - (nI 1))]) (rest := []) E (cc_Mo_outside l D z (M) (nI i0) (nI 0) (nI ic - nI 1)) ky_Mo_outside kv_Mo_outside tw_Mo_118 hM hS rfl hl.1 rfl (Nat.le_of_ble_eq_true rfl) dd_Mo_attest_8 (by first | decide | exact ⟨by dsimp only; omega, by dsimp only; omega⟩) (by decide) (fun v M1 H locs hp hM hS => ?_)
  obtain ⟨rfl, hq⟩ := hp
  have hq := hq.symm
  subst hq
  rw [mo_out_has (by omega), mo_hasN hi0 (by omega)]
  refine W.eq (g2 := F0 m 11 ls [.int (zI false)]) rfl ?_
  refine lv_if_eq (tgt := 18) hx hb dd_Mo_attest_11 (by decide) (fun h11 => ?_) (fun h11 => ?_)
  ·
    refine lv_aload_n hx hb dd_Mo_attest_18 rfl (lv_at hl 0 rfl) ?_
    refine lv_iload_n hx hb dd_Mo_attest_19 rfl (lv_at hl 1 rfl) ?_
    refine mw_V (As := [.int (nI i0)]) (rest := []) E (cc_Mo_goodI l D z (M) mm ra V A S ic Ln Dn G i0 hR hJ hO hi0) ky_Mo_good kv_Mo_good tw_Mo_163 hM hS hR.m rfl rfl rfl hl.1 rfl (Nat.le_of_ble_eq_true rfl) dd_Mo_attest_20 (by first | decide | exact ⟨by dsimp only; omega, by dsimp only; omega⟩) (by decide) (fun v M1 H locs hp hM hS => ?_)
    obtain ⟨b1, rfl, hb1, hq⟩ := hp
    have hq := hq.symm
    subst hq
    refine W.eq (g2 := F0 m 23 ls [.int (zI b1)]) rfl ?_
    refine lv_if_eq (tgt := 36) hx hb dd_Mo_attest_23 (by decide) (fun h23 => ?_) (fun h23 => ?_)
    ·
      exact absurd (show at_wr Ln Dn G i0 s0 from Or.inl (fun q => absurd (hb1.mpr q) (by rw [zI_0.mp h23]; decide))) hW
    ·
      refine lv_iload_n hx hb dd_Mo_attest_26 rfl (lv_at hl 2 rfl) ?_
      refine lv_iconst (v := nI 0) hx hb dd_Mo_attest_27 (by decide) ?_
      refine lv_ldc (v := 65535) hx hb E.o (E.t _ tw_Mo_166) dd_Mo_attest_28 ?_
      refine mw_topi (y := nI 65535) (by decide) ?_
      refine mw_S (As := [.int (s0), .int (nI 0), .int (nI 65535)]) (rest := []) E (cc_Mo_outside l D z (M) s0 (nI 0) (nI 65535)) ky_Mo_outside kv_Mo_outside tw_Mo_118 hM hS rfl hl.1 rfl (Nat.le_of_ble_eq_true rfl) dd_Mo_attest_30 (by first | decide | exact ⟨by dsimp only; omega, by dsimp only; omega⟩) (by decide) (fun v M1 H locs hp hM hS => ?_)
      obtain ⟨rfl, hq⟩ := hp
      have hq := hq.symm
      subst hq
      refine W.eq (g2 := F0 m 33 ls [.int (zI (mo_out s0 (nI 0) (nI 65535)))]) rfl ?_
      refine lv_if_eq (tgt := 40) hx hb dd_Mo_attest_33 (by decide) (fun h33 => ?_) (fun h33 => ?_)
      ·
        refine lv_iconst (v := nI 0) hx hb dd_Mo_attest_40 (by decide) ?_
        refine lv_istore_n (lv' := [(3, .int (nI 0)), (0, .ref mm), (1, .int (nI i0)), (2, .int (s0))]) hx hb dd_Mo_attest_41 rfl hl (by decide) rfl (fun ls hl => ?_)
        have join66 : ∀ (b : Nat) (H : Heap) (locs : List Loc) (ls : Array Slot), b = a → mw_at D mg_cl z M H → va_S (mw_A z) s.heap H locs → lv_has ls 4 [(3, .int (nI b)), (0, .ref mm), (1, .int (nI i0)), (2, .int (s0))] → W p l e ({ frames := 2, cells := 0, slots := 0, locals := 44 } : Room) s m ([.ref mm, .int (nI i0), .int (s0)] : List Value).toArray below meth c H locs (0) (0) (MQ below (mw_Q D z (fun v M' => v = some (.int (-1003)) ∧ M' = M)) ([.ref mm, .int (nI i0), .int (s0)] : List Value).toArray s 0 0 (mw_A z)) (F0 m 66 ls []) := by
          intro b H locs ls hba hM hS hl
          refine lv_iload_n hx hb dd_Mo_attest_66 rfl (lv_at hl 0 rfl) ?_
          refine lv_iconst (v := nI 3) hx hb dd_Mo_attest_67 (by decide) ?_
          refine lv_icmp_ne (tgt := 75) hx hb dd_Mo_attest_68 (by decide) (fun h68 => ?_) (fun h68 => ?_)
          ·
            rw [nI_eq (by omega) (by omega)] at h68
            omega
          ·
            rw [nI_eq (by omega) (by omega)] at h68
            refine lv_sipush (v := -1003) hx hb dd_Mo_attest_71 (by decide) ?_
            refine mr_i E hr hk hM hS (by decide) (by decide) ?_ dd_Mo_attest_74
            exact ⟨rfl, rfl⟩
        have loop42 : ∀ (d9 : Nat) (b : Nat) (H : Heap) (locs : List Loc) (ls : Array Slot), b + d9 = a → mw_at D mg_cl z M H → va_S (mw_A z) s.heap H locs → lv_has ls 4 [(3, .int (nI b)), (0, .ref mm), (1, .int (nI i0)), (2, .int (s0))] → W p l e ({ frames := 2, cells := 0, slots := 0, locals := 44 } : Room) s m ([.ref mm, .int (nI i0), .int (s0)] : List Value).toArray below meth c H locs (0) (0) (MQ below (mw_Q D z (fun v M' => v = some (.int (-1003)) ∧ M' = M)) ([.ref mm, .int (nI i0), .int (s0)] : List Value).toArray s 0 0 (mw_A z)) (F0 m 42 ls []) := by
          intro d9
          induction d9 with
          | zero =>
            intro b H locs ls hp hM hS hl
            refine lv_iload_n hx hb dd_Mo_attest_42 rfl (lv_at hl 0 rfl) ?_
            refine lv_aload_n hx hb dd_Mo_attest_43 rfl (lv_at hl 1 rfl) ?_
            refine gf_Mo_173 E hM hR.m ((mo_at (by decide)).trans (congrArg some (mq_vi rfl hv23))) dd_Mo_attest_44 ?_
            refine lv_icmp_ge (tgt := 66) hx hb dd_Mo_attest_47 (by decide) (fun h47 => ?_) (fun h47 => ?_)
            ·
              rw [nI_leI (by omega) (by omega)] at h47
              exact join66 b H locs ls (by omega) hM hS (lv_sub hl [0, 1, 2, 3] rfl)
            ·
              rw [nI_leI (by omega) (by omega)] at h47
              refine lv_aload_n hx hb dd_Mo_attest_50 rfl (lv_at hl 1 rfl) ?_
              refine gf_Mo_48 E hM hR.m ((mo_at (by decide)).trans (congrArg some (mq_va rfl))) dd_Mo_attest_51 ?_
              have w24 : M (ra 24) = some (.inl (D.1 100, 3, .inl (A 24))) := hR.w 24 rfl (by decide)
              refine lv_iload_n hx hb dd_Mo_attest_54 rfl (lv_at hl 0 rfl) ?_
              refine mw_iald hx hb E.K hM 0 w24 rfl (vp_in_nI (by omega) (by omega)) dd_Mo_attest_55 ?_
              refine mw_topi (y := (A 24) b) (by rw [nI_clamp (by omega)]) ?_
              refine lv_iload_n hx hb dd_Mo_attest_56 rfl (lv_at hl 2 rfl) ?_
              refine lv_icmp_eq (tgt := 66) hx hb dd_Mo_attest_57 (by decide) (fun h57 => ?_) (fun h57 => ?_)
              ·
                exact join66 b H locs ls (by omega) hM hS (lv_sub hl [0, 1, 2, 3] rfl)
              ·
                exact absurd (hxa.elim (fun q => absurd h47 (by omega)) (fun q => by rw [show b = a by omega]; exact q.2)) h57
          | succ d9 ih =>
            intro b H locs ls hp hM hS hl
            refine lv_iload_n hx hb dd_Mo_attest_42 rfl (lv_at hl 0 rfl) ?_
            refine lv_aload_n hx hb dd_Mo_attest_43 rfl (lv_at hl 1 rfl) ?_
            refine gf_Mo_173 E hM hR.m ((mo_at (by decide)).trans (congrArg some (mq_vi rfl hv23))) dd_Mo_attest_44 ?_
            refine lv_icmp_ge (tgt := 66) hx hb dd_Mo_attest_47 (by decide) (fun h47 => ?_) (fun h47 => ?_)
            ·
              rw [nI_leI (by omega) (by omega)] at h47
              omega
            ·
              rw [nI_leI (by omega) (by omega)] at h47
              refine lv_aload_n hx hb dd_Mo_attest_50 rfl (lv_at hl 1 rfl) ?_
              refine gf_Mo_48 E hM hR.m ((mo_at (by decide)).trans (congrArg some (mq_va rfl))) dd_Mo_attest_51 ?_
              have w24 : M (ra 24) = some (.inl (D.1 100, 3, .inl (A 24))) := hR.w 24 rfl (by decide)
              refine lv_iload_n hx hb dd_Mo_attest_54 rfl (lv_at hl 0 rfl) ?_
              refine mw_iald hx hb E.K hM 0 w24 rfl (vp_in_nI (by omega) (by omega)) dd_Mo_attest_55 ?_
              refine mw_topi (y := (A 24) b) (by rw [nI_clamp (by omega)]) ?_
              refine lv_iload_n hx hb dd_Mo_attest_56 rfl (lv_at hl 2 rfl) ?_
              refine lv_icmp_eq (tgt := 66) hx hb dd_Mo_attest_57 (by decide) (fun h57 => ?_) (fun h57 => ?_)
              ·
                exact absurd h57 (hmn b (by omega))
              ·
                refine lv_iinc (k := 0) (v := nI (b + 1)) (lv' := [(3, .int (nI (b + 1))), (0, .ref mm), (1, .int (nI i0)), (2, .int (s0))]) hx hb dd_Mo_attest_60 hl rfl (nI_1 _) (by decide) rfl (fun ls hl => ?_)
                refine lv_goto (tgt := 42) hx hb dd_Mo_attest_63 (by decide) ?_
                exact ih (b + 1) H locs ls (by omega) hM hS (lv_sub hl [0, 1, 2, 3] rfl)
        exact loop42 a 0 H locs ls (by omega) hM hS (lv_sub hl [0, 1, 2, 3] rfl)
      ·
        exact absurd (show at_wr Ln Dn G i0 s0 from Or.inr (Bool.of_not_eq_false (fun q => h33 (zI_0.mpr q)))) hW
  ·
    exact absurd rfl h11
theorem cc_Mo_attest_y (l : Launch) (D : va_G) (z : Nat) (M : mw_M) (mm : Nat) (ra : Nat → Nat) (V : Nat → Int32) (A : Nat → Nat → Int32) (S : Nat → Int64) (ic : Nat) (Ln Dn : Nat → Nat) (G : Nat → Nat → Nat) (i0 na a : Nat) (s0 : Int32) (hR : mq_R D M mm ra V A S) (hJ : mi_at V A ic Ln Dn G) (hO : id_ok ic Ln Dn G) (hi0 : i0 < ic) (hv23 : V 23 = nI na) (hna : na ≤ 3) (hW : ¬ at_wr Ln Dn G i0 s0) (hmn : ∀ q : Nat, q < a → A 24 q ≠ nI i0) (hxa : a = na ∨ (a < na ∧ A 24 a = nI i0)) (ha3 : a < 3) : mw_C l yy_Mo_attest bb_Mo_attest 4 (Option.some Jvm.ClassFile.FieldType.int) 2 44 0 0 D z M [.ref mm, .int (nI i0), .int (s0)] (fun v M' => v = some (.int (nI a)) ∧ (∃ A1, mq_R D M' mm ra (va_up V 23 (nI (if a = na then na + 1 else na))) A1 S ∧ (∀ k : Nat, k ≠ 24 → k ≠ 25 → k ≠ 26 → k ≠ 31 → k ≠ 32 → A1 k = A k) ∧ A1 24 = upd (A 24) a (nI i0) ∧ A1 25 = upd (A 25) a s0 ∧ (∀ e : Nat, e < 60 → A1 26 (60 * a + e) = 0) ∧ (∀ q : Nat, (q < 60 * a ∨ 60 * a + 60 ≤ q) → A1 26 q = A 26 q) ∧ A1 31 = upd (A 31) a (nI 0) ∧ A1 32 = upd (A 32) a (nI 0)) ∧ mw_fr (mq_P mm ra) M M') := by
  refine mw_of (by decide) (Nat.le_of_ble_eq_true rfl) ?_
  intro p e s m below meth c ls E hr hk hnm hM hl
  have hx := E.x
  have hb := E.b
  have E : mw_E p m c bb_Mo_attest 4 s _ D z "IdentityIssuerModel" := E
  have hl : lv_has ls 4 [(0, .ref mm), (1, .int (nI i0)), (2, .int (s0))] := hl
  have hS : va_S (mw_A z) s.heap s.heap [] := va_S.rf
  have hF : mw_fr (mq_P mm ra) M M := mw_fr.rf
  have hic := hO.1
  have hv4 := hJ.1
  refine lv_iload_n hx hb dd_Mo_attest_0 rfl (lv_at hl 1 rfl) ?_
  refine lv_iconst (v := nI 0) hx hb dd_Mo_attest_1 (by decide) ?_
  refine lv_aload_n hx hb dd_Mo_attest_2 rfl (lv_at hl 0 rfl) ?_
  refine gf_Mo_150 E hM hR.m ((mo_at (by decide)).trans (congrArg some (mq_vi rfl hv4))) dd_Mo_attest_3 ?_
  refine lv_iconst (v := nI 1) hx hb dd_Mo_attest_6 (by decide) ?_
  refine lv_isub hx hb dd_Mo_attest_7 ?_
  refine mw_S (As := [.int (nI i0), .int (nI 0), .int ((nI ic) - (nI 1))]) (rest := []) E (cc_Mo_outside l D z (M) (nI i0) (nI 0) (nI ic - nI 1)) ky_Mo_outside kv_Mo_outside tw_Mo_118 hM hS rfl hl.1 rfl (Nat.le_of_ble_eq_true rfl) dd_Mo_attest_8 (by first | decide | exact ⟨by dsimp only; omega, by dsimp only; omega⟩) (by decide) (fun v M1 H locs hp hM hS => ?_)
  obtain ⟨rfl, hq⟩ := hp
  have hq := hq.symm
  subst hq
  rw [mo_out_has (by omega), mo_hasN hi0 (by omega)]
  refine W.eq (g2 := F0 m 11 ls [.int (zI false)]) rfl ?_
  refine lv_if_eq (tgt := 18) hx hb dd_Mo_attest_11 (by decide) (fun h11 => ?_) (fun h11 => ?_)
  ·
    refine lv_aload_n hx hb dd_Mo_attest_18 rfl (lv_at hl 0 rfl) ?_
    refine lv_iload_n hx hb dd_Mo_attest_19 rfl (lv_at hl 1 rfl) ?_
    refine mw_V (As := [.int (nI i0)]) (rest := []) E (cc_Mo_goodI l D z (M) mm ra V A S ic Ln Dn G i0 hR hJ hO hi0) ky_Mo_good kv_Mo_good tw_Mo_163 hM hS hR.m rfl rfl rfl hl.1 rfl (Nat.le_of_ble_eq_true rfl) dd_Mo_attest_20 (by first | decide | exact ⟨by dsimp only; omega, by dsimp only; omega⟩) (by decide) (fun v M1 H locs hp hM hS => ?_)
    obtain ⟨b1, rfl, hb1, hq⟩ := hp
    have hq := hq.symm
    subst hq
    refine W.eq (g2 := F0 m 23 ls [.int (zI b1)]) rfl ?_
    refine lv_if_eq (tgt := 36) hx hb dd_Mo_attest_23 (by decide) (fun h23 => ?_) (fun h23 => ?_)
    ·
      exact absurd (show at_wr Ln Dn G i0 s0 from Or.inl (fun q => absurd (hb1.mpr q) (by rw [zI_0.mp h23]; decide))) hW
    ·
      refine lv_iload_n hx hb dd_Mo_attest_26 rfl (lv_at hl 2 rfl) ?_
      refine lv_iconst (v := nI 0) hx hb dd_Mo_attest_27 (by decide) ?_
      refine lv_ldc (v := 65535) hx hb E.o (E.t _ tw_Mo_166) dd_Mo_attest_28 ?_
      refine mw_topi (y := nI 65535) (by decide) ?_
      refine mw_S (As := [.int (s0), .int (nI 0), .int (nI 65535)]) (rest := []) E (cc_Mo_outside l D z (M) s0 (nI 0) (nI 65535)) ky_Mo_outside kv_Mo_outside tw_Mo_118 hM hS rfl hl.1 rfl (Nat.le_of_ble_eq_true rfl) dd_Mo_attest_30 (by first | decide | exact ⟨by dsimp only; omega, by dsimp only; omega⟩) (by decide) (fun v M1 H locs hp hM hS => ?_)
      obtain ⟨rfl, hq⟩ := hp
      have hq := hq.symm
      subst hq
      refine W.eq (g2 := F0 m 33 ls [.int (zI (mo_out s0 (nI 0) (nI 65535)))]) rfl ?_
      refine lv_if_eq (tgt := 40) hx hb dd_Mo_attest_33 (by decide) (fun h33 => ?_) (fun h33 => ?_)
      ·
        refine lv_iconst (v := nI 0) hx hb dd_Mo_attest_40 (by decide) ?_
        refine lv_istore_n (lv' := [(3, .int (nI 0)), (0, .ref mm), (1, .int (nI i0)), (2, .int (s0))]) hx hb dd_Mo_attest_41 rfl hl (by decide) rfl (fun ls hl => ?_)
        have join66 : ∀ (b : Nat) (H : Heap) (locs : List Loc) (ls : Array Slot), b = a → mw_at D mg_cl z M H → va_S (mw_A z) s.heap H locs → lv_has ls 4 [(3, .int (nI b)), (0, .ref mm), (1, .int (nI i0)), (2, .int (s0))] → W p l e ({ frames := 2, cells := 0, slots := 0, locals := 44 } : Room) s m ([.ref mm, .int (nI i0), .int (s0)] : List Value).toArray below meth c H locs (0) (0) (MQ below (mw_Q D z (fun v M' => v = some (.int (nI a)) ∧ (∃ A1, mq_R D M' mm ra (va_up V 23 (nI (if a = na then na + 1 else na))) A1 S ∧ (∀ k : Nat, k ≠ 24 → k ≠ 25 → k ≠ 26 → k ≠ 31 → k ≠ 32 → A1 k = A k) ∧ A1 24 = upd (A 24) a (nI i0) ∧ A1 25 = upd (A 25) a s0 ∧ (∀ e : Nat, e < 60 → A1 26 (60 * a + e) = 0) ∧ (∀ q : Nat, (q < 60 * a ∨ 60 * a + 60 ≤ q) → A1 26 q = A 26 q) ∧ A1 31 = upd (A 31) a (nI 0) ∧ A1 32 = upd (A 32) a (nI 0)) ∧ mw_fr (mq_P mm ra) M M')) ([.ref mm, .int (nI i0), .int (s0)] : List Value).toArray s 0 0 (mw_A z)) (F0 m 66 ls []) := by
          intro b H locs ls hba hM hS hl
          subst hba
          refine lv_iload_n hx hb dd_Mo_attest_66 rfl (lv_at hl 0 rfl) ?_
          refine lv_iconst (v := nI 3) hx hb dd_Mo_attest_67 (by decide) ?_
          refine lv_icmp_ne (tgt := 75) hx hb dd_Mo_attest_68 (by decide) (fun h68 => ?_) (fun h68 => ?_)
          ·
            rw [nI_eq (by omega) (by omega)] at h68
            refine lv_aload_n hx hb dd_Mo_attest_75 rfl (lv_at hl 1 rfl) ?_
            refine lv_iload_n hx hb dd_Mo_attest_76 rfl (lv_at hl 0 rfl) ?_
            refine lv_aload_n hx hb dd_Mo_attest_77 rfl (lv_at hl 1 rfl) ?_
            refine gf_Mo_173 E hM hR.m ((mo_at (by decide)).trans (congrArg some (mq_vi rfl hv23))) dd_Mo_attest_78 ?_
            refine lv_icmp_ne (tgt := 93) hx hb dd_Mo_attest_81 (by decide) (fun h81 => ?_) (fun h81 => ?_)
            ·
              rw [nI_eq (by omega) (by omega)] at h81
              refine lv_aload_n hx hb dd_Mo_attest_93 rfl (lv_at hl 1 rfl) ?_
              refine gf_Mo_173 E hM hR.m ((mo_at (by decide)).trans (congrArg some (mq_vi rfl hv23))) dd_Mo_attest_94 ?_
              refine pf_Mo_173 E hM hS hR.m (by rw [mo_len]; decide) dd_Mo_attest_97 (fun H locs hM hS => ?_)
              rw [mo_set (by decide), mq_vu rfl] at hM
              obtain ⟨V21, hV21⟩ : ∃ V9 : Nat → Int32, V9 = va_up V 23 (nI na) := ⟨_, rfl⟩
              rw [← hV21] at hM
              obtain ⟨M1, hM1⟩ : ∃ M9 : mw_M, M9 = va_up M mm (some (.inr (13, mo_l (mq_v ra V21)))) := ⟨_, rfl⟩
              rw [← hM1] at hM
              have hR := hR.setV hM1
              have hF := mw_fu hM1 hF (Or.inl rfl)
              have hv4 := mq_vn hV21 hv4 (by decide)
              have hv23 := mq_vs hV21
              refine lv_aload_n hx hb dd_Mo_attest_100 rfl (lv_at hl 1 rfl) ?_
              refine gf_Mo_48 E hM hR.m ((mo_at (by decide)).trans (congrArg some (mq_va rfl))) dd_Mo_attest_101 ?_
              have w24 : M1 (ra 24) = some (.inl (D.1 100, 3, .inl (A 24))) := hR.w 24 rfl (by decide)
              refine lv_iload_n hx hb dd_Mo_attest_104 rfl (lv_at hl 0 rfl) ?_
              refine lv_iload_n hx hb dd_Mo_attest_105 rfl (lv_at hl 2 rfl) ?_
              have w24 : M1 (ra 24) = some (.inl (D.1 100, 3, .inl (A 24))) := hR.w 24 rfl (by decide)
              refine mw_iast hx hb E.K hM E.zz hS 0 w24 rfl (vp_in_nI (by omega) (by omega)) dd_Mo_attest_106 (fun H locs hM hS => ?_)
              rw [nI_clamp (by omega)] at hM
              have hM : mw_at D mg_cl z (va_up M1 (ra 24) (some (.inl (D.1 100, 3, .inl ((upd (A 24) b (nI i0))))))) H := hM
              obtain ⟨M1, hM1⟩ : ∃ M9 : mw_M, M9 = va_up M1 (ra 24) (some (.inl (D.1 100, 3, .inl ((upd (A 24) b (nI i0)))))) := ⟨_, rfl⟩
              rw [← hM1] at hM
              obtain ⟨A22, hA22⟩ : ∃ A9 : Nat → Nat → Int32, A9 = va_up A 24 (upd (A 24) b (nI i0)) := ⟨_, rfl⟩
              have hR := hR.setA 24 rfl (by decide) hM1 hA22
              have hF := mw_fu hM1 hF (mq_Pa (k := 24) rfl)
              refine lv_aload_n hx hb dd_Mo_attest_107 rfl (lv_at hl 1 rfl) ?_
              refine gf_Mo_51 E hM hR.m ((mo_at (by decide)).trans (congrArg some (mq_va rfl))) dd_Mo_attest_108 ?_
              have w25 : M1 (ra 25) = some (.inl (D.1 100, 3, .inl (A22 25))) := hR.w 25 rfl (by decide)
              refine lv_iload_n hx hb dd_Mo_attest_111 rfl (lv_at hl 0 rfl) ?_
              refine lv_iload_n hx hb dd_Mo_attest_112 rfl (lv_at hl 3 rfl) ?_
              have w25 : M1 (ra 25) = some (.inl (D.1 100, 3, .inl (A22 25))) := hR.w 25 rfl (by decide)
              refine mw_iast hx hb E.K hM E.zz hS 0 w25 rfl (vp_in_nI (by omega) (by omega)) dd_Mo_attest_113 (fun H locs hM hS => ?_)
              rw [nI_clamp (by omega)] at hM
              have hM : mw_at D mg_cl z (va_up M1 (ra 25) (some (.inl (D.1 100, 3, .inl ((upd (A22 25) b s0)))))) H := hM
              obtain ⟨M1, hM1⟩ : ∃ M9 : mw_M, M9 = va_up M1 (ra 25) (some (.inl (D.1 100, 3, .inl ((upd (A22 25) b s0))))) := ⟨_, rfl⟩
              rw [← hM1] at hM
              obtain ⟨A23, hA23⟩ : ∃ A9 : Nat → Nat → Int32, A9 = va_up A22 25 (upd (A22 25) b s0) := ⟨_, rfl⟩
              have hR := hR.setA 25 rfl (by decide) hM1 hA23
              have hF := mw_fu hM1 hF (mq_Pa (k := 25) rfl)
              refine lv_aload_n hx hb dd_Mo_attest_114 rfl (lv_at hl 1 rfl) ?_
              refine lv_iload_n hx hb dd_Mo_attest_115 rfl (lv_at hl 0 rfl) ?_
              refine mw_V (As := [.int (nI b)]) (rest := []) E (cc_Mo_forget l D z (M1) mm ra V21 A23 S b hR ha3) ky_Mo_forget kv_Mo_forget tw_Mo_176 hM hS hR.m rfl rfl rfl hl.1 rfl (Nat.le_of_ble_eq_true rfl) dd_Mo_attest_116 (by first | decide | exact ⟨by dsimp only; omega, by dsimp only; omega⟩) (by decide) (fun v M1 H locs hp hM hS => ?_)
              obtain ⟨rfl, ⟨A9, hR9, f1, f2, f3, f4, f5⟩, hF9⟩ := hp
              have hF := hF.trans hF9
              refine W.eq (g2 := F0 m 119 ls []) rfl ?_
              refine lv_iload_n hx hb dd_Mo_attest_119 rfl (lv_at hl 0 rfl) ?_
              refine mr_i E hr hk hM hS (by decide) (by decide) ?_ dd_Mo_attest_120
              exact ⟨rfl, ⟨A9, by rw [if_neg h81, ← hV21]; exact hR9, fun k h1 h2 h3 h4 h5 => by rw [f1 k h3 h4 h5, hA23, va_up_ne _ _ h2, hA22, va_up_ne _ _ h1], by rw [f1 24 (by decide) (by decide) (by decide), hA23, va_up_ne _ _ (by decide), hA22, va_up_self], by rw [f1 25 (by decide) (by decide) (by decide), hA23, va_up_self, hA22, va_up_ne _ _ (by decide)], f2, fun q hq => by rw [f3 q hq, hA23, va_up_ne _ _ (by decide), hA22, va_up_ne _ _ (by decide)], by rw [f4, hA23, va_up_ne _ _ (by decide), hA22, va_up_ne _ _ (by decide)], by rw [f5, hA23, va_up_ne _ _ (by decide), hA22, va_up_ne _ _ (by decide)]⟩, hF⟩
            ·
              rw [nI_eq (by omega) (by omega)] at h81
              refine lv_aload_n hx hb dd_Mo_attest_84 rfl (lv_at hl 1 rfl) ?_
              refine gf_Mo_173 E hM hR.m ((mo_at (by decide)).trans (congrArg some (mq_vi rfl hv23))) dd_Mo_attest_85 ?_
              refine lv_iconst (v := nI 1) hx hb dd_Mo_attest_88 (by decide) ?_
              refine lv_iadd hx hb dd_Mo_attest_89 ?_
              refine mw_topi (y := nI (na + 1)) (nI_add _ _) ?_
              refine lv_goto (tgt := 97) hx hb dd_Mo_attest_90 (by decide) ?_
              refine pf_Mo_173 E hM hS hR.m (by rw [mo_len]; decide) dd_Mo_attest_97 (fun H locs hM hS => ?_)
              rw [mo_set (by decide), mq_vu rfl] at hM
              obtain ⟨V24, hV24⟩ : ∃ V9 : Nat → Int32, V9 = va_up V 23 (nI (na + 1)) := ⟨_, rfl⟩
              rw [← hV24] at hM
              obtain ⟨M1, hM1⟩ : ∃ M9 : mw_M, M9 = va_up M mm (some (.inr (13, mo_l (mq_v ra V24)))) := ⟨_, rfl⟩
              rw [← hM1] at hM
              have hR := hR.setV hM1
              have hF := mw_fu hM1 hF (Or.inl rfl)
              have hv4 := mq_vn hV24 hv4 (by decide)
              have hv23 := mq_vs hV24
              refine lv_aload_n hx hb dd_Mo_attest_100 rfl (lv_at hl 1 rfl) ?_
              refine gf_Mo_48 E hM hR.m ((mo_at (by decide)).trans (congrArg some (mq_va rfl))) dd_Mo_attest_101 ?_
              have w24 : M1 (ra 24) = some (.inl (D.1 100, 3, .inl (A 24))) := hR.w 24 rfl (by decide)
              refine lv_iload_n hx hb dd_Mo_attest_104 rfl (lv_at hl 0 rfl) ?_
              refine lv_iload_n hx hb dd_Mo_attest_105 rfl (lv_at hl 2 rfl) ?_
              have w24 : M1 (ra 24) = some (.inl (D.1 100, 3, .inl (A 24))) := hR.w 24 rfl (by decide)
              refine mw_iast hx hb E.K hM E.zz hS 0 w24 rfl (vp_in_nI (by omega) (by omega)) dd_Mo_attest_106 (fun H locs hM hS => ?_)
              rw [nI_clamp (by omega)] at hM
              have hM : mw_at D mg_cl z (va_up M1 (ra 24) (some (.inl (D.1 100, 3, .inl ((upd (A 24) b (nI i0))))))) H := hM
              obtain ⟨M1, hM1⟩ : ∃ M9 : mw_M, M9 = va_up M1 (ra 24) (some (.inl (D.1 100, 3, .inl ((upd (A 24) b (nI i0)))))) := ⟨_, rfl⟩
              rw [← hM1] at hM
              obtain ⟨A25, hA25⟩ : ∃ A9 : Nat → Nat → Int32, A9 = va_up A 24 (upd (A 24) b (nI i0)) := ⟨_, rfl⟩
              have hR := hR.setA 24 rfl (by decide) hM1 hA25
              have hF := mw_fu hM1 hF (mq_Pa (k := 24) rfl)
              refine lv_aload_n hx hb dd_Mo_attest_107 rfl (lv_at hl 1 rfl) ?_
              refine gf_Mo_51 E hM hR.m ((mo_at (by decide)).trans (congrArg some (mq_va rfl))) dd_Mo_attest_108 ?_
              have w25 : M1 (ra 25) = some (.inl (D.1 100, 3, .inl (A25 25))) := hR.w 25 rfl (by decide)
              refine lv_iload_n hx hb dd_Mo_attest_111 rfl (lv_at hl 0 rfl) ?_
              refine lv_iload_n hx hb dd_Mo_attest_112 rfl (lv_at hl 3 rfl) ?_
              have w25 : M1 (ra 25) = some (.inl (D.1 100, 3, .inl (A25 25))) := hR.w 25 rfl (by decide)
              refine mw_iast hx hb E.K hM E.zz hS 0 w25 rfl (vp_in_nI (by omega) (by omega)) dd_Mo_attest_113 (fun H locs hM hS => ?_)
              rw [nI_clamp (by omega)] at hM
              have hM : mw_at D mg_cl z (va_up M1 (ra 25) (some (.inl (D.1 100, 3, .inl ((upd (A25 25) b s0)))))) H := hM
              obtain ⟨M1, hM1⟩ : ∃ M9 : mw_M, M9 = va_up M1 (ra 25) (some (.inl (D.1 100, 3, .inl ((upd (A25 25) b s0))))) := ⟨_, rfl⟩
              rw [← hM1] at hM
              obtain ⟨A26, hA26⟩ : ∃ A9 : Nat → Nat → Int32, A9 = va_up A25 25 (upd (A25 25) b s0) := ⟨_, rfl⟩
              have hR := hR.setA 25 rfl (by decide) hM1 hA26
              have hF := mw_fu hM1 hF (mq_Pa (k := 25) rfl)
              refine lv_aload_n hx hb dd_Mo_attest_114 rfl (lv_at hl 1 rfl) ?_
              refine lv_iload_n hx hb dd_Mo_attest_115 rfl (lv_at hl 0 rfl) ?_
              refine mw_V (As := [.int (nI b)]) (rest := []) E (cc_Mo_forget l D z (M1) mm ra V24 A26 S b hR ha3) ky_Mo_forget kv_Mo_forget tw_Mo_176 hM hS hR.m rfl rfl rfl hl.1 rfl (Nat.le_of_ble_eq_true rfl) dd_Mo_attest_116 (by first | decide | exact ⟨by dsimp only; omega, by dsimp only; omega⟩) (by decide) (fun v M1 H locs hp hM hS => ?_)
              obtain ⟨rfl, ⟨A9, hR9, f1, f2, f3, f4, f5⟩, hF9⟩ := hp
              have hF := hF.trans hF9
              refine W.eq (g2 := F0 m 119 ls []) rfl ?_
              refine lv_iload_n hx hb dd_Mo_attest_119 rfl (lv_at hl 0 rfl) ?_
              refine mr_i E hr hk hM hS (by decide) (by decide) ?_ dd_Mo_attest_120
              exact ⟨rfl, ⟨A9, by rw [if_pos h81, ← hV24]; exact hR9, fun k h1 h2 h3 h4 h5 => by rw [f1 k h3 h4 h5, hA26, va_up_ne _ _ h2, hA25, va_up_ne _ _ h1], by rw [f1 24 (by decide) (by decide) (by decide), hA26, va_up_ne _ _ (by decide), hA25, va_up_self], by rw [f1 25 (by decide) (by decide) (by decide), hA26, va_up_self, hA25, va_up_ne _ _ (by decide)], f2, fun q hq => by rw [f3 q hq, hA26, va_up_ne _ _ (by decide), hA25, va_up_ne _ _ (by decide)], by rw [f4, hA26, va_up_ne _ _ (by decide), hA25, va_up_ne _ _ (by decide)], by rw [f5, hA26, va_up_ne _ _ (by decide), hA25, va_up_ne _ _ (by decide)]⟩, hF⟩
          ·
            rw [nI_eq (by omega) (by omega)] at h68
            omega
        have loop42 : ∀ (d9 : Nat) (b : Nat) (H : Heap) (locs : List Loc) (ls : Array Slot), b + d9 = a → mw_at D mg_cl z M H → va_S (mw_A z) s.heap H locs → lv_has ls 4 [(3, .int (nI b)), (0, .ref mm), (1, .int (nI i0)), (2, .int (s0))] → W p l e ({ frames := 2, cells := 0, slots := 0, locals := 44 } : Room) s m ([.ref mm, .int (nI i0), .int (s0)] : List Value).toArray below meth c H locs (0) (0) (MQ below (mw_Q D z (fun v M' => v = some (.int (nI a)) ∧ (∃ A1, mq_R D M' mm ra (va_up V 23 (nI (if a = na then na + 1 else na))) A1 S ∧ (∀ k : Nat, k ≠ 24 → k ≠ 25 → k ≠ 26 → k ≠ 31 → k ≠ 32 → A1 k = A k) ∧ A1 24 = upd (A 24) a (nI i0) ∧ A1 25 = upd (A 25) a s0 ∧ (∀ e : Nat, e < 60 → A1 26 (60 * a + e) = 0) ∧ (∀ q : Nat, (q < 60 * a ∨ 60 * a + 60 ≤ q) → A1 26 q = A 26 q) ∧ A1 31 = upd (A 31) a (nI 0) ∧ A1 32 = upd (A 32) a (nI 0)) ∧ mw_fr (mq_P mm ra) M M')) ([.ref mm, .int (nI i0), .int (s0)] : List Value).toArray s 0 0 (mw_A z)) (F0 m 42 ls []) := by
          intro d9
          induction d9 with
          | zero =>
            intro b H locs ls hp hM hS hl
            refine lv_iload_n hx hb dd_Mo_attest_42 rfl (lv_at hl 0 rfl) ?_
            refine lv_aload_n hx hb dd_Mo_attest_43 rfl (lv_at hl 1 rfl) ?_
            refine gf_Mo_173 E hM hR.m ((mo_at (by decide)).trans (congrArg some (mq_vi rfl hv23))) dd_Mo_attest_44 ?_
            refine lv_icmp_ge (tgt := 66) hx hb dd_Mo_attest_47 (by decide) (fun h47 => ?_) (fun h47 => ?_)
            ·
              rw [nI_leI (by omega) (by omega)] at h47
              exact join66 b H locs ls (by omega) hM hS (lv_sub hl [0, 1, 2, 3] rfl)
            ·
              rw [nI_leI (by omega) (by omega)] at h47
              refine lv_aload_n hx hb dd_Mo_attest_50 rfl (lv_at hl 1 rfl) ?_
              refine gf_Mo_48 E hM hR.m ((mo_at (by decide)).trans (congrArg some (mq_va rfl))) dd_Mo_attest_51 ?_
              have w24 : M (ra 24) = some (.inl (D.1 100, 3, .inl (A 24))) := hR.w 24 rfl (by decide)
              refine lv_iload_n hx hb dd_Mo_attest_54 rfl (lv_at hl 0 rfl) ?_
              refine mw_iald hx hb E.K hM 0 w24 rfl (vp_in_nI (by omega) (by omega)) dd_Mo_attest_55 ?_
              refine mw_topi (y := (A 24) b) (by rw [nI_clamp (by omega)]) ?_
              refine lv_iload_n hx hb dd_Mo_attest_56 rfl (lv_at hl 2 rfl) ?_
              refine lv_icmp_eq (tgt := 66) hx hb dd_Mo_attest_57 (by decide) (fun h57 => ?_) (fun h57 => ?_)
              ·
                exact join66 b H locs ls (by omega) hM hS (lv_sub hl [0, 1, 2, 3] rfl)
              ·
                exact absurd (hxa.elim (fun q => absurd h47 (by omega)) (fun q => by rw [show b = a by omega]; exact q.2)) h57
          | succ d9 ih =>
            intro b H locs ls hp hM hS hl
            refine lv_iload_n hx hb dd_Mo_attest_42 rfl (lv_at hl 0 rfl) ?_
            refine lv_aload_n hx hb dd_Mo_attest_43 rfl (lv_at hl 1 rfl) ?_
            refine gf_Mo_173 E hM hR.m ((mo_at (by decide)).trans (congrArg some (mq_vi rfl hv23))) dd_Mo_attest_44 ?_
            refine lv_icmp_ge (tgt := 66) hx hb dd_Mo_attest_47 (by decide) (fun h47 => ?_) (fun h47 => ?_)
            ·
              rw [nI_leI (by omega) (by omega)] at h47
              omega
            ·
              rw [nI_leI (by omega) (by omega)] at h47
              refine lv_aload_n hx hb dd_Mo_attest_50 rfl (lv_at hl 1 rfl) ?_
              refine gf_Mo_48 E hM hR.m ((mo_at (by decide)).trans (congrArg some (mq_va rfl))) dd_Mo_attest_51 ?_
              have w24 : M (ra 24) = some (.inl (D.1 100, 3, .inl (A 24))) := hR.w 24 rfl (by decide)
              refine lv_iload_n hx hb dd_Mo_attest_54 rfl (lv_at hl 0 rfl) ?_
              refine mw_iald hx hb E.K hM 0 w24 rfl (vp_in_nI (by omega) (by omega)) dd_Mo_attest_55 ?_
              refine mw_topi (y := (A 24) b) (by rw [nI_clamp (by omega)]) ?_
              refine lv_iload_n hx hb dd_Mo_attest_56 rfl (lv_at hl 2 rfl) ?_
              refine lv_icmp_eq (tgt := 66) hx hb dd_Mo_attest_57 (by decide) (fun h57 => ?_) (fun h57 => ?_)
              ·
                exact absurd h57 (hmn b (by omega))
              ·
                refine lv_iinc (k := 0) (v := nI (b + 1)) (lv' := [(3, .int (nI (b + 1))), (0, .ref mm), (1, .int (nI i0)), (2, .int (s0))]) hx hb dd_Mo_attest_60 hl rfl (nI_1 _) (by decide) rfl (fun ls hl => ?_)
                refine lv_goto (tgt := 42) hx hb dd_Mo_attest_63 (by decide) ?_
                exact ih (b + 1) H locs ls (by omega) hM hS (lv_sub hl [0, 1, 2, 3] rfl)
        exact loop42 a 0 H locs ls (by omega) hM hS (lv_sub hl [0, 1, 2, 3] rfl)
      ·
        exact absurd (show at_wr Ln Dn G i0 s0 from Or.inr (Bool.of_not_eq_false (fun q => h33 (zI_0.mpr q)))) hW
  ·
    exact absurd rfl h11
theorem cc_Mo_watch_f (l : Launch) (D : va_G) (z : Nat) (M : mw_M) (mm : Nat) (ra : Nat → Nat) (V : Nat → Int32) (A : Nat → Nat → Int32) (S : Nat → Int64) (a na nw : Nat) (sel : Int32) (hR : mq_R D M mm ra V A S) (hv23 : V 23 = nI na) (hna : na ≤ 3) (ha : a < na) (hv33 : V 33 = nI nw) (hnw : nw = 4) : mw_C l yy_Mo_watch bb_Mo_watch 3 (Option.some Jvm.ClassFile.FieldType.int) 1 22 0 0 D z M [.ref mm, .int (nI a), .int (sel)] (fun v M' => v = some (.int (-1003)) ∧ M' = M) := by
  refine mw_of (by decide) (Nat.le_of_ble_eq_true rfl) ?_
  intro p e s m below meth c ls E hr hk hnm hM hl
  have hx := E.x
  have hb := E.b
  have E : mw_E p m c bb_Mo_watch 3 s _ D z "IdentityIssuerModel" := E
  have hl : lv_has ls 3 [(0, .ref mm), (1, .int (nI a)), (2, .int (sel))] := hl
  have hS : va_S (mw_A z) s.heap s.heap [] := va_S.rf
  refine lv_iload_n hx hb dd_Mo_watch_0 rfl (lv_at hl 1 rfl) ?_
  refine lv_iconst (v := nI 0) hx hb dd_Mo_watch_1 (by decide) ?_
  refine lv_aload_n hx hb dd_Mo_watch_2 rfl (lv_at hl 0 rfl) ?_
  refine gf_Mo_173 E hM hR.m ((mo_at (by decide)).trans (congrArg some (mq_vi rfl hv23))) dd_Mo_watch_3 ?_
  refine lv_iconst (v := nI 1) hx hb dd_Mo_watch_6 (by decide) ?_
  refine lv_isub hx hb dd_Mo_watch_7 ?_
  refine mw_S (As := [.int (nI a), .int (nI 0), .int ((nI na) - (nI 1))]) (rest := []) E (cc_Mo_outside l D z (M) (nI a) (nI 0) (nI na - nI 1)) ky_Mo_outside kv_Mo_outside tw_Mo_118 hM hS rfl hl.1 rfl (Nat.le_of_ble_eq_true rfl) dd_Mo_watch_8 (by first | decide | exact ⟨by dsimp only; omega, by dsimp only; omega⟩) (by decide) (fun v M1 H locs hp hM hS => ?_)
  obtain ⟨rfl, hq⟩ := hp
  have hq := hq.symm
  subst hq
  rw [mo_out_has (by omega), mo_hasN ha (by omega)]
  refine W.eq (g2 := F0 m 11 ls [.int (zI false)]) rfl ?_
  refine lv_if_eq (tgt := 18) hx hb dd_Mo_watch_11 (by decide) (fun h11 => ?_) (fun h11 => ?_)
  ·
    refine lv_aload_n hx hb dd_Mo_watch_18 rfl (lv_at hl 0 rfl) ?_
    refine gf_Mo_226 E hM hR.m ((mo_at (by decide)).trans (congrArg some (mq_vi rfl hv33))) dd_Mo_watch_19 ?_
    refine lv_iconst (v := nI 4) hx hb dd_Mo_watch_22 (by decide) ?_
    refine lv_icmp_ne (tgt := 30) hx hb dd_Mo_watch_23 (by decide) (fun h23 => ?_) (fun h23 => ?_)
    ·
      rw [nI_eq (by omega) (by omega)] at h23
      omega
    ·
      rw [nI_eq (by omega) (by omega)] at h23
      refine lv_sipush (v := -1003) hx hb dd_Mo_watch_26 (by decide) ?_
      refine mr_i E hr hk hM hS (by decide) (by decide) ?_ dd_Mo_watch_29
      exact ⟨rfl, rfl⟩
  ·
    exact absurd rfl h11
theorem cc_Mo_watch_y (l : Launch) (D : va_G) (z : Nat) (M : mw_M) (mm : Nat) (ra : Nat → Nat) (V : Nat → Int32) (A : Nat → Nat → Int32) (S : Nat → Int64) (a na nw : Nat) (sel : Int32) (hR : mq_R D M mm ra V A S) (hv23 : V 23 = nI na) (hna : na ≤ 3) (ha : a < na) (hv33 : V 33 = nI nw) (hnw : nw < 4) : mw_C l yy_Mo_watch bb_Mo_watch 3 (Option.some Jvm.ClassFile.FieldType.int) 1 22 0 0 D z M [.ref mm, .int (nI a), .int (sel)] (fun v M' => v = some (.int (nI nw)) ∧ mq_R D M' mm ra (va_up V 33 (nI (nw + 1))) (va_up (va_up (va_up A 34 (upd (A 34) nw (nI a))) 35 (upd (A 35) nw sel)) 36 (upd (A 36) nw (-1))) S ∧ mw_fr (mq_P mm ra) M M') := by
  refine mw_of (by decide) (Nat.le_of_ble_eq_true rfl) ?_
  intro p e s m below meth c ls E hr hk hnm hM hl
  have hx := E.x
  have hb := E.b
  have E : mw_E p m c bb_Mo_watch 3 s _ D z "IdentityIssuerModel" := E
  have hl : lv_has ls 3 [(0, .ref mm), (1, .int (nI a)), (2, .int (sel))] := hl
  have hS : va_S (mw_A z) s.heap s.heap [] := va_S.rf
  have hF : mw_fr (mq_P mm ra) M M := mw_fr.rf
  refine lv_iload_n hx hb dd_Mo_watch_0 rfl (lv_at hl 1 rfl) ?_
  refine lv_iconst (v := nI 0) hx hb dd_Mo_watch_1 (by decide) ?_
  refine lv_aload_n hx hb dd_Mo_watch_2 rfl (lv_at hl 0 rfl) ?_
  refine gf_Mo_173 E hM hR.m ((mo_at (by decide)).trans (congrArg some (mq_vi rfl hv23))) dd_Mo_watch_3 ?_
  refine lv_iconst (v := nI 1) hx hb dd_Mo_watch_6 (by decide) ?_
  refine lv_isub hx hb dd_Mo_watch_7 ?_
  refine mw_S (As := [.int (nI a), .int (nI 0), .int ((nI na) - (nI 1))]) (rest := []) E (cc_Mo_outside l D z (M) (nI a) (nI 0) (nI na - nI 1)) ky_Mo_outside kv_Mo_outside tw_Mo_118 hM hS rfl hl.1 rfl (Nat.le_of_ble_eq_true rfl) dd_Mo_watch_8 (by first | decide | exact ⟨by dsimp only; omega, by dsimp only; omega⟩) (by decide) (fun v M1 H locs hp hM hS => ?_)
  obtain ⟨rfl, hq⟩ := hp
  have hq := hq.symm
  subst hq
  rw [mo_out_has (by omega), mo_hasN ha (by omega)]
  refine W.eq (g2 := F0 m 11 ls [.int (zI false)]) rfl ?_
  refine lv_if_eq (tgt := 18) hx hb dd_Mo_watch_11 (by decide) (fun h11 => ?_) (fun h11 => ?_)
  ·
    refine lv_aload_n hx hb dd_Mo_watch_18 rfl (lv_at hl 0 rfl) ?_
    refine gf_Mo_226 E hM hR.m ((mo_at (by decide)).trans (congrArg some (mq_vi rfl hv33))) dd_Mo_watch_19 ?_
    refine lv_iconst (v := nI 4) hx hb dd_Mo_watch_22 (by decide) ?_
    refine lv_icmp_ne (tgt := 30) hx hb dd_Mo_watch_23 (by decide) (fun h23 => ?_) (fun h23 => ?_)
    ·
      rw [nI_eq (by omega) (by omega)] at h23
      refine lv_aload_n hx hb dd_Mo_watch_30 rfl (lv_at hl 0 rfl) ?_
      refine gf_Mo_75 E hM hR.m ((mo_at (by decide)).trans (congrArg some (mq_va rfl))) dd_Mo_watch_31 ?_
      have w34 : M (ra 34) = some (.inl (D.1 100, 4, .inl (A 34))) := hR.w 34 rfl (by decide)
      refine lv_aload_n hx hb dd_Mo_watch_34 rfl (lv_at hl 0 rfl) ?_
      refine gf_Mo_226 E hM hR.m ((mo_at (by decide)).trans (congrArg some (mq_vi rfl hv33))) dd_Mo_watch_35 ?_
      refine lv_iload_n hx hb dd_Mo_watch_38 rfl (lv_at hl 1 rfl) ?_
      have w34 : M (ra 34) = some (.inl (D.1 100, 4, .inl (A 34))) := hR.w 34 rfl (by decide)
      refine mw_iast hx hb E.K hM E.zz hS 0 w34 rfl (vp_in_nI (by omega) (by omega)) dd_Mo_watch_39 (fun H locs hM hS => ?_)
      rw [nI_clamp (by omega)] at hM
      have hM : mw_at D mg_cl z (va_up M (ra 34) (some (.inl (D.1 100, 4, .inl ((upd (A 34) nw (nI a))))))) H := hM
      obtain ⟨M1, hM1⟩ : ∃ M9 : mw_M, M9 = va_up M (ra 34) (some (.inl (D.1 100, 4, .inl ((upd (A 34) nw (nI a)))))) := ⟨_, rfl⟩
      rw [← hM1] at hM
      obtain ⟨A21, hA21⟩ : ∃ A9 : Nat → Nat → Int32, A9 = va_up A 34 (upd (A 34) nw (nI a)) := ⟨_, rfl⟩
      have hR := hR.setA 34 rfl (by decide) hM1 hA21
      have hF := mw_fu hM1 hF (mq_Pa (k := 34) rfl)
      refine lv_aload_n hx hb dd_Mo_watch_40 rfl (lv_at hl 0 rfl) ?_
      refine gf_Mo_78 E hM hR.m ((mo_at (by decide)).trans (congrArg some (mq_va rfl))) dd_Mo_watch_41 ?_
      have w35 : M1 (ra 35) = some (.inl (D.1 100, 4, .inl (A21 35))) := hR.w 35 rfl (by decide)
      refine lv_aload_n hx hb dd_Mo_watch_44 rfl (lv_at hl 0 rfl) ?_
      refine gf_Mo_226 E hM hR.m ((mo_at (by decide)).trans (congrArg some (mq_vi rfl hv33))) dd_Mo_watch_45 ?_
      refine lv_iload_n hx hb dd_Mo_watch_48 rfl (lv_at hl 2 rfl) ?_
      have w35 : M1 (ra 35) = some (.inl (D.1 100, 4, .inl (A21 35))) := hR.w 35 rfl (by decide)
      refine mw_iast hx hb E.K hM E.zz hS 0 w35 rfl (vp_in_nI (by omega) (by omega)) dd_Mo_watch_49 (fun H locs hM hS => ?_)
      rw [nI_clamp (by omega)] at hM
      have hM : mw_at D mg_cl z (va_up M1 (ra 35) (some (.inl (D.1 100, 4, .inl ((upd (A21 35) nw sel)))))) H := hM
      obtain ⟨M1, hM1⟩ : ∃ M9 : mw_M, M9 = va_up M1 (ra 35) (some (.inl (D.1 100, 4, .inl ((upd (A21 35) nw sel))))) := ⟨_, rfl⟩
      rw [← hM1] at hM
      obtain ⟨A22, hA22⟩ : ∃ A9 : Nat → Nat → Int32, A9 = va_up A21 35 (upd (A21 35) nw sel) := ⟨_, rfl⟩
      have hR := hR.setA 35 rfl (by decide) hM1 hA22
      have hF := mw_fu hM1 hF (mq_Pa (k := 35) rfl)
      refine lv_aload_n hx hb dd_Mo_watch_50 rfl (lv_at hl 0 rfl) ?_
      refine gf_Mo_81 E hM hR.m ((mo_at (by decide)).trans (congrArg some (mq_va rfl))) dd_Mo_watch_51 ?_
      have w36 : M1 (ra 36) = some (.inl (D.1 100, 4, .inl (A22 36))) := hR.w 36 rfl (by decide)
      refine lv_aload_n hx hb dd_Mo_watch_54 rfl (lv_at hl 0 rfl) ?_
      refine gf_Mo_226 E hM hR.m ((mo_at (by decide)).trans (congrArg some (mq_vi rfl hv33))) dd_Mo_watch_55 ?_
      refine lv_iconst (v := -1) hx hb dd_Mo_watch_58 (by decide) ?_
      have w36 : M1 (ra 36) = some (.inl (D.1 100, 4, .inl (A22 36))) := hR.w 36 rfl (by decide)
      refine mw_iast hx hb E.K hM E.zz hS 0 w36 rfl (vp_in_nI (by omega) (by omega)) dd_Mo_watch_59 (fun H locs hM hS => ?_)
      rw [nI_clamp (by omega)] at hM
      have hM : mw_at D mg_cl z (va_up M1 (ra 36) (some (.inl (D.1 100, 4, .inl ((upd (A22 36) nw (-1))))))) H := hM
      obtain ⟨M1, hM1⟩ : ∃ M9 : mw_M, M9 = va_up M1 (ra 36) (some (.inl (D.1 100, 4, .inl ((upd (A22 36) nw (-1)))))) := ⟨_, rfl⟩
      rw [← hM1] at hM
      obtain ⟨A23, hA23⟩ : ∃ A9 : Nat → Nat → Int32, A9 = va_up A22 36 (upd (A22 36) nw (-1)) := ⟨_, rfl⟩
      have hR := hR.setA 36 rfl (by decide) hM1 hA23
      have hF := mw_fu hM1 hF (mq_Pa (k := 36) rfl)
      refine lv_aload_n hx hb dd_Mo_watch_60 rfl (lv_at hl 0 rfl) ?_
      refine lv_dup hx hb dd_Mo_watch_61 rfl ?_
      refine gf_Mo_226 E hM hR.m ((mo_at (by decide)).trans (congrArg some (mq_vi rfl hv33))) dd_Mo_watch_62 ?_
      refine lv_iconst (v := nI 1) hx hb dd_Mo_watch_65 (by decide) ?_
      refine lv_iadd hx hb dd_Mo_watch_66 ?_
      refine mw_topi (y := nI (nw + 1)) (nI_add _ _) ?_
      refine pf_Mo_226 E hM hS hR.m (by rw [mo_len]; decide) dd_Mo_watch_67 (fun H locs hM hS => ?_)
      rw [mo_set (by decide), mq_vu rfl] at hM
      obtain ⟨V24, hV24⟩ : ∃ V9 : Nat → Int32, V9 = va_up V 33 (nI (nw + 1)) := ⟨_, rfl⟩
      rw [← hV24] at hM
      obtain ⟨M1, hM1⟩ : ∃ M9 : mw_M, M9 = va_up M1 mm (some (.inr (13, mo_l (mq_v ra V24)))) := ⟨_, rfl⟩
      rw [← hM1] at hM
      have hR := hR.setV hM1
      have hF := mw_fu hM1 hF (Or.inl rfl)
      have hv23 := mq_vn hV24 hv23 (by decide)
      have hv33 := mq_vs hV24
      refine lv_aload_n hx hb dd_Mo_watch_70 rfl (lv_at hl 0 rfl) ?_
      refine gf_Mo_226 E hM hR.m ((mo_at (by decide)).trans (congrArg some (mq_vi rfl hv33))) dd_Mo_watch_71 ?_
      refine lv_iconst (v := nI 1) hx hb dd_Mo_watch_74 (by decide) ?_
      refine lv_isub hx hb dd_Mo_watch_75 ?_
      refine mw_topi (y := nI ((nw + 1) - 1)) (pk_sub (by omega)) ?_
      refine mr_i E hr hk hM hS (by decide) (by decide) ?_ dd_Mo_watch_76
      refine ⟨by rw [Nat.add_sub_cancel], ?_, hF⟩
      have e9 : A23 = va_up (va_up (va_up A 34 (upd (A 34) nw (nI a))) 35 (upd (A 35) nw sel)) 36 (upd (A 36) nw (-1)) := by
        rw [hA23, hA22, hA21]
        rfl
      rw [← e9, ← hV24]
      exact hR
    ·
      rw [nI_eq (by omega) (by omega)] at h23
      omega
  ·
    exact absurd rfl h11
theorem cc_Mo_fetch (l : Launch) (D : va_G) (z : Nat) (M : mw_M) (mm : Nat) (ra : Nat → Nat) (V : Nat → Int32) (A : Nat → Nat → Int32) (S : Nat → Int64) (a na mk km : Nat) (sel : Int32) (hR : mq_R D M mm ra V A S) (hv23 : V 23 = nI na) (hna : na ≤ 3) (ha : a < na) (hv15 : V 15 = nI mk) (hmk : mk ≤ 60) (h12 : (mq_rs A (V 1) a sel mk).length ≤ 12) (hkm : A 31 a = nI km) (hkm4 : km ≤ 4) : mw_C l yy_Mo_fetch bb_Mo_fetch 3 (Option.some Jvm.ClassFile.FieldType.int) 2 46 0 0 D z M [.ref mm, .int (nI a), .int (sel)] (fun v M' => v = some (.int (if (mq_rs A (V 1) a sel mk).length = 0 then -1004 else nI (mq_rs A (V 1) a sel mk).length)) ∧ (∃ V1 A1, mq_R D M' mm ra V1 A1 S ∧ V1 = va_up (va_up (va_up (va_up V 46 (nI (mq_rs A (V 1) a sel mk).length)) 41 (nI (mq_rs A (V 1) a sel mk).length)) 43 (nI (if (mq_rs A (V 1) a sel mk).length = 0 then 0 else km))) 45 (mf_or A (mq_rs A (V 1) a sel mk) &&& A 32 a) ∧ (∀ k : Nat, k ≠ 42 → k ≠ 44 → k ≠ 47 → A1 k = A k) ∧ mq_sh A (A1 42) a (mq_rs A (V 1) a sel mk).length (mq_rs A (V 1) a sel mk) ∧ ∀ q : Nat, q < (if (mq_rs A (V 1) a sel mk).length = 0 then 0 else km) → A1 44 q = A 30 (4 * a + q)) ∧ mw_fr (mq_P mm ra) M M') := by
  refine mw_of (by decide) (Nat.le_of_ble_eq_true rfl) ?_
  intro p e s m below meth c ls E hr hk hnm hM hl
  have hx := E.x
  have hb := E.b
  have E : mw_E p m c bb_Mo_fetch 3 s _ D z "IdentityIssuerModel" := E
  have hl : lv_has ls 3 [(0, .ref mm), (1, .int (nI a)), (2, .int (sel))] := hl
  have hS : va_S (mw_A z) s.heap s.heap [] := va_S.rf
  have hF : mw_fr (mq_P mm ra) M M := mw_fr.rf
  have ha0 : a < 3 := by omega
  refine lv_iload_n hx hb dd_Mo_fetch_0 rfl (lv_at hl 1 rfl) ?_
  refine lv_iconst (v := nI 0) hx hb dd_Mo_fetch_1 (by decide) ?_
  refine lv_aload_n hx hb dd_Mo_fetch_2 rfl (lv_at hl 0 rfl) ?_
  refine gf_Mo_173 E hM hR.m ((mo_at (by decide)).trans (congrArg some (mq_vi rfl hv23))) dd_Mo_fetch_3 ?_
  refine lv_iconst (v := nI 1) hx hb dd_Mo_fetch_6 (by decide) ?_
  refine lv_isub hx hb dd_Mo_fetch_7 ?_
  refine mw_S (As := [.int (nI a), .int (nI 0), .int ((nI na) - (nI 1))]) (rest := []) E (cc_Mo_outside l D z (M) (nI a) (nI 0) (nI na - nI 1)) ky_Mo_outside kv_Mo_outside tw_Mo_118 hM hS rfl hl.1 rfl (Nat.le_of_ble_eq_true rfl) dd_Mo_fetch_8 (by first | decide | exact ⟨by dsimp only; omega, by dsimp only; omega⟩) (by decide) (fun v M1 H locs hp hM hS => ?_)
  obtain ⟨rfl, hq⟩ := hp
  have hq := hq.symm
  subst hq
  rw [mo_out_has (by omega), mo_hasN ha (by omega)]
  refine W.eq (g2 := F0 m 11 ls [.int (zI false)]) rfl ?_
  refine lv_if_eq (tgt := 18) hx hb dd_Mo_fetch_11 (by decide) (fun h11 => ?_) (fun h11 => ?_)
  ·
    refine lv_aload_n hx hb dd_Mo_fetch_18 rfl (lv_at hl 0 rfl) ?_
    refine lv_iload_n hx hb dd_Mo_fetch_19 rfl (lv_at hl 1 rfl) ?_
    refine lv_iload_n hx hb dd_Mo_fetch_20 rfl (lv_at hl 2 rfl) ?_
    refine mw_V (As := [.int (nI a), .int (sel)]) (rest := []) E (cc_Mo_respond l D z (M) mm ra V A S a mk sel hR ha0 hv15 hmk h12) ky_Mo_respond kv_Mo_respond tw_Mo_220 hM hS hR.m rfl rfl rfl hl.1 rfl (Nat.le_of_ble_eq_true rfl) dd_Mo_fetch_21 (by first | decide | exact ⟨by dsimp only; omega, by dsimp only; omega⟩) (by decide) (fun v M1 H locs hp hM hS => ?_)
    obtain ⟨rfl, ⟨V8, A8, hR, hV8, hA8, hf8⟩, hF9⟩ := hp
    have hF := hF.trans hF9
    have hfd : mq_fd V8 A8 (mq_rs A (V 1) a sel mk) := ⟨by rw [hV8]; rfl, h12, hf8, fun e he => Nat.lt_of_lt_of_le (mq_rs_lt he) hmk⟩
    refine W.eq (g2 := F0 m 24 ls []) rfl ?_
    refine lv_aload_n hx hb dd_Mo_fetch_24 rfl (lv_at hl 0 rfl) ?_
    refine lv_iload_n hx hb dd_Mo_fetch_25 rfl (lv_at hl 1 rfl) ?_
    refine mw_V (As := [.int (nI a)]) (rest := []) E (cc_Mo_show l D z (M1) mm ra V8 A8 S a km (mq_rs A (V 1) a sel mk) hR ha0 hfd (by rw [hA8 31 (by decide)]; exact hkm) hkm4) ky_Mo_show kv_Mo_show tw_Mo_223 hM hS hR.m rfl rfl rfl hl.1 rfl (Nat.le_of_ble_eq_true rfl) dd_Mo_fetch_26 (by first | decide | exact ⟨by dsimp only; omega, by dsimp only; omega⟩) (by decide) (fun v M1 H locs hp hM hS => ?_)
    obtain ⟨rfl, ⟨V7, A7, hR7, hV7, hA7, hs7, hk7⟩, hF7⟩ := hp
    have hF := hF.trans hF7
    rw [mf_or_c (A := A) (hA8 21 (by decide)), hA8 32 (by decide), hV8] at hV7
    have hs7 : mq_sh A (A7 42) a (mq_rs A (V 1) a sel mk).length (mq_rs A (V 1) a sel mk) := fun j e h1 h2 => by
      have h9 := hs7 j e h1 h2
      rw [hA8 26 (by decide), hA8 27 (by decide), hA8 28 (by decide), hA8 29 (by decide)] at h9
      exact h9
    have hk7 : ∀ q : Nat, q < (if (mq_rs A (V 1) a sel mk).length = 0 then 0 else km) → A7 44 q = A 30 (4 * a + q) := fun q hq => by rw [hk7 q hq, hA8 30 (by decide)]
    refine W.eq (g2 := F0 m 29 ls [.int (if (mq_rs A (V 1) a sel mk).length = 0 then -1004 else nI (mq_rs A (V 1) a sel mk).length)]) rfl ?_
    refine mr_i E hr hk hM hS (by decide) (by decide) ?_ dd_Mo_fetch_29
    exact ⟨rfl, ⟨V7, A7, hR7, hV7, fun k h1 h2 h3 => by rw [hA7 k h1 h2, hA8 k h3], hs7, hk7⟩, hF⟩
  ·
    exact absurd rfl h11
theorem cc_Mo_svid (l : Launch) (D : va_G) (z : Nat) (M : mw_M) (mm : Nat) (ra : Nat → Nat) (V : Nat → Int32) (A : Nat → Nat → Int32) (S : Nat → Int64) (k nl wh : Nat) (hR : mq_R D M mm ra V A S) (hv41 : V 41 = nI nl) (hnl : nl ≤ 12) (hk9 : k < nl) (hwh : wh < 5) : mw_C l yy_Mo_svid bb_Mo_svid 3 (Option.some Jvm.ClassFile.FieldType.int) 1 22 0 0 D z M [.ref mm, .int (nI k), .int (nI wh)] (fun v M' => v = some (.int (A 42 (5 * k + wh))) ∧ M' = M) := by
  refine mw_of (by decide) (Nat.le_of_ble_eq_true rfl) ?_
  intro p e s m below meth c ls E hr hk hnm hM hl
  have hx := E.x
  have hb := E.b
  have E : mw_E p m c bb_Mo_svid 3 s _ D z "IdentityIssuerModel" := E
  have hl : lv_has ls 3 [(0, .ref mm), (1, .int (nI k)), (2, .int (nI wh))] := hl
  have hS : va_S (mw_A z) s.heap s.heap [] := va_S.rf
  refine lv_iload_n hx hb dd_Mo_svid_0 rfl (lv_at hl 1 rfl) ?_
  refine lv_iconst (v := nI 0) hx hb dd_Mo_svid_1 (by decide) ?_
  refine lv_aload_n hx hb dd_Mo_svid_2 rfl (lv_at hl 0 rfl) ?_
  refine gf_Mo_208 E hM hR.m ((mo_at (by decide)).trans (congrArg some (mq_vi rfl hv41))) dd_Mo_svid_3 ?_
  refine lv_iconst (v := nI 1) hx hb dd_Mo_svid_6 (by decide) ?_
  refine lv_isub hx hb dd_Mo_svid_7 ?_
  refine mw_S (As := [.int (nI k), .int (nI 0), .int ((nI nl) - (nI 1))]) (rest := []) E (cc_Mo_outside l D z (M) (nI k) (nI 0) (nI nl - nI 1)) ky_Mo_outside kv_Mo_outside tw_Mo_118 hM hS rfl hl.1 rfl (Nat.le_of_ble_eq_true rfl) dd_Mo_svid_8 (by first | decide | exact ⟨by dsimp only; omega, by dsimp only; omega⟩) (by decide) (fun v M1 H locs hp hM hS => ?_)
  obtain ⟨rfl, hq⟩ := hp
  have hq := hq.symm
  subst hq
  rw [mo_out_has (by omega), mo_hasN hk9 (by omega)]
  refine W.eq (g2 := F0 m 11 ls [.int (zI false)]) rfl ?_
  refine lv_if_ne (tgt := 23) hx hb dd_Mo_svid_11 (by decide) (fun h11 => ?_) (fun h11 => ?_)
  ·
    exact absurd rfl h11
  ·
    refine lv_iload_n hx hb dd_Mo_svid_14 rfl (lv_at hl 2 rfl) ?_
    refine lv_iconst (v := nI 0) hx hb dd_Mo_svid_15 (by decide) ?_
    refine lv_iconst (v := nI 4) hx hb dd_Mo_svid_16 (by decide) ?_
    refine mw_S (As := [.int (nI wh), .int (nI 0), .int (nI 4)]) (rest := []) E (cc_Mo_outside l D z (M) (nI wh) (nI 0) (nI 4)) ky_Mo_outside kv_Mo_outside tw_Mo_118 hM hS rfl hl.1 rfl (Nat.le_of_ble_eq_true rfl) dd_Mo_svid_17 (by first | decide | exact ⟨by dsimp only; omega, by dsimp only; omega⟩) (by decide) (fun v M1 H locs hp hM hS => ?_)
    obtain ⟨rfl, hq⟩ := hp
    have hq := hq.symm
    subst hq
    rw [mo_out_c (by decide), mo_hasN hwh (by decide)]
    refine W.eq (g2 := F0 m 20 ls [.int (zI false)]) rfl ?_
    refine lv_if_eq (tgt := 29) hx hb dd_Mo_svid_20 (by decide) (fun h20 => ?_) (fun h20 => ?_)
    ·
      refine lv_aload_n hx hb dd_Mo_svid_29 rfl (lv_at hl 0 rfl) ?_
      refine gf_Mo_96 E hM hR.m ((mo_at (by decide)).trans (congrArg some (mq_va rfl))) dd_Mo_svid_30 ?_
      have w42 : M (ra 42) = some (.inl (D.1 100, 60, .inl (A 42))) := hR.w 42 rfl (by decide)
      refine lv_iconst (v := nI 5) hx hb dd_Mo_svid_33 (by decide) ?_
      refine lv_iload_n hx hb dd_Mo_svid_34 rfl (lv_at hl 1 rfl) ?_
      refine lv_imul hx hb dd_Mo_svid_35 ?_
      refine mw_topi (y := nI (5 * k)) (pk_mul _ _) ?_
      refine lv_iload_n hx hb dd_Mo_svid_36 rfl (lv_at hl 2 rfl) ?_
      refine lv_iadd hx hb dd_Mo_svid_37 ?_
      refine mw_topi (y := nI ((5 * k) + wh)) (nI_add _ _) ?_
      refine mw_iald hx hb E.K hM 0 w42 rfl (vp_in_nI (by omega) (by omega)) dd_Mo_svid_38 ?_
      refine mw_topi (y := (A 42) ((5 * k) + wh)) (by rw [nI_clamp (by omega)]) ?_
      refine mr_i E hr hk hM hS (by decide) (by decide) ?_ dd_Mo_svid_39
      exact ⟨rfl, rfl⟩
    ·
      exact absurd rfl h20
theorem cc_Mo_svid_o (l : Launch) (D : va_G) (z : Nat) (M : mw_M) (mm : Nat) (ra : Nat → Nat) (V : Nat → Int32) (A : Nat → Nat → Int32) (S : Nat → Int64) (k nl : Nat) (wh : Int32) (hR : mq_R D M mm ra V A S) (hv41 : V 41 = nI nl) (hnl : nl ≤ 12) (hk9 : k < nl) (hwh : xi_has 5 wh = false) : mw_C l yy_Mo_svid bb_Mo_svid 3 (Option.some Jvm.ClassFile.FieldType.int) 1 22 0 0 D z M [.ref mm, .int (nI k), .int (wh)] (fun v M' => v = some (.int (-1001)) ∧ M' = M) := by
  refine mw_of (by decide) (Nat.le_of_ble_eq_true rfl) ?_
  intro p e s m below meth c ls E hr hk hnm hM hl
  have hx := E.x
  have hb := E.b
  have E : mw_E p m c bb_Mo_svid 3 s _ D z "IdentityIssuerModel" := E
  have hl : lv_has ls 3 [(0, .ref mm), (1, .int (nI k)), (2, .int (wh))] := hl
  have hS : va_S (mw_A z) s.heap s.heap [] := va_S.rf
  refine lv_iload_n hx hb dd_Mo_svid_0 rfl (lv_at hl 1 rfl) ?_
  refine lv_iconst (v := nI 0) hx hb dd_Mo_svid_1 (by decide) ?_
  refine lv_aload_n hx hb dd_Mo_svid_2 rfl (lv_at hl 0 rfl) ?_
  refine gf_Mo_208 E hM hR.m ((mo_at (by decide)).trans (congrArg some (mq_vi rfl hv41))) dd_Mo_svid_3 ?_
  refine lv_iconst (v := nI 1) hx hb dd_Mo_svid_6 (by decide) ?_
  refine lv_isub hx hb dd_Mo_svid_7 ?_
  refine mw_S (As := [.int (nI k), .int (nI 0), .int ((nI nl) - (nI 1))]) (rest := []) E (cc_Mo_outside l D z (M) (nI k) (nI 0) (nI nl - nI 1)) ky_Mo_outside kv_Mo_outside tw_Mo_118 hM hS rfl hl.1 rfl (Nat.le_of_ble_eq_true rfl) dd_Mo_svid_8 (by first | decide | exact ⟨by dsimp only; omega, by dsimp only; omega⟩) (by decide) (fun v M1 H locs hp hM hS => ?_)
  obtain ⟨rfl, hq⟩ := hp
  have hq := hq.symm
  subst hq
  rw [mo_out_has (by omega), mo_hasN hk9 (by omega)]
  refine W.eq (g2 := F0 m 11 ls [.int (zI false)]) rfl ?_
  refine lv_if_ne (tgt := 23) hx hb dd_Mo_svid_11 (by decide) (fun h11 => ?_) (fun h11 => ?_)
  ·
    exact absurd rfl h11
  ·
    refine lv_iload_n hx hb dd_Mo_svid_14 rfl (lv_at hl 2 rfl) ?_
    refine lv_iconst (v := nI 0) hx hb dd_Mo_svid_15 (by decide) ?_
    refine lv_iconst (v := nI 4) hx hb dd_Mo_svid_16 (by decide) ?_
    refine mw_S (As := [.int (wh), .int (nI 0), .int (nI 4)]) (rest := []) E (cc_Mo_outside l D z (M) wh (nI 0) (nI 4)) ky_Mo_outside kv_Mo_outside tw_Mo_118 hM hS rfl hl.1 rfl (Nat.le_of_ble_eq_true rfl) dd_Mo_svid_17 (by first | decide | exact ⟨by dsimp only; omega, by dsimp only; omega⟩) (by decide) (fun v M1 H locs hp hM hS => ?_)
    obtain ⟨rfl, hq⟩ := hp
    have hq := hq.symm
    subst hq
    rw [mo_out_c (by decide), hwh]
    refine W.eq (g2 := F0 m 20 ls [.int (zI true)]) rfl ?_
    refine lv_if_eq (tgt := 29) hx hb dd_Mo_svid_20 (by decide) (fun h20 => ?_) (fun h20 => ?_)
    ·
      exact absurd h20 (by decide)
    ·
      refine lv_sipush (v := -1001) hx hb dd_Mo_svid_23 (by decide) ?_
      refine lv_goto (tgt := 39) hx hb dd_Mo_svid_26 (by decide) ?_
      refine mr_i E hr hk hM hS (by decide) (by decide) ?_ dd_Mo_svid_39
      exact ⟨rfl, rfl⟩
