/-! the reference: identify, id -/
theorem cc_Mo_identify_e (l : Launch) (D : va_G) (z : Nat) (M : mw_M) (mm : Nat) (ra : Nat → Nat) (V : Nat → Int32) (A : Nat → Nat → Int32) (S : Nat → Int64) (n e0 : Nat) (g : Nat → Nat) (hR : mq_R D M mm ra V A S) (hn : n ≤ 100) (hbf : ∀ q : Nat, q < n → A 2 q = nI (g q) ∧ g q < 256) (herr : ie_err g 0 n = some e0) (he0 : e0 ≤ 100) : mw_C l yy_Mo_identify bb_Mo_identify 4 (Option.some Jvm.ClassFile.FieldType.int) 4 89 0 0 D z M [.ref mm, .int (nI n)] (fun v M' => v = some (.int (-1 - nI e0)) ∧ (∃ x, mq_R D M' mm ra (va_up V 8 x) A S) ∧ mw_fr (mq_P mm ra) M M') := by
  refine mw_of (by decide) (Nat.le_of_ble_eq_true rfl) ?_
  intro p e s m below meth c ls E hr hk hnm hM hl
  have hx := E.x
  have hb := E.b
  have E : mw_E p m c bb_Mo_identify 4 s _ D z "IdentityIssuerModel" := E
  have hl : lv_has ls 4 [(0, .ref mm), (1, .int (nI n))] := hl
  have hS : va_S (mw_A z) s.heap s.heap [] := va_S.rf
  have hF : mw_fr (mq_P mm ra) M M := mw_fr.rf
  refine lv_aload_n hx hb dd_Mo_identify_0 rfl (lv_at hl 0 rfl) ?_
  refine lv_iconst (v := nI 0) hx hb dd_Mo_identify_1 (by decide) ?_
  refine lv_iload_n hx hb dd_Mo_identify_2 rfl (lv_at hl 1 rfl) ?_
  refine mw_V (As := [.int (nI 0), .int (nI n)]) (rest := []) E (cc_Mo_idError l D z (M) mm (mq_v ra V) (ra 2) (A 2) n g 0 n hR.m (mq_va rfl) (hR.w 2 rfl (by decide)) hn hbf (by omega) (Ne.symm (hR.ne 2 rfl)) ⟨V 8, mq_vi rfl rfl⟩) ky_Mo_idError kv_Mo_idError tw_Mo_147 hM hS hR.m rfl rfl rfl hl.1 rfl (Nat.le_of_ble_eq_true rfl) dd_Mo_identify_3 (by first | decide | exact ⟨by dsimp only; omega, by dsimp only; omega⟩) (by decide) (fun v M1 H locs hp hM hS => ?_)
  obtain ⟨rfl, ⟨G9, hm9, hg9, ⟨x8, h88⟩, h89⟩, hF9⟩ := hp
  have hR := hR.of8 hF9 hm9 hg9 h88
  have hF : mw_fr (mq_P mm ra) M M1 := hF9.mono (fun q h => Or.inl h)
  obtain ⟨V8, hV8⟩ : ∃ V9 : Nat → Int32, V9 = va_up V 8 x8 := ⟨_, rfl⟩
  rw [← hV8] at hR
  rw [herr]
  refine W.eq (g2 := F0 m 6 ls [.int (nI e0)]) rfl ?_
  refine lv_istore_n (lv' := [(2, .int (nI e0)), (0, .ref mm), (1, .int (nI n))]) hx hb dd_Mo_identify_6 rfl hl (by decide) rfl (fun ls hl => ?_)
  refine lv_iload_n hx hb dd_Mo_identify_7 rfl (lv_at hl 0 rfl) ?_
  refine lv_if_lt (tgt := 15) hx hb dd_Mo_identify_8 (by decide) (fun h8 => ?_) (fun h8 => ?_)
  ·
    exact absurd h8 (nI_pos (by omega))
  ·
    refine lv_iconst (v := -1) hx hb dd_Mo_identify_11 (by decide) ?_
    refine lv_iload_n hx hb dd_Mo_identify_12 rfl (lv_at hl 0 rfl) ?_
    refine lv_isub hx hb dd_Mo_identify_13 ?_
    refine mr_i E hr hk hM hS (by decide) (by decide) ?_ dd_Mo_identify_14
    exact ⟨rfl, ⟨x8, by rw [← hV8]; exact hR⟩, hF⟩
theorem cc_Mo_identify (l : Launch) (D : va_G) (z : Nat) (M : mw_M) (mm : Nat) (ra : Nat → Nat) (V : Nat → Int32) (A : Nat → Nat → Int32) (S : Nat → Int64) (ic : Nat) (Ln Dn : Nat → Nat) (G : Nat → Nat → Nat) (n : Nat) (g : Nat → Nat) (hR : mq_R D M mm ra V A S) (hJ : mi_at V A ic Ln Dn G) (hO : id_ok ic Ln Dn G) (hn : n ≤ 100) (hbf : ∀ q : Nat, q < n → A 2 q = nI (g q) ∧ g q < 256) (herr : ie_err g 0 n = none) : mw_C l yy_Mo_identify bb_Mo_identify 4 (Option.some Jvm.ClassFile.FieldType.int) 4 89 0 0 D z M [.ref mm, .int (nI n)] (fun v M' => ∃ V1 A1, mq_R D M' mm ra V1 A1 S ∧ (∀ j : Nat, j ≠ 4 → j ≠ 8 → V1 j = V j) ∧ (∀ j : Nat, j ≠ 5 → j ≠ 6 → j ≠ 7 → A1 j = A j) ∧ mw_fr (mq_P mm ra) M M' ∧ ((∃ i : Nat, i < ic ∧ id_same n g Ln G i ∧ (∀ j : Nat, j < i → ¬ id_same n g Ln G j) ∧ v = some (.int (nI i)) ∧ mi_at V1 A1 ic Ln Dn G) ∨ ((∀ j : Nat, j < ic → ¬ id_same n g Ln G j) ∧ ic = 12 ∧ v = some (.int (-1003)) ∧ mi_at V1 A1 ic Ln Dn G) ∨ ((∀ j : Nat, j < ic → ¬ id_same n g Ln G j) ∧ ic < 12 ∧ v = some (.int (nI ic)) ∧ mi_at V1 A1 (ic + 1) (fun j => if j = ic then n else Ln j) (fun j => if j = ic then ie_de g 9 n else Dn j) (fun j => if j = ic then g else G j)))) := by
  refine mw_of (by decide) (Nat.le_of_ble_eq_true rfl) ?_
  intro p e s m below meth c ls E hr hk hnm hM hl
  have hx := E.x
  have hb := E.b
  have E : mw_E p m c bb_Mo_identify 4 s _ D z "IdentityIssuerModel" := E
  have hl : lv_has ls 4 [(0, .ref mm), (1, .int (nI n))] := hl
  have hS : va_S (mw_A z) s.heap s.heap [] := va_S.rf
  have hF : mw_fr (mq_P mm ra) M M := mw_fr.rf
  have hic := hO.1
  have hok := ie_ok herr
  have hv4 := hJ.1
  have hJ0 := hJ
  refine lv_aload_n hx hb dd_Mo_identify_0 rfl (lv_at hl 0 rfl) ?_
  refine lv_iconst (v := nI 0) hx hb dd_Mo_identify_1 (by decide) ?_
  refine lv_iload_n hx hb dd_Mo_identify_2 rfl (lv_at hl 1 rfl) ?_
  refine mw_V (As := [.int (nI 0), .int (nI n)]) (rest := []) E (cc_Mo_idError l D z (M) mm (mq_v ra V) (ra 2) (A 2) n g 0 n hR.m (mq_va rfl) (hR.w 2 rfl (by decide)) hn hbf (by omega) (Ne.symm (hR.ne 2 rfl)) ⟨V 8, mq_vi rfl rfl⟩) ky_Mo_idError kv_Mo_idError tw_Mo_147 hM hS hR.m rfl rfl rfl hl.1 rfl (Nat.le_of_ble_eq_true rfl) dd_Mo_identify_3 (by first | decide | exact ⟨by dsimp only; omega, by dsimp only; omega⟩) (by decide) (fun v M1 H locs hp hM hS => ?_)
  obtain ⟨rfl, ⟨G9, hm9, hg9, ⟨x8, h88⟩, h89⟩, hF9⟩ := hp
  have hR := hR.of8 hF9 hm9 hg9 h88
  have hF : mw_fr (mq_P mm ra) M M1 := hF9.mono (fun q h => Or.inl h)
  obtain ⟨V8, hV8⟩ : ∃ V9 : Nat → Int32, V9 = va_up V 8 x8 := ⟨_, rfl⟩
  rw [← hV8] at hR
  rw [herr]
  have hv4 := mq_vn hV8 hv4 (by decide)
  refine W.eq (g2 := F0 m 6 ls [.int (-1)]) rfl ?_
  have hJ : mi_at V8 A ic Ln Dn G := ⟨hv4, hJ.2⟩
  have hv8 : V8 8 = nI (ie_de g 9 n) := by
    have h9 := h89 hok.1
    rw [h88] at h9
    rw [hV8, va_up_self, show x8 = nI (ie_de g (0 + 9) (0 + n) - 0) from Value.int.inj h9, Nat.zero_add, Nat.zero_add, Nat.sub_zero]
  have hVo : ∀ j : Nat, j ≠ 4 → j ≠ 8 → V8 j = V j := fun j _ h2 => by rw [hV8, va_up_ne _ _ h2]
  refine lv_istore_n (lv' := [(2, .int (-1)), (0, .ref mm), (1, .int (nI n))]) hx hb dd_Mo_identify_6 rfl hl (by decide) rfl (fun ls hl => ?_)
  refine lv_iload_n hx hb dd_Mo_identify_7 rfl (lv_at hl 0 rfl) ?_
  refine lv_if_lt (tgt := 15) hx hb dd_Mo_identify_8 (by decide) (fun h8 => ?_) (fun h8 => ?_)
  ·
    refine lv_iconst (v := nI 0) hx hb dd_Mo_identify_15 (by decide) ?_
    refine lv_istore_n (lv' := [(3, .int (nI 0)), (2, .int (-1)), (0, .ref mm), (1, .int (nI n))]) hx hb dd_Mo_identify_16 rfl hl (by decide) rfl (fun ls hl => ?_)
    have loop17 : ∀ (d9 : Nat) (i : Nat) (H : Heap) (locs : List Loc) (ls : Array Slot), i + d9 = ic → (∀ j : Nat, j < i → ¬ id_same n g Ln G j) → mw_at D mg_cl z M1 H → va_S (mw_A z) s.heap H locs → lv_has ls 4 [(3, .int (nI i)), (0, .ref mm), (1, .int (nI n))] → W p l e ({ frames := 4, cells := 0, slots := 0, locals := 89 } : Room) s m ([.ref mm, .int (nI n)] : List Value).toArray below meth c H locs (0) (0) (MQ below (mw_Q D z (fun v M' => ∃ V1 A1, mq_R D M' mm ra V1 A1 S ∧ (∀ j : Nat, j ≠ 4 → j ≠ 8 → V1 j = V j) ∧ (∀ j : Nat, j ≠ 5 → j ≠ 6 → j ≠ 7 → A1 j = A j) ∧ mw_fr (mq_P mm ra) M M' ∧ ((∃ i : Nat, i < ic ∧ id_same n g Ln G i ∧ (∀ j : Nat, j < i → ¬ id_same n g Ln G j) ∧ v = some (.int (nI i)) ∧ mi_at V1 A1 ic Ln Dn G) ∨ ((∀ j : Nat, j < ic → ¬ id_same n g Ln G j) ∧ ic = 12 ∧ v = some (.int (-1003)) ∧ mi_at V1 A1 ic Ln Dn G) ∨ ((∀ j : Nat, j < ic → ¬ id_same n g Ln G j) ∧ ic < 12 ∧ v = some (.int (nI ic)) ∧ mi_at V1 A1 (ic + 1) (fun j => if j = ic then n else Ln j) (fun j => if j = ic then ie_de g 9 n else Dn j) (fun j => if j = ic then g else G j))))) ([.ref mm, .int (nI n)] : List Value).toArray s 0 0 (mw_A z)) (F0 m 17 ls []) := by
      intro d9
      induction d9 with
      | zero =>
        intro i H locs ls hp hu hM hS hl
        refine lv_iload_n hx hb dd_Mo_identify_17 rfl (lv_at hl 0 rfl) ?_
        refine lv_aload_n hx hb dd_Mo_identify_18 rfl (lv_at hl 1 rfl) ?_
        refine gf_Mo_150 E hM hR.m ((mo_at (by decide)).trans (congrArg some (mq_vi rfl hv4))) dd_Mo_identify_19 ?_
        refine lv_icmp_ge (tgt := 42) hx hb dd_Mo_identify_22 (by decide) (fun h22 => ?_) (fun h22 => ?_)
        ·
          rw [nI_leI (by omega) (by omega)] at h22
          refine lv_aload_n hx hb dd_Mo_identify_42 rfl (lv_at hl 1 rfl) ?_
          refine gf_Mo_150 E hM hR.m ((mo_at (by decide)).trans (congrArg some (mq_vi rfl hv4))) dd_Mo_identify_43 ?_
          refine lv_bipush (v := nI 12) hx hb dd_Mo_identify_46 (by decide) ?_
          refine lv_icmp_ne (tgt := 55) hx hb dd_Mo_identify_48 (by decide) (fun h48 => ?_) (fun h48 => ?_)
          ·
            rw [nI_eq (by omega) (by omega)] at h48
            refine lv_iconst (v := nI 0) hx hb dd_Mo_identify_55 (by decide) ?_
            refine lv_istore_n (lv' := [(3, .int (nI 0)), (0, .ref mm), (1, .int (nI n))]) hx hb dd_Mo_identify_56 rfl hl (by decide) rfl (fun ls hl => ?_)
            have hall : ∀ j : Nat, j < ic → ¬ id_same n g Ln G j := fun j h => hu j (by omega)
            have loop57 : ∀ (c9 : Nat) (p0 : Nat) (A1 : Nat → Nat → Int32) (M2 : mw_M) (H : Heap) (locs : List Loc) (ls : Array Slot), p0 + c9 = n → mq_R D M2 mm ra V8 A1 S → (∀ j : Nat, j ≠ 5 → A1 j = A j) → (∀ q : Nat, q < p0 → A1 5 (40 * ic + q) = nI (g q)) → (∀ q : Nat, q < 40 * ic → A1 5 q = A 5 q) → mw_fr (mq_P mm ra) M M2 → mw_at D mg_cl z M2 H → va_S (mw_A z) s.heap H locs → lv_has ls 4 [(3, .int (nI p0)), (0, .ref mm), (1, .int (nI n))] → W p l e ({ frames := 4, cells := 0, slots := 0, locals := 89 } : Room) s m ([.ref mm, .int (nI n)] : List Value).toArray below meth c H locs (0) (0) (MQ below (mw_Q D z (fun v M' => ∃ V1 A1, mq_R D M' mm ra V1 A1 S ∧ (∀ j : Nat, j ≠ 4 → j ≠ 8 → V1 j = V j) ∧ (∀ j : Nat, j ≠ 5 → j ≠ 6 → j ≠ 7 → A1 j = A j) ∧ mw_fr (mq_P mm ra) M M' ∧ ((∃ i : Nat, i < ic ∧ id_same n g Ln G i ∧ (∀ j : Nat, j < i → ¬ id_same n g Ln G j) ∧ v = some (.int (nI i)) ∧ mi_at V1 A1 ic Ln Dn G) ∨ ((∀ j : Nat, j < ic → ¬ id_same n g Ln G j) ∧ ic = 12 ∧ v = some (.int (-1003)) ∧ mi_at V1 A1 ic Ln Dn G) ∨ ((∀ j : Nat, j < ic → ¬ id_same n g Ln G j) ∧ ic < 12 ∧ v = some (.int (nI ic)) ∧ mi_at V1 A1 (ic + 1) (fun j => if j = ic then n else Ln j) (fun j => if j = ic then ie_de g 9 n else Dn j) (fun j => if j = ic then g else G j))))) ([.ref mm, .int (nI n)] : List Value).toArray s 0 0 (mw_A z)) (F0 m 57 ls []) := by
              intro c9
              induction c9 with
              | zero =>
                intro p0 A1 M2 H locs ls hp9 hR hA h5n h5o hF hM hS hl
                refine lv_iload_n hx hb dd_Mo_identify_57 rfl (lv_at hl 0 rfl) ?_
                refine lv_iload_n hx hb dd_Mo_identify_58 rfl (lv_at hl 2 rfl) ?_
                refine lv_icmp_ge (tgt := 88) hx hb dd_Mo_identify_59 (by decide) (fun h59 => ?_) (fun h59 => ?_)
                ·
                  rw [nI_leI (by omega) (by omega)] at h59
                  refine lv_aload_n hx hb dd_Mo_identify_88 rfl (lv_at hl 1 rfl) ?_
                  refine gf_Mo_16 E hM hR.m ((mo_at (by decide)).trans (congrArg some (mq_va rfl))) dd_Mo_identify_89 ?_
                  have w6 : M2 (ra 6) = some (.inl (D.1 100, 12, .inl (A1 6))) := hR.w 6 rfl (by decide)
                  refine lv_aload_n hx hb dd_Mo_identify_92 rfl (lv_at hl 1 rfl) ?_
                  refine gf_Mo_150 E hM hR.m ((mo_at (by decide)).trans (congrArg some (mq_vi rfl hv4))) dd_Mo_identify_93 ?_
                  refine lv_iload_n hx hb dd_Mo_identify_96 rfl (lv_at hl 2 rfl) ?_
                  have w6 : M2 (ra 6) = some (.inl (D.1 100, 12, .inl (A1 6))) := hR.w 6 rfl (by decide)
                  refine mw_iast hx hb E.K hM E.zz hS 0 w6 rfl (vp_in_nI (by omega) (by omega)) dd_Mo_identify_97 (fun H locs hM hS => ?_)
                  rw [nI_clamp (by omega)] at hM
                  have hM : mw_at D mg_cl z (va_up M2 (ra 6) (some (.inl (D.1 100, 12, .inl ((upd (A1 6) ic (nI n))))))) H := hM
                  obtain ⟨M1, hM1⟩ : ∃ M9 : mw_M, M9 = va_up M2 (ra 6) (some (.inl (D.1 100, 12, .inl ((upd (A1 6) ic (nI n)))))) := ⟨_, rfl⟩
                  rw [← hM1] at hM
                  obtain ⟨A21, hA21⟩ : ∃ A9 : Nat → Nat → Int32, A9 = va_up A1 6 (upd (A1 6) ic (nI n)) := ⟨_, rfl⟩
                  have hR := hR.setA 6 rfl (by decide) hM1 hA21
                  have hF := mw_fu hM1 hF (mq_Pa (k := 6) rfl)
                  refine lv_aload_n hx hb dd_Mo_identify_98 rfl (lv_at hl 1 rfl) ?_
                  refine gf_Mo_19 E hM hR.m ((mo_at (by decide)).trans (congrArg some (mq_va rfl))) dd_Mo_identify_99 ?_
                  have w7 : M1 (ra 7) = some (.inl (D.1 100, 12, .inl (A21 7))) := hR.w 7 rfl (by decide)
                  refine lv_aload_n hx hb dd_Mo_identify_102 rfl (lv_at hl 1 rfl) ?_
                  refine gf_Mo_150 E hM hR.m ((mo_at (by decide)).trans (congrArg some (mq_vi rfl hv4))) dd_Mo_identify_103 ?_
                  refine lv_aload_n hx hb dd_Mo_identify_106 rfl (lv_at hl 1 rfl) ?_
                  refine gf_Mo_137 E hM hR.m ((mo_at (by decide)).trans (congrArg some (mq_vi rfl hv8))) dd_Mo_identify_107 ?_
                  have w7 : M1 (ra 7) = some (.inl (D.1 100, 12, .inl (A21 7))) := hR.w 7 rfl (by decide)
                  refine mw_iast hx hb E.K hM E.zz hS 0 w7 rfl (vp_in_nI (by omega) (by omega)) dd_Mo_identify_110 (fun H locs hM hS => ?_)
                  rw [nI_clamp (by omega)] at hM
                  have hM : mw_at D mg_cl z (va_up M1 (ra 7) (some (.inl (D.1 100, 12, .inl ((upd (A21 7) ic (nI (ie_de g 9 n)))))))) H := hM
                  obtain ⟨M1, hM1⟩ : ∃ M9 : mw_M, M9 = va_up M1 (ra 7) (some (.inl (D.1 100, 12, .inl ((upd (A21 7) ic (nI (ie_de g 9 n))))))) := ⟨_, rfl⟩
                  rw [← hM1] at hM
                  obtain ⟨A22, hA22⟩ : ∃ A9 : Nat → Nat → Int32, A9 = va_up A21 7 (upd (A21 7) ic (nI (ie_de g 9 n))) := ⟨_, rfl⟩
                  have hR := hR.setA 7 rfl (by decide) hM1 hA22
                  have hF := mw_fu hM1 hF (mq_Pa (k := 7) rfl)
                  refine lv_aload_n hx hb dd_Mo_identify_111 rfl (lv_at hl 1 rfl) ?_
                  refine lv_dup hx hb dd_Mo_identify_112 rfl ?_
                  refine gf_Mo_150 E hM hR.m ((mo_at (by decide)).trans (congrArg some (mq_vi rfl hv4))) dd_Mo_identify_113 ?_
                  refine lv_iconst (v := nI 1) hx hb dd_Mo_identify_116 (by decide) ?_
                  refine lv_iadd hx hb dd_Mo_identify_117 ?_
                  refine mw_topi (y := nI (ic + 1)) (nI_add _ _) ?_
                  refine pf_Mo_150 E hM hS hR.m (by rw [mo_len]; decide) dd_Mo_identify_118 (fun H locs hM hS => ?_)
                  rw [mo_set (by decide), mq_vu rfl] at hM
                  obtain ⟨V23, hV23⟩ : ∃ V9 : Nat → Int32, V9 = va_up V8 4 (nI (ic + 1)) := ⟨_, rfl⟩
                  rw [← hV23] at hM
                  obtain ⟨M1, hM1⟩ : ∃ M9 : mw_M, M9 = va_up M1 mm (some (.inr (13, mo_l (mq_v ra V23)))) := ⟨_, rfl⟩
                  rw [← hM1] at hM
                  have hR := hR.setV hM1
                  have hF := mw_fu hM1 hF (Or.inl rfl)
                  have hv8 := mq_vn hV23 hv8 (by decide)
                  have hv4 := mq_vs hV23
                  refine lv_aload_n hx hb dd_Mo_identify_121 rfl (lv_at hl 1 rfl) ?_
                  refine gf_Mo_150 E hM hR.m ((mo_at (by decide)).trans (congrArg some (mq_vi rfl hv4))) dd_Mo_identify_122 ?_
                  refine lv_iconst (v := nI 1) hx hb dd_Mo_identify_125 (by decide) ?_
                  refine lv_isub hx hb dd_Mo_identify_126 ?_
                  refine mw_topi (y := nI ((ic + 1) - 1)) (pk_sub (by omega)) ?_
                  refine mr_i E hr hk hM hS (by decide) (by decide) ?_ dd_Mo_identify_127
                  refine ⟨V23, A22, hR, fun j h1 h2 => by rw [hV23, va_up_ne _ _ h1]; exact hVo j h1 h2, fun j h5 h6 h7 => by rw [hA22, va_up_ne _ _ h7, hA21, va_up_ne _ _ h6]; exact hA j h5, hF, Or.inr (Or.inr ⟨hall, by omega, by rw [Nat.add_sub_cancel], ⟨hv4, fun j hj => ?_⟩⟩)⟩
                  have a6 : A22 6 = upd (A 6) ic (nI n) := by rw [hA22, va_up_ne _ _ (by decide), hA21, va_up_self, hA 6 (by decide)]
                  have a7 : A22 7 = upd (A 7) ic (nI (ie_de g 9 n)) := by rw [hA22, va_up_self, hA21, va_up_ne _ _ (by decide), hA 7 (by decide)]
                  have a5 : A22 5 = A1 5 := by rw [hA22, va_up_ne _ _ (by decide), hA21, va_up_ne _ _ (by decide)]
                  rw [a5, a6, a7]
                  show upd (A 6) ic (nI n) j = nI (if j = ic then n else Ln j) ∧ upd (A 7) ic (nI (ie_de g 9 n)) j = nI (if j = ic then ie_de g 9 n else Dn j) ∧ ∀ i : Nat, i < (if j = ic then n else Ln j) → A1 5 (40 * j + i) = nI ((if j = ic then g else G j) i)
                  by_cases e9 : j = ic
                  · rw [if_pos e9, if_pos e9, if_pos e9, e9, up_s, up_s]
                    exact ⟨rfl, rfl, fun i hi => h5n i (by omega)⟩
                  · have hj9 := hJ.2 j (by omega)
                    have ho9 := (hO.2 j (by omega)).2.2.1
                    rw [if_neg e9, if_neg e9, if_neg e9, up_n e9, up_n e9]
                    exact ⟨hj9.1, hj9.2.1, fun i hi => by rw [h5o _ (by omega)]; exact hj9.2.2 i hi⟩
                ·
                  rw [nI_leI (by omega) (by omega)] at h59
                  omega
              | succ c9 ih5 =>
                intro p0 A1 M2 H locs ls hp9 hR hA h5n h5o hF hM hS hl
                refine lv_iload_n hx hb dd_Mo_identify_57 rfl (lv_at hl 0 rfl) ?_
                refine lv_iload_n hx hb dd_Mo_identify_58 rfl (lv_at hl 2 rfl) ?_
                refine lv_icmp_ge (tgt := 88) hx hb dd_Mo_identify_59 (by decide) (fun h59 => ?_) (fun h59 => ?_)
                ·
                  rw [nI_leI (by omega) (by omega)] at h59
                  omega
                ·
                  rw [nI_leI (by omega) (by omega)] at h59
                  refine lv_aload_n hx hb dd_Mo_identify_62 rfl (lv_at hl 1 rfl) ?_
                  refine gf_Mo_13 E hM hR.m ((mo_at (by decide)).trans (congrArg some (mq_va rfl))) dd_Mo_identify_63 ?_
                  have w5 : M2 (ra 5) = some (.inl (D.1 100, 480, .inl (A1 5))) := hR.w 5 rfl (by decide)
                  refine lv_bipush (v := nI 40) hx hb dd_Mo_identify_66 (by decide) ?_
                  refine lv_aload_n hx hb dd_Mo_identify_68 rfl (lv_at hl 1 rfl) ?_
                  refine gf_Mo_150 E hM hR.m ((mo_at (by decide)).trans (congrArg some (mq_vi rfl hv4))) dd_Mo_identify_69 ?_
                  refine lv_imul hx hb dd_Mo_identify_72 ?_
                  refine mw_topi (y := nI (40 * ic)) (pk_mul _ _) ?_
                  refine lv_iload_n hx hb dd_Mo_identify_73 rfl (lv_at hl 0 rfl) ?_
                  refine lv_iadd hx hb dd_Mo_identify_74 ?_
                  refine mw_topi (y := nI ((40 * ic) + p0)) (nI_add _ _) ?_
                  refine lv_aload_n hx hb dd_Mo_identify_75 rfl (lv_at hl 1 rfl) ?_
                  refine gf_Mo_7 E hM hR.m ((mo_at (by decide)).trans (congrArg some (mq_va rfl))) dd_Mo_identify_76 ?_
                  have w2 : M2 (ra 2) = some (.inl (D.1 100, 100, .inl (A1 2))) := hR.w 2 rfl (by decide)
                  refine lv_iload_n hx hb dd_Mo_identify_79 rfl (lv_at hl 0 rfl) ?_
                  refine mw_iald hx hb E.K hM 0 w2 rfl (vp_in_nI (by omega) (by omega)) dd_Mo_identify_80 ?_
                  refine mw_topi (y := (A1 2) p0) (by rw [nI_clamp (by omega)]) ?_
                  refine mw_topi (y := nI (g p0)) (by rw [hA 2 (by decide)]; exact (hbf p0 (by omega)).1) ?_
                  have w5 : M2 (ra 5) = some (.inl (D.1 100, 480, .inl (A1 5))) := hR.w 5 rfl (by decide)
                  refine mw_iast hx hb E.K hM E.zz hS 0 w5 rfl (vp_in_nI (by omega) (by omega)) dd_Mo_identify_81 (fun H locs hM hS => ?_)
                  rw [nI_clamp (by omega)] at hM
                  have hM : mw_at D mg_cl z (va_up M2 (ra 5) (some (.inl (D.1 100, 480, .inl ((upd (A1 5) ((40 * ic) + p0) (nI (g p0)))))))) H := hM
                  obtain ⟨M1, hM1⟩ : ∃ M9 : mw_M, M9 = va_up M2 (ra 5) (some (.inl (D.1 100, 480, .inl ((upd (A1 5) ((40 * ic) + p0) (nI (g p0))))))) := ⟨_, rfl⟩
                  rw [← hM1] at hM
                  obtain ⟨A24, hA24⟩ : ∃ A9 : Nat → Nat → Int32, A9 = va_up A1 5 (upd (A1 5) ((40 * ic) + p0) (nI (g p0))) := ⟨_, rfl⟩
                  have hR := hR.setA 5 rfl (by decide) hM1 hA24
                  have hF := mw_fu hM1 hF (mq_Pa (k := 5) rfl)
                  refine lv_iinc (k := 0) (v := nI (p0 + 1)) (lv' := [(3, .int (nI (p0 + 1))), (0, .ref mm), (1, .int (nI n))]) hx hb dd_Mo_identify_82 hl rfl (nI_1 _) (by decide) rfl (fun ls hl => ?_)
                  refine lv_goto (tgt := 57) hx hb dd_Mo_identify_85 (by decide) ?_
                  refine ih5 (p0 + 1) _ M1 H locs ls (by omega) hR (fun j hj => by rw [hA24, va_up_ne _ _ hj]; exact hA j hj) (fun q hq9 => ?_) (fun q hq9 => ?_) hF hM hS (lv_sub hl [0, 1, 2] rfl)
                  · rw [hA24, va_up_self]
                    by_cases e9 : q = p0
                    · rw [e9, up_s]
                    · rw [up_n (by omega)]
                      exact h5n q (by omega)
                  · rw [hA24, va_up_self, up_n (by omega)]
                    exact h5o q hq9
            exact loop57 n 0 A M1 H locs ls (by omega) hR (fun _ _ => rfl) (fun q h => absurd h (by omega)) (fun _ _ => rfl) hF hM hS (lv_sub hl [0, 1, 2] rfl)
          ·
            rw [nI_eq (by omega) (by omega)] at h48
            refine lv_sipush (v := -1003) hx hb dd_Mo_identify_51 (by decide) ?_
            refine mr_i E hr hk hM hS (by decide) (by decide) ?_ dd_Mo_identify_54
            exact ⟨V8, A, hR, hVo, fun _ _ _ _ => rfl, hF, Or.inr (Or.inl ⟨fun j h => hu j (by omega), h48, rfl, hJ⟩)⟩
        ·
          rw [nI_leI (by omega) (by omega)] at h22
          omega
      | succ d9 ih =>
        intro i H locs ls hp hu hM hS hl
        refine lv_iload_n hx hb dd_Mo_identify_17 rfl (lv_at hl 0 rfl) ?_
        refine lv_aload_n hx hb dd_Mo_identify_18 rfl (lv_at hl 1 rfl) ?_
        refine gf_Mo_150 E hM hR.m ((mo_at (by decide)).trans (congrArg some (mq_vi rfl hv4))) dd_Mo_identify_19 ?_
        refine lv_icmp_ge (tgt := 42) hx hb dd_Mo_identify_22 (by decide) (fun h22 => ?_) (fun h22 => ?_)
        ·
          rw [nI_leI (by omega) (by omega)] at h22
          omega
        ·
          rw [nI_leI (by omega) (by omega)] at h22
          refine lv_aload_n hx hb dd_Mo_identify_25 rfl (lv_at hl 1 rfl) ?_
          refine lv_iload_n hx hb dd_Mo_identify_26 rfl (lv_at hl 0 rfl) ?_
          refine lv_iload_n hx hb dd_Mo_identify_27 rfl (lv_at hl 2 rfl) ?_
          refine mw_V (As := [.int (nI i), .int (nI n)]) (rest := []) E (cc_Mo_isId l D z (M1) mm ra V8 A S ic Ln Dn G i n g hR hJ hO (by omega) hn hbf) ky_Mo_isId kv_Mo_isId tw_Mo_153 hM hS hR.m rfl rfl rfl hl.1 rfl (Nat.le_of_ble_eq_true rfl) dd_Mo_identify_28 (by first | decide | exact ⟨by dsimp only; omega, by dsimp only; omega⟩) (by decide) (fun v M1 H locs hp hM hS => ?_)
          obtain ⟨bb, rfl, hbb, hq⟩ := hp
          have hq := hq.symm
          subst hq
          refine W.eq (g2 := F0 m 31 ls [.int (zI bb)]) rfl ?_
          refine lv_if_eq (tgt := 36) hx hb dd_Mo_identify_31 (by decide) (fun h31 => ?_) (fun h31 => ?_)
          ·
            refine lv_iinc (k := 0) (v := nI (i + 1)) (lv' := [(3, .int (nI (i + 1))), (0, .ref mm), (1, .int (nI n))]) hx hb dd_Mo_identify_36 hl rfl (nI_1 _) (by decide) rfl (fun ls hl => ?_)
            refine lv_goto (tgt := 17) hx hb dd_Mo_identify_39 (by decide) ?_
            exact ih (i + 1) H locs ls (by omega) (fun j h => if e9 : j = i then (by rw [e9]; exact fun q => absurd (hbb.mpr q) (by rw [zI_0.mp h31]; decide)) else hu j (by omega)) hM hS (lv_sub hl [0, 1, 2] rfl)
          ·
            refine lv_iload_n hx hb dd_Mo_identify_34 rfl (lv_at hl 0 rfl) ?_
            refine mr_i E hr hk hM hS (by decide) (by decide) ?_ dd_Mo_identify_35
            exact ⟨V8, A, hR, hVo, fun _ _ _ _ => rfl, hF, Or.inl ⟨i, by omega, hbb.mp (Bool.of_not_eq_false (fun q => h31 (zI_0.mpr q))), hu, rfl, hJ⟩⟩
    exact loop17 ic 0 H locs ls (by omega) (fun q h => absurd h (by omega)) hM hS (lv_sub hl [0, 2, 3] rfl)
  ·
    exact absurd (by decide) h8
theorem cc_Mo_id_e (l : Launch) (D : va_G) (z : Nat) (M : mw_M) (mm : Nat) (ra : Nat → Nat) (V : Nat → Int32) (A : Nat → Nat → Int32) (S : Nat → Int64) (n e0 : Nat) (g : Nat → Nat) (hR : mq_R D M mm ra V A S) (hv3 : V 3 = nI n) (hn : n ≤ 100) (hbf : ∀ q : Nat, q < n → A 2 q = nI (g q) ∧ g q < 256) (herr : ie_err g 0 n = some e0) (he0 : e0 ≤ 100) : mw_C l yy_Mo_id bb_Mo_id 2 (Option.some Jvm.ClassFile.FieldType.int) 5 112 0 0 D z M [.ref mm] (fun v M' => v = some (.int (-1 - nI e0)) ∧ (∃ x, mq_R D M' mm ra (va_up (va_up V 3 (nI 0)) 8 x) A S) ∧ mw_fr (mq_P mm ra) M M') := by
  refine mw_of (by decide) (Nat.le_of_ble_eq_true rfl) ?_
  intro p e s m below meth c ls E hr hk hnm hM hl
  have hx := E.x
  have hb := E.b
  have E : mw_E p m c bb_Mo_id 2 s _ D z "IdentityIssuerModel" := E
  have hl : lv_has ls 2 [(0, .ref mm)] := hl
  have hS : va_S (mw_A z) s.heap s.heap [] := va_S.rf
  have hF : mw_fr (mq_P mm ra) M M := mw_fr.rf
  refine lv_aload_n hx hb dd_Mo_id_0 rfl (lv_at hl 0 rfl) ?_
  refine gf_Mo_122 E hM hR.m ((mo_at (by decide)).trans (congrArg some (mq_vi rfl hv3))) dd_Mo_id_1 ?_
  refine lv_istore_n (lv' := [(1, .int (nI n)), (0, .ref mm)]) hx hb dd_Mo_id_4 rfl hl (by decide) rfl (fun ls hl => ?_)
  refine lv_aload_n hx hb dd_Mo_id_5 rfl (lv_at hl 1 rfl) ?_
  refine lv_iconst (v := nI 0) hx hb dd_Mo_id_6 (by decide) ?_
  refine pf_Mo_122 E hM hS hR.m (by rw [mo_len]; decide) dd_Mo_id_7 (fun H locs hM hS => ?_)
  rw [mo_set (by decide), mq_vu rfl] at hM
  obtain ⟨V21, hV21⟩ : ∃ V9 : Nat → Int32, V9 = va_up V 3 (nI 0) := ⟨_, rfl⟩
  rw [← hV21] at hM
  obtain ⟨M1, hM1⟩ : ∃ M9 : mw_M, M9 = va_up M mm (some (.inr (13, mo_l (mq_v ra V21)))) := ⟨_, rfl⟩
  rw [← hM1] at hM
  have hR := hR.setV hM1
  have hF := mw_fu hM1 hF (Or.inl rfl)
  have hv3 := mq_vs hV21
  refine lv_aload_n hx hb dd_Mo_id_10 rfl (lv_at hl 1 rfl) ?_
  refine lv_iload_n hx hb dd_Mo_id_11 rfl (lv_at hl 0 rfl) ?_
  refine mw_V (As := [.int (nI n)]) (rest := []) E (cc_Mo_identify_e l D z (M1) mm ra V21 A S n e0 g hR hn hbf herr he0) ky_Mo_identify kv_Mo_identify tw_Mo_157 hM hS hR.m rfl rfl rfl hl.1 rfl (Nat.le_of_ble_eq_true rfl) dd_Mo_id_12 (by first | decide | exact ⟨by dsimp only; omega, by dsimp only; omega⟩) (by decide) (fun v M1 H locs hp hM hS => ?_)
  obtain ⟨rfl, hR2, hF2⟩ := hp
  rw [hV21] at hR2
  have hF := hF.trans hF2
  refine W.eq (g2 := F0 m 15 ls [.int (-1 - nI e0)]) rfl ?_
  refine mr_i E hr hk hM hS (by decide) (by decide) ?_ dd_Mo_id_15
  exact ⟨rfl, hR2, hF⟩
theorem cc_Mo_id (l : Launch) (D : va_G) (z : Nat) (M : mw_M) (mm : Nat) (ra : Nat → Nat) (V : Nat → Int32) (A : Nat → Nat → Int32) (S : Nat → Int64) (ic : Nat) (Ln Dn : Nat → Nat) (G : Nat → Nat → Nat) (n : Nat) (g : Nat → Nat) (hR : mq_R D M mm ra V A S) (hJ : mi_at V A ic Ln Dn G) (hO : id_ok ic Ln Dn G) (hv3 : V 3 = nI n) (hn : n ≤ 100) (hbf : ∀ q : Nat, q < n → A 2 q = nI (g q) ∧ g q < 256) (herr : ie_err g 0 n = none) : mw_C l yy_Mo_id bb_Mo_id 2 (Option.some Jvm.ClassFile.FieldType.int) 5 112 0 0 D z M [.ref mm] (fun v M' => ∃ V1 A1, mq_R D M' mm ra V1 A1 S ∧ (∀ j : Nat, j ≠ 3 → j ≠ 4 → j ≠ 8 → V1 j = V j) ∧ V1 3 = nI 0 ∧ (∀ j : Nat, j ≠ 5 → j ≠ 6 → j ≠ 7 → A1 j = A j) ∧ mw_fr (mq_P mm ra) M M' ∧ ((∃ i : Nat, i < ic ∧ id_same n g Ln G i ∧ (∀ j : Nat, j < i → ¬ id_same n g Ln G j) ∧ v = some (.int (nI i)) ∧ mi_at V1 A1 ic Ln Dn G) ∨ ((∀ j : Nat, j < ic → ¬ id_same n g Ln G j) ∧ ic = 12 ∧ v = some (.int (-1003)) ∧ mi_at V1 A1 ic Ln Dn G) ∨ ((∀ j : Nat, j < ic → ¬ id_same n g Ln G j) ∧ ic < 12 ∧ v = some (.int (nI ic)) ∧ mi_at V1 A1 (ic + 1) (fun j => if j = ic then n else Ln j) (fun j => if j = ic then ie_de g 9 n else Dn j) (fun j => if j = ic then g else G j)))) := by
  refine mw_of (by decide) (Nat.le_of_ble_eq_true rfl) ?_
  intro p e s m below meth c ls E hr hk hnm hM hl
  have hx := E.x
  have hb := E.b
  have E : mw_E p m c bb_Mo_id 2 s _ D z "IdentityIssuerModel" := E
  have hl : lv_has ls 2 [(0, .ref mm)] := hl
  have hS : va_S (mw_A z) s.heap s.heap [] := va_S.rf
  have hF : mw_fr (mq_P mm ra) M M := mw_fr.rf
  refine lv_aload_n hx hb dd_Mo_id_0 rfl (lv_at hl 0 rfl) ?_
  refine gf_Mo_122 E hM hR.m ((mo_at (by decide)).trans (congrArg some (mq_vi rfl hv3))) dd_Mo_id_1 ?_
  refine lv_istore_n (lv' := [(1, .int (nI n)), (0, .ref mm)]) hx hb dd_Mo_id_4 rfl hl (by decide) rfl (fun ls hl => ?_)
  refine lv_aload_n hx hb dd_Mo_id_5 rfl (lv_at hl 1 rfl) ?_
  refine lv_iconst (v := nI 0) hx hb dd_Mo_id_6 (by decide) ?_
  refine pf_Mo_122 E hM hS hR.m (by rw [mo_len]; decide) dd_Mo_id_7 (fun H locs hM hS => ?_)
  rw [mo_set (by decide), mq_vu rfl] at hM
  obtain ⟨V21, hV21⟩ : ∃ V9 : Nat → Int32, V9 = va_up V 3 (nI 0) := ⟨_, rfl⟩
  rw [← hV21] at hM
  obtain ⟨M1, hM1⟩ : ∃ M9 : mw_M, M9 = va_up M mm (some (.inr (13, mo_l (mq_v ra V21)))) := ⟨_, rfl⟩
  rw [← hM1] at hM
  have hR := hR.setV hM1
  have hF := mw_fu hM1 hF (Or.inl rfl)
  have hv3 := mq_vs hV21
  refine lv_aload_n hx hb dd_Mo_id_10 rfl (lv_at hl 1 rfl) ?_
  refine lv_iload_n hx hb dd_Mo_id_11 rfl (lv_at hl 0 rfl) ?_
  refine mw_V (As := [.int (nI n)]) (rest := []) E (cc_Mo_identify l D z (M1) mm ra V21 A S ic Ln Dn G n g hR ⟨by rw [hV21, va_up_ne _ _ (by decide)]; exact hJ.1, hJ.2⟩ hO hn hbf herr) ky_Mo_identify kv_Mo_identify tw_Mo_157 hM hS hR.m rfl rfl rfl hl.1 rfl (Nat.le_of_ble_eq_true rfl) dd_Mo_id_12 (by first | decide | exact ⟨by dsimp only; omega, by dsimp only; omega⟩) (by decide) (fun v M1 H locs hp hM hS => ?_)
  obtain ⟨V9, A9, hR2, hVo, hAo, hF2, hc⟩ := hp
  have hF := hF.trans hF2
  have hVp : ∀ j : Nat, j ≠ 3 → j ≠ 4 → j ≠ 8 → V9 j = V j := fun j h3 h4 h8 => by rw [hVo j h4 h8, hV21, va_up_ne _ _ h3]
  have hV3 : V9 3 = nI 0 := by rw [hVo 3 (by decide) (by decide)]; exact hv3
  rcases hc with ⟨i0, h1, h2, h3, rfl, h4⟩ | ⟨h1, h2, rfl, h4⟩ | ⟨h1, h2, rfl, h4⟩
  ·
    refine W.eq (g2 := F0 m 15 ls [.int (nI i0)]) rfl ?_
    refine mr_i E hr hk hM hS (by decide) (by decide) ?_ dd_Mo_id_15
    exact ⟨V9, A9, hR2, hVp, hV3, hAo, hF, Or.inl ⟨i0, h1, h2, h3, rfl, h4⟩⟩
  ·
    refine W.eq (g2 := F0 m 15 ls [.int (-1003)]) rfl ?_
    refine mr_i E hr hk hM hS (by decide) (by decide) ?_ dd_Mo_id_15
    exact ⟨V9, A9, hR2, hVp, hV3, hAo, hF, Or.inr (Or.inl ⟨h1, h2, rfl, h4⟩)⟩
  ·
    refine W.eq (g2 := F0 m 15 ls [.int (nI ic)]) rfl ?_
    refine mr_i E hr hk hM hS (by decide) (by decide) ?_ dd_Mo_id_15
    exact ⟨V9, A9, hR2, hVp, hV3, hAo, hF, Or.inr (Or.inr ⟨h1, h2, rfl, h4⟩)⟩
