/-! the reference: writing -/
def mo_ob (V : Nat → Int32) (A : Nat → Nat → Int32) (V1 : Nat → Int32) (A1 : Nat → Nat → Int32) (L : List Nat) : Prop := (∀ j : Nat, j ≠ 48 → V1 j = V j) ∧ (∀ k : Nat, k ≠ 49 → A1 k = A k) ∧ V1 48 = nI L.length ∧ by_l (A1 49) L ∧ L.length ≤ 100
theorem tw_Mo_266 : ((Jvm.Cond.constant "IdentityIssuerModel" (266 : Nat) (32768 : Int32)) : Cond) ∈ lw_gt := lw_in 1287 (by decide +kernel) (by decide +kernel)
theorem tw_Mo_267 : ((Jvm.Cond.constant "IdentityIssuerModel" (267 : Nat) (8388608 : Int32)) : Cond) ∈ lw_gt := lw_in 1288 (by decide +kernel) (by decide +kernel)
theorem cc_Mo_out (l : Launch) (D : va_G) (z : Nat) (M : mw_M) (mm : Nat) (ra : Nat → Nat) (V V1 : Nat → Int32) (A A1 : Nat → Nat → Int32) (S : Nat → Int64) (L : List Nat) (c0 : Nat) (hR : mq_R D M mm ra V1 A1 S) (hob : mo_ob V A V1 A1 L) (hln : L.length < 100) : mw_C l yy_Mo_out bb_Mo_out 2 (Option.none : Option Jvm.ClassFile.FieldType) 0 0 0 0 D z M [.ref mm, .int (nI c0)] (fun v M' => v = none ∧ (∃ V2 A2, mq_R D M' mm ra V2 A2 S ∧ mo_ob V A V2 A2 (L ++ [c0])) ∧ mw_fr (mq_P mm ra) M M') := by
  refine mw_of (by decide) (Nat.le_of_ble_eq_true rfl) ?_
  intro p e s m below meth c ls E hr hk hnm hM hl
  have hx := E.x
  have hb := E.b
  have E : mw_E p m c bb_Mo_out 2 s _ D z "IdentityIssuerModel" := E
  have hl : lv_has ls 2 [(0, .ref mm), (1, .int (nI c0))] := hl
  have hS : va_S (mw_A z) s.heap s.heap [] := va_S.rf
  have hF : mw_fr (mq_P mm ra) M M := mw_fr.rf
  obtain ⟨b1, b2, hv48, b4, b5⟩ := hob
  refine lv_aload_n hx hb dd_Mo_out_0 rfl (lv_at hl 0 rfl) ?_
  refine gf_Mo_105 E hM hR.m ((mo_at (by decide)).trans (congrArg some (mq_va rfl))) dd_Mo_out_1 ?_
  have w49 : M (ra 49) = some (.inl (D.1 100, 100, .inl (A1 49))) := hR.w 49 rfl (by decide)
  refine lv_aload_n hx hb dd_Mo_out_4 rfl (lv_at hl 0 rfl) ?_
  refine gf_Mo_263 E hM hR.m ((mo_at (by decide)).trans (congrArg some (mq_vi rfl hv48))) dd_Mo_out_5 ?_
  refine lv_iload_n hx hb dd_Mo_out_8 rfl (lv_at hl 1 rfl) ?_
  have w49 : M (ra 49) = some (.inl (D.1 100, 100, .inl (A1 49))) := hR.w 49 rfl (by decide)
  refine mw_iast hx hb E.K hM E.zz hS 0 w49 rfl (vp_in_nI (by omega) (by omega)) dd_Mo_out_9 (fun H locs hM hS => ?_)
  rw [nI_clamp (by omega)] at hM
  have hM : mw_at D mg_cl z (va_up M (ra 49) (some (.inl (D.1 100, 100, .inl ((upd (A1 49) L.length (nI c0))))))) H := hM
  obtain ⟨M1, hM1⟩ : ∃ M9 : mw_M, M9 = va_up M (ra 49) (some (.inl (D.1 100, 100, .inl ((upd (A1 49) L.length (nI c0)))))) := ⟨_, rfl⟩
  rw [← hM1] at hM
  obtain ⟨A21, hA21⟩ : ∃ A9 : Nat → Nat → Int32, A9 = va_up A1 49 (upd (A1 49) L.length (nI c0)) := ⟨_, rfl⟩
  have hR := hR.setA 49 rfl (by decide) hM1 hA21
  have hF := mw_fu hM1 hF (mq_Pa (k := 49) rfl)
  refine lv_aload_n hx hb dd_Mo_out_10 rfl (lv_at hl 0 rfl) ?_
  refine lv_dup hx hb dd_Mo_out_11 rfl ?_
  refine gf_Mo_263 E hM hR.m ((mo_at (by decide)).trans (congrArg some (mq_vi rfl hv48))) dd_Mo_out_12 ?_
  refine lv_iconst (v := nI 1) hx hb dd_Mo_out_15 (by decide) ?_
  refine lv_iadd hx hb dd_Mo_out_16 ?_
  refine mw_topi (y := nI (L.length + 1)) (nI_add _ _) ?_
  refine pf_Mo_263 E hM hS hR.m (by rw [mo_len]; decide) dd_Mo_out_17 (fun H locs hM hS => ?_)
  rw [mo_set (by decide), mq_vu rfl] at hM
  obtain ⟨V22, hV22⟩ : ∃ V9 : Nat → Int32, V9 = va_up V1 48 (nI (L.length + 1)) := ⟨_, rfl⟩
  rw [← hV22] at hM
  obtain ⟨M1, hM1⟩ : ∃ M9 : mw_M, M9 = va_up M1 mm (some (.inr (13, mo_l (mq_v ra V22)))) := ⟨_, rfl⟩
  rw [← hM1] at hM
  have hR := hR.setV hM1
  have hF := mw_fu hM1 hF (Or.inl rfl)
  have hv48 := mq_vs hV22
  refine mr_v E hr hk hM hS (by decide) (by decide) ?_ dd_Mo_out_20
  exact ⟨rfl, ⟨V22, A21, hR, fun j hj => by rw [hV22, va_up_ne _ _ hj]; exact b1 j hj, fun k hk9 => by rw [hA21, va_up_ne _ _ hk9]; exact b2 k hk9, by rw [List.length_append]; exact hv48, by rw [hA21, va_up_self]; exact by_snoc b4 c0, by rw [List.length_append, List.length_singleton]; omega⟩, hF⟩
theorem cc_Mo_outNumber (l : Launch) (D : va_G) (z : Nat) (M : mw_M) (mm : Nat) (ra : Nat → Nat) (V V1 : Nat → Int32) (A A1 : Nat → Nat → Int32) (S : Nat → Int64) (L : List Nat) (v0 : Nat) (hR : mq_R D M mm ra V1 A1 S) (hob : mo_ob V A V1 A1 L) (hl94 : L.length ≤ 94) (hv0 : v0 < 2 ^ 31) : mw_C l yy_Mo_outNumber bb_Mo_outNumber 4 (Option.none : Option Jvm.ClassFile.FieldType) 1 21 0 0 D z M [.ref mm, .int (nI v0)] (fun v M' => v = none ∧ (∃ V2 A2, mq_R D M' mm ra V2 A2 S ∧ mo_ob V A V2 A2 (L ++ nm_l v0)) ∧ mw_fr (mq_P mm ra) M M') := by
  refine mw_of (by decide) (Nat.le_of_ble_eq_true rfl) ?_
  intro p e s m below meth c ls E hr hk hnm hM hl
  have hx := E.x
  have hb := E.b
  have E : mw_E p m c bb_Mo_outNumber 4 s _ D z "IdentityIssuerModel" := E
  have hl : lv_has ls 4 [(0, .ref mm), (1, .int (nI v0))] := hl
  have hS : va_S (mw_A z) s.heap s.heap [] := va_S.rf
  have hF : mw_fr (mq_P mm ra) M M := mw_fr.rf
  have hsl := nm_s_le v0
  have join35 : ∀ (hT9 : True) (H : Heap) (locs : List Loc) (ls : Array Slot), True → mw_at D mg_cl z M H → va_S (mw_A z) s.heap H locs → lv_has ls 4 [(2, .int (nI (nm_s v0))), (0, .ref mm), (1, .int (nI v0))] → W p l e ({ frames := 1, cells := 0, slots := 0, locals := 21 } : Room) s m ([.ref mm, .int (nI v0)] : List Value).toArray below meth c H locs (0) (0) (MQ below (mw_Q D z (fun v M' => v = none ∧ (∃ V2 A2, mq_R D M' mm ra V2 A2 S ∧ mo_ob V A V2 A2 (L ++ nm_l v0)) ∧ mw_fr (mq_P mm ra) M M')) ([.ref mm, .int (nI v0)] : List Value).toArray s 0 0 (mw_A z)) (F0 m 35 ls []) := by
    intro hT9 H locs ls hT hM hS hl
    refine lv_aload_n hx hb dd_Mo_outNumber_35 rfl (lv_at hl 1 rfl) ?_
    refine lv_iconst (v := nI 2) hx hb dd_Mo_outNumber_36 (by decide) ?_
    refine mw_V (As := [.int (nI 2)]) (rest := []) E (cc_Mo_out l D z (M) mm ra V V1 A A1 S L (2) hR hob (by omega)) ky_Mo_out kv_Mo_out tw_Mo_268 hM hS hR.m rfl rfl rfl hl.1 rfl (Nat.le_of_ble_eq_true rfl) dd_Mo_outNumber_37 (by first | decide | exact ⟨by dsimp only; omega, by dsimp only; omega⟩) (by decide) (fun v M1 H locs hp hM hS => ?_)
    obtain ⟨rfl, ⟨V21, A21, hR, hob⟩, hF2⟩ := hp
    have hF := hF.trans hF2
    obtain ⟨K1, hK1⟩ : ∃ L9 : List Nat, L9 = L ++ [2] := ⟨_, rfl⟩
    have hnK1 : K1.length = L.length + 1 := by rw [hK1]; rw [List.length_append]; rfl
    rw [← hK1] at hob
    refine W.eq (g2 := F0 m 40 ls []) rfl ?_
    refine lv_aload_n hx hb dd_Mo_outNumber_40 rfl (lv_at hl 1 rfl) ?_
    refine lv_iload_n hx hb dd_Mo_outNumber_41 rfl (lv_at hl 0 rfl) ?_
    refine mw_V (As := [.int (nI (nm_s v0))]) (rest := []) E (cc_Mo_out l D z (M1) mm ra V V21 A A21 S K1 (nm_s v0) hR hob (by omega)) ky_Mo_out kv_Mo_out tw_Mo_268 hM hS hR.m rfl rfl rfl hl.1 rfl (Nat.le_of_ble_eq_true rfl) dd_Mo_outNumber_42 (by first | decide | exact ⟨by dsimp only; omega, by dsimp only; omega⟩) (by decide) (fun v M1 H locs hp hM hS => ?_)
    obtain ⟨rfl, ⟨V22, A22, hR, hob⟩, hF2⟩ := hp
    have hF := hF.trans hF2
    obtain ⟨K2, hK2⟩ : ∃ L9 : List Nat, L9 = K1 ++ [nm_s v0] := ⟨_, rfl⟩
    have hnK2 : K2.length = K1.length + 1 := by rw [hK2]; rw [List.length_append]; rfl
    rw [← hK2] at hob
    refine W.eq (g2 := F0 m 45 ls []) rfl ?_
    refine lv_iload_n hx hb dd_Mo_outNumber_45 rfl (lv_at hl 0 rfl) ?_
    refine lv_iconst (v := nI 1) hx hb dd_Mo_outNumber_46 (by decide) ?_
    refine lv_isub hx hb dd_Mo_outNumber_47 ?_
    refine mw_topi (y := nI ((nm_s v0) - 1)) (pk_sub (by omega)) ?_
    refine lv_istore_n (lv' := [(3, .int (nI ((nm_s v0) - 1))), (2, .int (nI (nm_s v0))), (0, .ref mm), (1, .int (nI v0))]) hx hb dd_Mo_outNumber_48 rfl hl (by decide) rfl (fun ls hl => ?_)
    have hK0 : K2 ++ nm_b v0 (nm_s v0) = L ++ nm_l v0 := by rw [hK2, hK1, List.append_assoc, List.append_assoc]; rfl
    have loop49 : ∀ (d9 : Nat) (L1 : List Nat) (V3 : Nat → Int32) (A3 : Nat → Nat → Int32) (M3 : mw_M) (H : Heap) (locs : List Loc) (ls : Array Slot), d9 ≤ 4 → L1 ++ nm_b v0 d9 = L ++ nm_l v0 → L1.length + d9 ≤ 100 → mq_R D M3 mm ra V3 A3 S → mo_ob V A V3 A3 L1 → mw_fr (mq_P mm ra) M M3 → mw_at D mg_cl z M3 H → va_S (mw_A z) s.heap H locs → lv_has ls 4 [(3, .int (nI d9 - nI 1)), (0, .ref mm), (1, .int (nI v0))] → W p l e ({ frames := 1, cells := 0, slots := 0, locals := 21 } : Room) s m ([.ref mm, .int (nI v0)] : List Value).toArray below meth c H locs (0) (0) (MQ below (mw_Q D z (fun v M' => v = none ∧ (∃ V2 A2, mq_R D M' mm ra V2 A2 S ∧ mo_ob V A V2 A2 (L ++ nm_l v0)) ∧ mw_fr (mq_P mm ra) M M')) ([.ref mm, .int (nI v0)] : List Value).toArray s 0 0 (mw_A z)) (F0 m 49 ls []) := by
      intro d9
      induction d9 with
      | zero =>
        intro L1 V3 A3 M3 H locs ls hd9 hLL hl1 hR hob hF hM hS hl
        have hl : lv_has ls 4 [(3, .int (nI 0 - nI 1)), (0, .ref mm), (1, .int (nI v0))] := hl
        refine lv_iload_n hx hb dd_Mo_outNumber_49 rfl (lv_at hl 0 rfl) ?_
        refine lv_if_lt (tgt := 73) hx hb dd_Mo_outNumber_50 (by decide) (fun h50 => ?_) (fun h50 => ?_)
        ·
          refine mr_v E hr hk hM hS (by decide) (by decide) ?_ dd_Mo_outNumber_73
          rw [show L1 = L ++ nm_l v0 by rw [← hLL]; exact (List.append_nil _).symm] at hob
          exact ⟨rfl, ⟨V3, A3, hR, hob⟩, hF⟩
        ·
          exact absurd h50 (by decide)
      | succ d9 ih =>
        intro L1 V3 A3 M3 H locs ls hd9 hLL hl1 hR hob hF hM hS hl
        rw [pt_pred] at hl
        refine lv_iload_n hx hb dd_Mo_outNumber_49 rfl (lv_at hl 0 rfl) ?_
        refine lv_if_lt (tgt := 73) hx hb dd_Mo_outNumber_50 (by decide) (fun h50 => ?_) (fun h50 => ?_)
        ·
          exact absurd h50 (nI_pos (by omega))
        ·
          refine lv_aload_n hx hb dd_Mo_outNumber_53 rfl (lv_at hl 1 rfl) ?_
          refine lv_iload_n hx hb dd_Mo_outNumber_54 rfl (lv_at hl 2 rfl) ?_
          refine lv_bipush (v := nI 8) hx hb dd_Mo_outNumber_55 (by decide) ?_
          refine lv_iload_n hx hb dd_Mo_outNumber_57 rfl (lv_at hl 0 rfl) ?_
          refine lv_imul hx hb dd_Mo_outNumber_58 ?_
          refine mw_topi (y := nI (8 * d9)) (pk_mul _ _) ?_
          refine lv_ishr hx hb dd_Mo_outNumber_59 ?_
          refine mw_topi (y := nI (v0 / 2 ^ (8 * d9))) (pk_shrN hv0 _ (8 * d9) (pt_ss d9 (by omega))) ?_
          refine lv_sipush (v := nI 255) hx hb dd_Mo_outNumber_60 (by decide) ?_
          refine lv_iand hx hb dd_Mo_outNumber_63 ?_
          refine mw_topi (y := nI (v0 / 2 ^ (8 * d9) % 256)) (pk_andN (by have := Nat.div_le_self v0 (2 ^ (8 * d9)); omega) 8 (by decide)) ?_
          refine mw_V (As := [.int (nI (v0 / 2 ^ (8 * d9) % 256))]) (rest := []) E (cc_Mo_out l D z (M3) mm ra V V3 A A3 S L1 (v0 / 2 ^ (8 * d9) % 256) hR hob (by omega)) ky_Mo_out kv_Mo_out tw_Mo_268 hM hS hR.m rfl rfl rfl hl.1 rfl (Nat.le_of_ble_eq_true rfl) dd_Mo_outNumber_64 (by first | decide | exact ⟨by dsimp only; omega, by dsimp only; omega⟩) (by decide) (fun v M1 H locs hp hM hS => ?_)
          obtain ⟨rfl, ⟨V23, A23, hR, hob⟩, hF2⟩ := hp
          have hF := hF.trans hF2
          obtain ⟨K3, hK3⟩ : ∃ L9 : List Nat, L9 = L1 ++ [v0 / 2 ^ (8 * d9) % 256] := ⟨_, rfl⟩
          have hnK3 : K3.length = L1.length + 1 := by rw [hK3]; rw [List.length_append]; rfl
          rw [← hK3] at hob
          refine W.eq (g2 := F0 m 67 ls []) rfl ?_
          refine lv_iinc (k := 0) (v := nI d9 - nI 1) (lv' := [(3, .int (nI d9 - nI 1)), (0, .ref mm), (1, .int (nI v0))]) hx hb dd_Mo_outNumber_67 hl rfl (pt_dec d9) (by decide) rfl (fun ls hl => ?_)
          refine lv_goto (tgt := 49) hx hb dd_Mo_outNumber_70 (by decide) ?_
          exact ih _ _ _ M1 H locs ls (by omega) (by rw [hK3, List.append_assoc]; exact hLL) (by omega) hR hob hF hM hS (lv_sub hl [0, 1, 2] rfl)
    exact loop49 (nm_s v0) K2 _ _ M1 H locs ls (by omega) hK0 (by omega) hR hob hF hM hS (by rw [pk_sub (by omega)]; exact (lv_sub hl [0, 2, 3] rfl))
  refine lv_iload_n hx hb dd_Mo_outNumber_0 rfl (lv_at hl 1 rfl) ?_
  refine lv_sipush (v := nI 128) hx hb dd_Mo_outNumber_1 (by decide) ?_
  refine lv_icmp_ge (tgt := 11) hx hb dd_Mo_outNumber_4 (by decide) (fun h4 => ?_) (fun h4 => ?_)
  ·
    rw [nI_leI (by omega) (by omega)] at h4
    refine lv_iload_n hx hb dd_Mo_outNumber_11 rfl (lv_at hl 1 rfl) ?_
    refine lv_ldcw (v := 32768) hx hb E.o (E.t _ tw_Mo_266) dd_Mo_outNumber_12 ?_
    refine mw_topi (y := nI 32768) (by decide) ?_
    refine lv_icmp_ge (tgt := 22) hx hb dd_Mo_outNumber_15 (by decide) (fun h15 => ?_) (fun h15 => ?_)
    ·
      rw [nI_leI (by omega) (by omega)] at h15
      refine lv_iload_n hx hb dd_Mo_outNumber_22 rfl (lv_at hl 1 rfl) ?_
      refine lv_ldcw (v := 8388608) hx hb E.o (E.t _ tw_Mo_267) dd_Mo_outNumber_23 ?_
      refine mw_topi (y := nI 8388608) (by decide) ?_
      refine lv_icmp_ge (tgt := 33) hx hb dd_Mo_outNumber_26 (by decide) (fun h26 => ?_) (fun h26 => ?_)
      ·
        rw [nI_leI (by omega) (by omega)] at h26
        refine lv_iconst (v := nI 4) hx hb dd_Mo_outNumber_33 (by decide) ?_
        refine lv_istore_n (lv' := [(2, .int (nI 4)), (0, .ref mm), (1, .int (nI v0))]) hx hb dd_Mo_outNumber_34 rfl hl (by decide) rfl (fun ls hl => ?_)
        exact join35 trivial s.heap [] ls trivial hM hS (by rw [show nm_s v0 = 4 by unfold nm_s; rw [if_neg (by omega), if_neg (by omega), if_neg (by omega)]]; exact (lv_sub hl [0, 1, 2] rfl))
      ·
        rw [nI_leI (by omega) (by omega)] at h26
        refine lv_iconst (v := nI 3) hx hb dd_Mo_outNumber_29 (by decide) ?_
        refine lv_goto (tgt := 34) hx hb dd_Mo_outNumber_30 (by decide) ?_
        refine lv_istore_n (lv' := [(2, .int (nI 3)), (0, .ref mm), (1, .int (nI v0))]) hx hb dd_Mo_outNumber_34 rfl hl (by decide) rfl (fun ls hl => ?_)
        exact join35 trivial s.heap [] ls trivial hM hS (by rw [show nm_s v0 = 3 by unfold nm_s; rw [if_neg (by omega), if_neg (by omega), if_pos (by omega)]]; exact (lv_sub hl [0, 1, 2] rfl))
    ·
      rw [nI_leI (by omega) (by omega)] at h15
      refine lv_iconst (v := nI 2) hx hb dd_Mo_outNumber_18 (by decide) ?_
      refine lv_goto (tgt := 34) hx hb dd_Mo_outNumber_19 (by decide) ?_
      refine lv_istore_n (lv' := [(2, .int (nI 2)), (0, .ref mm), (1, .int (nI v0))]) hx hb dd_Mo_outNumber_34 rfl hl (by decide) rfl (fun ls hl => ?_)
      exact join35 trivial s.heap [] ls trivial hM hS (by rw [show nm_s v0 = 2 by unfold nm_s; rw [if_neg (by omega), if_pos (by omega)]]; exact (lv_sub hl [0, 1, 2] rfl))
  ·
    rw [nI_leI (by omega) (by omega)] at h4
    refine lv_iconst (v := nI 1) hx hb dd_Mo_outNumber_7 (by decide) ?_
    refine lv_goto (tgt := 34) hx hb dd_Mo_outNumber_8 (by decide) ?_
    refine lv_istore_n (lv' := [(2, .int (nI 1)), (0, .ref mm), (1, .int (nI v0))]) hx hb dd_Mo_outNumber_34 rfl hl (by decide) rfl (fun ls hl => ?_)
    exact join35 trivial s.heap [] ls trivial hM hS (by rw [show nm_s v0 = 1 by unfold nm_s; rw [if_pos (by omega)]]; exact (lv_sub hl [0, 1, 2] rfl))
