/-! the reference: entries, reach -/
def mq_EF (A : Nat → Nat → Int32) (e j : Nat) : Int32 := if j = 0 then nI e else if j = 1 then A 17 e else if j = 2 then A 18 e else if j = 3 then A 19 e else if j = 4 then A 20 e else A 21 e
def mq_th (A : Nat → Nat → Int32) (e : Nat) : Bool := !decide (A 16 e = 0)
def mq_es (A : Nat → Nat → Int32) (n : Nat) : List Nat := (List.range n).filter (mq_th A)
def mq_lk (A : Nat → Nat → Int32) (clk : Int32) (a e : Nat) : Bool := decide (A 26 (60 * a + e) = 0) || decide (A 28 (60 * a + e) + A 29 (60 * a + e) ≤ nI 2 * clk)
def mq_f (A : Nat → Nat → Int32) (sel : Int32) (w : Int32) (e : Nat) : Bool := ru_f1 (mq_EF A) sel e || ru_f2 (mq_EF A) w e
theorem mq_f1q (A : Nat → Nat → Int32) (sel : Int32) (e : Nat) : ru_f1 (mq_EF A) sel e = decide (A 18 e = 0 ∧ A 19 e &&& (sel ^^^ -1) = 0) := rfl
theorem mq_f2q (A : Nat → Nat → Int32) (w : Int32) (e : Nat) : ru_f2 (mq_EF A) w e = decide ((w >>> (A 18 e &&& 31)) &&& nI 1 = nI 1) := rfl
theorem mq_es_y {A : Nat → Nat → Int32} {e : Nat} (h : mq_th A e = true) : mq_es A (e + 1) = mq_es A e ++ [e] := by
  unfold mq_es
  rw [List.range_succ, List.filter_append, List.filter_cons_of_pos h]
  rfl
theorem mq_es_n {A : Nat → Nat → Int32} {e : Nat} (h : mq_th A e = false) : mq_es A (e + 1) = mq_es A e := by
  unfold mq_es
  rw [List.range_succ, List.filter_append, List.filter_cons_of_neg (by rw [h]; decide)]
  exact List.append_nil _
theorem mq_thT {A : Nat → Nat → Int32} {e : Nat} (h : ¬ A 16 e = 0) : mq_th A e = true := by unfold mq_th; rw [decide_eq_false h]; rfl
theorem mq_thF {A : Nat → Nat → Int32} {e : Nat} (h : A 16 e = 0) : mq_th A e = false := by unfold mq_th; rw [decide_eq_true h]; rfl
theorem mr_y {A : Nat → Nat → Int32} {f : Int32 → Nat → Bool} {e : Nat} {u w0 : Int32} (hu : u = ru_ps (ru_b (mq_EF A)) f (mq_es A e) w0) (ht : mq_th A e = true) (hf : f u e = true) : u ||| (nI 1 <<< (A 17 e &&& 31)) = ru_ps (ru_b (mq_EF A)) f (mq_es A (e + 1)) w0 := by
  rw [mq_es_y ht]
  unfold ru_ps at hu ⊢
  rw [List.foldl_append, ← hu]
  show _ = ru_st (ru_b (mq_EF A)) f u e
  unfold ru_st
  rw [if_pos hf]
  rfl
theorem mr_n1 {A : Nat → Nat → Int32} {f : Int32 → Nat → Bool} {e : Nat} {u w0 : Int32} (hu : u = ru_ps (ru_b (mq_EF A)) f (mq_es A e) w0) (ht : mq_th A e = false) : u = ru_ps (ru_b (mq_EF A)) f (mq_es A (e + 1)) w0 := by
  rw [mq_es_n ht]
  exact hu
theorem mr_n2 {A : Nat → Nat → Int32} {f : Int32 → Nat → Bool} {e : Nat} {u w0 : Int32} (hu : u = ru_ps (ru_b (mq_EF A)) f (mq_es A e) w0) (ht : mq_th A e = true) (hf : f u e = false) : u = ru_ps (ru_b (mq_EF A)) f (mq_es A (e + 1)) w0 := by
  rw [mq_es_y ht]
  unfold ru_ps at hu ⊢
  rw [List.foldl_append, ← hu]
  show _ = ru_st (ru_b (mq_EF A)) f u e
  unfold ru_st
  rw [if_neg (by rw [hf]; decide)]
theorem cc_Mo_entitled (l : Launch) (D : va_G) (z : Nat) (M : mw_M) (mm : Nat) (ra : Nat → Nat) (V : Nat → Int32) (A : Nat → Nat → Int32) (S : Nat → Int64) (u : Int32) (e0 : Nat) (hR : mq_R D M mm ra V A S) (he0 : e0 < 60) : mw_C l yy_Mo_entitled bb_Mo_entitled 3 (Option.some Jvm.ClassFile.FieldType.boolean) 0 0 0 0 D z M [.ref mm, .int (u), .int (nI e0)] (fun v M' => v = some (.int (zI (mq_th A e0 && ru_f2 (mq_EF A) u e0))) ∧ M' = M) := by
  refine mw_of (by decide) (Nat.le_of_ble_eq_true rfl) ?_
  intro p e s m below meth c ls E hr hk hnm hM hl
  have hx := E.x
  have hb := E.b
  have E : mw_E p m c bb_Mo_entitled 3 s _ D z "IdentityIssuerModel" := E
  have hl : lv_has ls 3 [(0, .ref mm), (1, .int (u)), (2, .int (nI e0))] := hl
  have hS : va_S (mw_A z) s.heap s.heap [] := va_S.rf
  refine lv_aload_n hx hb dd_Mo_entitled_0 rfl (lv_at hl 0 rfl) ?_
  refine gf_Mo_29 E hM hR.m ((mo_at (by decide)).trans (congrArg some (mq_va rfl))) dd_Mo_entitled_1 ?_
  have w16 : M (ra 16) = some (.inl (D.1 102, 60, .inl (A 16))) := hR.w 16 rfl (by decide)
  refine lv_iload_n hx hb dd_Mo_entitled_4 rfl (lv_at hl 2 rfl) ?_
  refine mw_zald hx hb E.K hM 2 w16 rfl (vp_in_nI (by omega) (by omega)) dd_Mo_entitled_5 ?_
  refine mw_topi (y := (A 16) e0) (by rw [nI_clamp (by omega)]) ?_
  refine lv_if_eq (tgt := 27) hx hb dd_Mo_entitled_6 (by decide) (fun h6 => ?_) (fun h6 => ?_)
  ·
    refine lv_iconst (v := nI 0) hx hb dd_Mo_entitled_27 (by decide) ?_
    refine mr_z E hr hk hM hS (by decide) (by decide) (rfl) ?_ dd_Mo_entitled_28
    exact ⟨by rw [mq_thF h6]; rfl, rfl⟩
  ·
    refine lv_iload_n hx hb dd_Mo_entitled_9 rfl (lv_at hl 1 rfl) ?_
    refine lv_aload_n hx hb dd_Mo_entitled_10 rfl (lv_at hl 0 rfl) ?_
    refine gf_Mo_36 E hM hR.m ((mo_at (by decide)).trans (congrArg some (mq_va rfl))) dd_Mo_entitled_11 ?_
    have w18 : M (ra 18) = some (.inl (D.1 100, 60, .inl (A 18))) := hR.w 18 rfl (by decide)
    refine lv_iload_n hx hb dd_Mo_entitled_14 rfl (lv_at hl 2 rfl) ?_
    refine mw_iald hx hb E.K hM 0 w18 rfl (vp_in_nI (by omega) (by omega)) dd_Mo_entitled_15 ?_
    refine mw_topi (y := (A 18) e0) (by rw [nI_clamp (by omega)]) ?_
    refine lv_ishr hx hb dd_Mo_entitled_16 ?_
    refine lv_iconst (v := nI 1) hx hb dd_Mo_entitled_17 (by decide) ?_
    refine lv_iand hx hb dd_Mo_entitled_18 ?_
    refine lv_iconst (v := nI 1) hx hb dd_Mo_entitled_19 (by decide) ?_
    refine lv_icmp_ne (tgt := 27) hx hb dd_Mo_entitled_20 (by decide) (fun h20 => ?_) (fun h20 => ?_)
    ·
      refine lv_iconst (v := nI 0) hx hb dd_Mo_entitled_27 (by decide) ?_
      refine mr_z E hr hk hM hS (by decide) (by decide) (rfl) ?_ dd_Mo_entitled_28
      exact ⟨by rw [mq_f2q, decide_eq_false h20, Bool.and_false]; rfl, rfl⟩
    ·
      refine lv_iconst (v := nI 1) hx hb dd_Mo_entitled_23 (by decide) ?_
      refine lv_goto (tgt := 28) hx hb dd_Mo_entitled_24 (by decide) ?_
      refine mr_z E hr hk hM hS (by decide) (by decide) (rfl) ?_ dd_Mo_entitled_28
      exact ⟨by rw [mq_thT h6, mq_f2q, decide_eq_true h20]; rfl, rfl⟩
theorem cc_Mo_lacks (l : Launch) (D : va_G) (z : Nat) (M : mw_M) (mm : Nat) (ra : Nat → Nat) (V : Nat → Int32) (A : Nat → Nat → Int32) (S : Nat → Int64) (a e0 : Nat) (hR : mq_R D M mm ra V A S) (ha0 : a < 3) (he0 : e0 < 60) : mw_C l yy_Mo_lacks bb_Mo_lacks 3 (Option.some Jvm.ClassFile.FieldType.boolean) 0 0 0 0 D z M [.ref mm, .int (nI a), .int (nI e0)] (fun v M' => v = some (.int (zI (mq_lk A (V 1) a e0))) ∧ M' = M) := by
  refine mw_of (by decide) (Nat.le_of_ble_eq_true rfl) ?_
  intro p e s m below meth c ls E hr hk hnm hM hl
  have hx := E.x
  have hb := E.b
  have E : mw_E p m c bb_Mo_lacks 3 s _ D z "IdentityIssuerModel" := E
  have hl : lv_has ls 3 [(0, .ref mm), (1, .int (nI a)), (2, .int (nI e0))] := hl
  have hS : va_S (mw_A z) s.heap s.heap [] := va_S.rf
  refine lv_aload_n hx hb dd_Mo_lacks_0 rfl (lv_at hl 0 rfl) ?_
  refine gf_Mo_54 E hM hR.m ((mo_at (by decide)).trans (congrArg some (mq_va rfl))) dd_Mo_lacks_1 ?_
  have w26 : M (ra 26) = some (.inl (D.1 100, 180, .inl (A 26))) := hR.w 26 rfl (by decide)
  refine lv_bipush (v := nI 60) hx hb dd_Mo_lacks_4 (by decide) ?_
  refine lv_iload_n hx hb dd_Mo_lacks_6 rfl (lv_at hl 1 rfl) ?_
  refine lv_imul hx hb dd_Mo_lacks_7 ?_
  refine mw_topi (y := nI (60 * a)) (pk_mul _ _) ?_
  refine lv_iload_n hx hb dd_Mo_lacks_8 rfl (lv_at hl 2 rfl) ?_
  refine lv_iadd hx hb dd_Mo_lacks_9 ?_
  refine mw_topi (y := nI ((60 * a) + e0)) (nI_add _ _) ?_
  refine mw_iald hx hb E.K hM 0 w26 rfl (vp_in_nI (by omega) (by omega)) dd_Mo_lacks_10 ?_
  refine mw_topi (y := (A 26) ((60 * a) + e0)) (by rw [nI_clamp (by omega)]) ?_
  refine lv_if_eq (tgt := 46) hx hb dd_Mo_lacks_11 (by decide) (fun h11 => ?_) (fun h11 => ?_)
  ·
    refine lv_iconst (v := nI 1) hx hb dd_Mo_lacks_46 (by decide) ?_
    refine lv_goto (tgt := 51) hx hb dd_Mo_lacks_47 (by decide) ?_
    refine mr_z E hr hk hM hS (by decide) (by decide) (rfl) ?_ dd_Mo_lacks_51
    exact ⟨by rw [show mq_lk A (V 1) a e0 = true by unfold mq_lk; rw [decide_eq_true h11]; rfl]; rfl, rfl⟩
  ·
    refine lv_iconst (v := nI 2) hx hb dd_Mo_lacks_14 (by decide) ?_
    refine lv_aload_n hx hb dd_Mo_lacks_15 rfl (lv_at hl 0 rfl) ?_
    refine gf_Mo_180 E hM hR.m ((mo_at (by decide)).trans (congrArg some (mq_vi rfl rfl))) dd_Mo_lacks_16 ?_
    refine lv_imul hx hb dd_Mo_lacks_19 ?_
    refine lv_aload_n hx hb dd_Mo_lacks_20 rfl (lv_at hl 0 rfl) ?_
    refine gf_Mo_60 E hM hR.m ((mo_at (by decide)).trans (congrArg some (mq_va rfl))) dd_Mo_lacks_21 ?_
    have w28 : M (ra 28) = some (.inl (D.1 100, 180, .inl (A 28))) := hR.w 28 rfl (by decide)
    refine lv_bipush (v := nI 60) hx hb dd_Mo_lacks_24 (by decide) ?_
    refine lv_iload_n hx hb dd_Mo_lacks_26 rfl (lv_at hl 1 rfl) ?_
    refine lv_imul hx hb dd_Mo_lacks_27 ?_
    refine mw_topi (y := nI (60 * a)) (pk_mul _ _) ?_
    refine lv_iload_n hx hb dd_Mo_lacks_28 rfl (lv_at hl 2 rfl) ?_
    refine lv_iadd hx hb dd_Mo_lacks_29 ?_
    refine mw_topi (y := nI ((60 * a) + e0)) (nI_add _ _) ?_
    refine mw_iald hx hb E.K hM 0 w28 rfl (vp_in_nI (by omega) (by omega)) dd_Mo_lacks_30 ?_
    refine mw_topi (y := (A 28) ((60 * a) + e0)) (by rw [nI_clamp (by omega)]) ?_
    refine lv_aload_n hx hb dd_Mo_lacks_31 rfl (lv_at hl 0 rfl) ?_
    refine gf_Mo_63 E hM hR.m ((mo_at (by decide)).trans (congrArg some (mq_va rfl))) dd_Mo_lacks_32 ?_
    have w29 : M (ra 29) = some (.inl (D.1 100, 180, .inl (A 29))) := hR.w 29 rfl (by decide)
    refine lv_bipush (v := nI 60) hx hb dd_Mo_lacks_35 (by decide) ?_
    refine lv_iload_n hx hb dd_Mo_lacks_37 rfl (lv_at hl 1 rfl) ?_
    refine lv_imul hx hb dd_Mo_lacks_38 ?_
    refine mw_topi (y := nI (60 * a)) (pk_mul _ _) ?_
    refine lv_iload_n hx hb dd_Mo_lacks_39 rfl (lv_at hl 2 rfl) ?_
    refine lv_iadd hx hb dd_Mo_lacks_40 ?_
    refine mw_topi (y := nI ((60 * a) + e0)) (nI_add _ _) ?_
    refine mw_iald hx hb E.K hM 0 w29 rfl (vp_in_nI (by omega) (by omega)) dd_Mo_lacks_41 ?_
    refine mw_topi (y := (A 29) ((60 * a) + e0)) (by rw [nI_clamp (by omega)]) ?_
    refine lv_iadd hx hb dd_Mo_lacks_42 ?_
    refine lv_icmp_lt (tgt := 50) hx hb dd_Mo_lacks_43 (by decide) (fun h43 => ?_) (fun h43 => ?_)
    ·
      refine lv_iconst (v := nI 0) hx hb dd_Mo_lacks_50 (by decide) ?_
      refine mr_z E hr hk hM hS (by decide) (by decide) (rfl) ?_ dd_Mo_lacks_51
      exact ⟨by rw [show mq_lk A (V 1) a e0 = false by unfold mq_lk; rw [decide_eq_false h11, decide_eq_false (fun q => Int32.not_le.mpr h43 q)]; rfl]; rfl, rfl⟩
    ·
      refine lv_iconst (v := nI 1) hx hb dd_Mo_lacks_46 (by decide) ?_
      refine lv_goto (tgt := 51) hx hb dd_Mo_lacks_47 (by decide) ?_
      refine mr_z E hr hk hM hS (by decide) (by decide) (rfl) ?_ dd_Mo_lacks_51
      exact ⟨by rw [show mq_lk A (V 1) a e0 = true by unfold mq_lk; rw [decide_eq_true (Int32.not_lt.mp h43), Bool.or_true]]; rfl, rfl⟩
theorem cc_Mo_reach (l : Launch) (D : va_G) (z : Nat) (M : mw_M) (mm : Nat) (ra : Nat → Nat) (V : Nat → Int32) (A : Nat → Nat → Int32) (S : Nat → Int64) (a mk : Nat) (hR : mq_R D M mm ra V A S) (ha0 : a < 3) (hv15 : V 15 = nI mk) (hmk : mk ≤ 60) : mw_C l yy_Mo_reach bb_Mo_reach 7 (Option.some Jvm.ClassFile.FieldType.int) 0 0 0 0 D z M [.ref mm, .int (nI a)] (fun v M' => v = some (.int (ru_set (mq_EF A) (mq_es A mk) (A 24 a) (A 25 a))) ∧ M' = M) := by
  refine mw_of (by decide) (Nat.le_of_ble_eq_true rfl) ?_
  intro p e s m below meth c ls E hr hk hnm hM hl
  have hx := E.x
  have hb := E.b
  have E : mw_E p m c bb_Mo_reach 7 s _ D z "IdentityIssuerModel" := E
  have hl : lv_has ls 7 [(0, .ref mm), (1, .int (nI a))] := hl
  have hS : va_S (mw_A z) s.heap s.heap [] := va_S.rf
  refine lv_iconst (v := nI 1) hx hb dd_Mo_reach_0 (by decide) ?_
  refine lv_aload_n hx hb dd_Mo_reach_1 rfl (lv_at hl 0 rfl) ?_
  refine gf_Mo_48 E hM hR.m ((mo_at (by decide)).trans (congrArg some (mq_va rfl))) dd_Mo_reach_2 ?_
  have w24 : M (ra 24) = some (.inl (D.1 100, 3, .inl (A 24))) := hR.w 24 rfl (by decide)
  refine lv_iload_n hx hb dd_Mo_reach_5 rfl (lv_at hl 1 rfl) ?_
  refine mw_iald hx hb E.K hM 0 w24 rfl (vp_in_nI (by omega) (by omega)) dd_Mo_reach_6 ?_
  refine mw_topi (y := (A 24) a) (by rw [nI_clamp (by omega)]) ?_
  refine lv_ishl hx hb dd_Mo_reach_7 ?_
  refine lv_istore_n (lv' := [(2, .int ((nI 1) <<< (((A 24) a) &&& 31))), (0, .ref mm), (1, .int (nI a))]) hx hb dd_Mo_reach_8 rfl hl (by decide) rfl (fun ls hl => ?_)
  refine lv_iconst (v := nI 0) hx hb dd_Mo_reach_9 (by decide) ?_
  refine lv_istore_n (lv' := [(3, .int (nI 0)), (2, .int ((nI 1) <<< (((A 24) a) &&& 31))), (0, .ref mm), (1, .int (nI a))]) hx hb dd_Mo_reach_10 rfl hl (by decide) rfl (fun ls hl => ?_)
  have loop11 : ∀ (d9 : Nat) (r0 : Nat) (u : Int32) (H : Heap) (locs : List Loc) (ls : Array Slot), r0 + d9 = 13 → u = ru_it (ru_b (mq_EF A)) (mq_f A (A 25 a)) (mq_es A mk) r0 (nI 1 <<< (A 24 a &&& 31)) → mw_at D mg_cl z M H → va_S (mw_A z) s.heap H locs → lv_has ls 7 [(2, .int (u)), (3, .int (nI r0)), (0, .ref mm), (1, .int (nI a))] → W p l e ({ frames := 0, cells := 0, slots := 0, locals := 0 } : Room) s m ([.ref mm, .int (nI a)] : List Value).toArray below meth c H locs (0) (0) (MQ below (mw_Q D z (fun v M' => v = some (.int (ru_set (mq_EF A) (mq_es A mk) (A 24 a) (A 25 a))) ∧ M' = M)) ([.ref mm, .int (nI a)] : List Value).toArray s 0 0 (mw_A z)) (F0 m 11 ls []) := by
    intro d9
    induction d9 with
    | zero =>
      intro r0 u H locs ls hi hu hM hS hl
      refine lv_iload_n hx hb dd_Mo_reach_11 rfl (lv_at hl 1 rfl) ?_
      refine lv_bipush (v := nI 12) hx hb dd_Mo_reach_12 (by decide) ?_
      refine lv_icmp_gt (tgt := 135) hx hb dd_Mo_reach_14 (by decide) (fun h14 => ?_) (fun h14 => ?_)
      ·
        rw [nI_ltI (by omega) (by omega)] at h14
        refine lv_iload_n hx hb dd_Mo_reach_135 rfl (lv_at hl 0 rfl) ?_
        refine mr_i E hr hk hM hS (by decide) (by decide) ?_ dd_Mo_reach_136
        exact ⟨by rw [hu, show r0 = 13 by omega]; rfl, rfl⟩
      ·
        rw [nI_ltI (by omega) (by omega)] at h14
        omega
    | succ d9 ih =>
      intro r0 u H locs ls hi hu hM hS hl
      refine lv_iload_n hx hb dd_Mo_reach_11 rfl (lv_at hl 1 rfl) ?_
      refine lv_bipush (v := nI 12) hx hb dd_Mo_reach_12 (by decide) ?_
      refine lv_icmp_gt (tgt := 135) hx hb dd_Mo_reach_14 (by decide) (fun h14 => ?_) (fun h14 => ?_)
      ·
        rw [nI_ltI (by omega) (by omega)] at h14
        omega
      ·
        rw [nI_ltI (by omega) (by omega)] at h14
        refine lv_iconst (v := nI 0) hx hb dd_Mo_reach_17 (by decide) ?_
        refine lv_istore (lv' := [(4, .int (nI 0)), (2, .int (u)), (3, .int (nI r0)), (0, .ref mm), (1, .int (nI a))]) hx hb dd_Mo_reach_18 hl (by decide) rfl (fun ls hl => ?_)
        have loop20 : ∀ (c9 : Nat) (e0 : Nat) (u2 : Int32) (H : Heap) (locs : List Loc) (ls : Array Slot), e0 + c9 = mk → u2 = ru_ps (ru_b (mq_EF A)) (mq_f A (A 25 a)) (mq_es A e0) u → mw_at D mg_cl z M H → va_S (mw_A z) s.heap H locs → lv_has ls 7 [(2, .int (u2)), (4, .int (nI e0)), (3, .int (nI r0)), (0, .ref mm), (1, .int (nI a))] → W p l e ({ frames := 0, cells := 0, slots := 0, locals := 0 } : Room) s m ([.ref mm, .int (nI a)] : List Value).toArray below meth c H locs (0) (0) (MQ below (mw_Q D z (fun v M' => v = some (.int (ru_set (mq_EF A) (mq_es A mk) (A 24 a) (A 25 a))) ∧ M' = M)) ([.ref mm, .int (nI a)] : List Value).toArray s 0 0 (mw_A z)) (F0 m 20 ls []) := by
          intro c9
          induction c9 with
          | zero =>
            intro e0 u2 H locs ls hj hu2 hM hS hl
            refine lv_iload hx hb dd_Mo_reach_20 (lv_at hl 1 rfl) ?_
            refine lv_aload_n hx hb dd_Mo_reach_22 rfl (lv_at hl 3 rfl) ?_
            refine gf_Mo_167 E hM hR.m ((mo_at (by decide)).trans (congrArg some (mq_vi rfl hv15))) dd_Mo_reach_23 ?_
            refine lv_icmp_ge (tgt := 129) hx hb dd_Mo_reach_26 (by decide) (fun h26 => ?_) (fun h26 => ?_)
            ·
              rw [nI_leI (by omega) (by omega)] at h26
              refine lv_iinc (k := 2) (v := nI (r0 + 1)) (lv' := [(3, .int (nI (r0 + 1))), (2, .int (u2)), (4, .int (nI e0)), (0, .ref mm), (1, .int (nI a))]) hx hb dd_Mo_reach_129 hl rfl (nI_1 _) (by decide) rfl (fun ls hl => ?_)
              refine lv_goto (tgt := 11) hx hb dd_Mo_reach_132 (by decide) ?_
              exact ih (r0 + 1) _ H locs ls (by omega) (by rw [hu2, hu, show e0 = mk by omega]; rfl) hM hS (lv_sub hl [1, 0, 3, 4] rfl)
            ·
              rw [nI_leI (by omega) (by omega)] at h26
              omega
          | succ c9 ih2 =>
            intro e0 u2 H locs ls hj hu2 hM hS hl
            refine lv_iload hx hb dd_Mo_reach_20 (lv_at hl 1 rfl) ?_
            refine lv_aload_n hx hb dd_Mo_reach_22 rfl (lv_at hl 3 rfl) ?_
            refine gf_Mo_167 E hM hR.m ((mo_at (by decide)).trans (congrArg some (mq_vi rfl hv15))) dd_Mo_reach_23 ?_
            refine lv_icmp_ge (tgt := 129) hx hb dd_Mo_reach_26 (by decide) (fun h26 => ?_) (fun h26 => ?_)
            ·
              rw [nI_leI (by omega) (by omega)] at h26
              omega
            ·
              rw [nI_leI (by omega) (by omega)] at h26
              refine lv_aload_n hx hb dd_Mo_reach_29 rfl (lv_at hl 3 rfl) ?_
              refine gf_Mo_36 E hM hR.m ((mo_at (by decide)).trans (congrArg some (mq_va rfl))) dd_Mo_reach_30 ?_
              have w18 : M (ra 18) = some (.inl (D.1 100, 60, .inl (A 18))) := hR.w 18 rfl (by decide)
              refine lv_iload hx hb dd_Mo_reach_33 (lv_at hl 1 rfl) ?_
              refine mw_iald hx hb E.K hM 0 w18 rfl (vp_in_nI (by omega) (by omega)) dd_Mo_reach_35 ?_
              refine mw_topi (y := (A 18) e0) (by rw [nI_clamp (by omega)]) ?_
              refine lv_if_ne (tgt := 62) hx hb dd_Mo_reach_36 (by decide) (fun h36 => ?_) (fun h36 => ?_)
              ·
                refine lv_iconst (v := nI 0) hx hb dd_Mo_reach_62 (by decide) ?_
                refine lv_istore (lv' := [(5, .int (nI 0)), (2, .int (u2)), (4, .int (nI e0)), (3, .int (nI r0)), (0, .ref mm), (1, .int (nI a))]) hx hb dd_Mo_reach_63 hl (by decide) rfl (fun ls hl => ?_)
                refine lv_aload_n hx hb dd_Mo_reach_65 rfl (lv_at hl 4 rfl) ?_
                refine gf_Mo_29 E hM hR.m ((mo_at (by decide)).trans (congrArg some (mq_va rfl))) dd_Mo_reach_66 ?_
                have w16 : M (ra 16) = some (.inl (D.1 102, 60, .inl (A 16))) := hR.w 16 rfl (by decide)
                refine lv_iload hx hb dd_Mo_reach_69 (lv_at hl 2 rfl) ?_
                refine mw_zald hx hb E.K hM 2 w16 rfl (vp_in_nI (by omega) (by omega)) dd_Mo_reach_71 ?_
                refine mw_topi (y := (A 16) e0) (by rw [nI_clamp (by omega)]) ?_
                refine lv_if_eq (tgt := 99) hx hb dd_Mo_reach_72 (by decide) (fun h72 => ?_) (fun h72 => ?_)
                ·
                  refine lv_iconst (v := nI 0) hx hb dd_Mo_reach_99 (by decide) ?_
                  refine lv_istore (lv' := [(6, .int (nI 0)), (5, .int (nI 0)), (2, .int (u2)), (4, .int (nI e0)), (3, .int (nI r0)), (0, .ref mm), (1, .int (nI a))]) hx hb dd_Mo_reach_100 hl (by decide) rfl (fun ls hl => ?_)
                  refine lv_iload hx hb dd_Mo_reach_102 (lv_at hl 0 rfl) ?_
                  refine lv_if_eq (tgt := 121) hx hb dd_Mo_reach_104 (by decide) (fun h104 => ?_) (fun h104 => ?_)
                  ·
                    refine lv_iload_n hx hb dd_Mo_reach_121 rfl (lv_at hl 2 rfl) ?_
                    refine lv_istore_n (lv' := [(2, .int (u2)), (6, .int (nI 0)), (5, .int (nI 0)), (4, .int (nI e0)), (3, .int (nI r0)), (0, .ref mm), (1, .int (nI a))]) hx hb dd_Mo_reach_122 rfl hl (by decide) rfl (fun ls hl => ?_)
                    refine lv_iinc (k := 3) (v := nI (e0 + 1)) (lv' := [(4, .int (nI (e0 + 1))), (2, .int (u2)), (6, .int (nI 0)), (5, .int (nI 0)), (3, .int (nI r0)), (0, .ref mm), (1, .int (nI a))]) hx hb dd_Mo_reach_123 hl rfl (nI_1 _) (by decide) rfl (fun ls hl => ?_)
                    refine lv_goto (tgt := 20) hx hb dd_Mo_reach_126 (by decide) ?_
                    exact ih2 (e0 + 1) _ H locs ls (by omega) (mr_n1 hu2 (mq_thF h72)) hM hS (lv_sub hl [1, 0, 4, 5, 6] rfl)
                  ·
                    exact absurd rfl h104
                ·
                  refine lv_iload hx hb dd_Mo_reach_75 (lv_at hl 0 rfl) ?_
                  refine lv_if_ne (tgt := 95) hx hb dd_Mo_reach_77 (by decide) (fun h77 => ?_) (fun h77 => ?_)
                  ·
                    exact absurd rfl h77
                  ·
                    refine lv_iload_n hx hb dd_Mo_reach_80 rfl (lv_at hl 1 rfl) ?_
                    refine lv_aload_n hx hb dd_Mo_reach_81 rfl (lv_at hl 4 rfl) ?_
                    refine gf_Mo_36 E hM hR.m ((mo_at (by decide)).trans (congrArg some (mq_va rfl))) dd_Mo_reach_82 ?_
                    have w18 : M (ra 18) = some (.inl (D.1 100, 60, .inl (A 18))) := hR.w 18 rfl (by decide)
                    refine lv_iload hx hb dd_Mo_reach_85 (lv_at hl 2 rfl) ?_
                    refine mw_iald hx hb E.K hM 0 w18 rfl (vp_in_nI (by omega) (by omega)) dd_Mo_reach_87 ?_
                    refine mw_topi (y := (A 18) e0) (by rw [nI_clamp (by omega)]) ?_
                    refine lv_ishr hx hb dd_Mo_reach_88 ?_
                    refine lv_iconst (v := nI 1) hx hb dd_Mo_reach_89 (by decide) ?_
                    refine lv_iand hx hb dd_Mo_reach_90 ?_
                    refine lv_iconst (v := nI 1) hx hb dd_Mo_reach_91 (by decide) ?_
                    refine lv_icmp_ne (tgt := 99) hx hb dd_Mo_reach_92 (by decide) (fun h92 => ?_) (fun h92 => ?_)
                    ·
                      refine lv_iconst (v := nI 0) hx hb dd_Mo_reach_99 (by decide) ?_
                      refine lv_istore (lv' := [(6, .int (nI 0)), (5, .int (nI 0)), (2, .int (u2)), (4, .int (nI e0)), (3, .int (nI r0)), (0, .ref mm), (1, .int (nI a))]) hx hb dd_Mo_reach_100 hl (by decide) rfl (fun ls hl => ?_)
                      refine lv_iload hx hb dd_Mo_reach_102 (lv_at hl 0 rfl) ?_
                      refine lv_if_eq (tgt := 121) hx hb dd_Mo_reach_104 (by decide) (fun h104 => ?_) (fun h104 => ?_)
                      ·
                        refine lv_iload_n hx hb dd_Mo_reach_121 rfl (lv_at hl 2 rfl) ?_
                        refine lv_istore_n (lv' := [(2, .int (u2)), (6, .int (nI 0)), (5, .int (nI 0)), (4, .int (nI e0)), (3, .int (nI r0)), (0, .ref mm), (1, .int (nI a))]) hx hb dd_Mo_reach_122 rfl hl (by decide) rfl (fun ls hl => ?_)
                        refine lv_iinc (k := 3) (v := nI (e0 + 1)) (lv' := [(4, .int (nI (e0 + 1))), (2, .int (u2)), (6, .int (nI 0)), (5, .int (nI 0)), (3, .int (nI r0)), (0, .ref mm), (1, .int (nI a))]) hx hb dd_Mo_reach_123 hl rfl (nI_1 _) (by decide) rfl (fun ls hl => ?_)
                        refine lv_goto (tgt := 20) hx hb dd_Mo_reach_126 (by decide) ?_
                        exact ih2 (e0 + 1) _ H locs ls (by omega) (mr_n2 hu2 (mq_thT h72) (by unfold mq_f; rw [mq_f1q, mq_f2q, decide_eq_false (fun q => h36 q.1), decide_eq_false h92]; rfl)) hM hS (lv_sub hl [1, 0, 4, 5, 6] rfl)
                      ·
                        exact absurd rfl h104
                    ·
                      refine lv_iconst (v := nI 1) hx hb dd_Mo_reach_95 (by decide) ?_
                      refine lv_goto (tgt := 100) hx hb dd_Mo_reach_96 (by decide) ?_
                      refine lv_istore (lv' := [(6, .int (nI 1)), (5, .int (nI 0)), (2, .int (u2)), (4, .int (nI e0)), (3, .int (nI r0)), (0, .ref mm), (1, .int (nI a))]) hx hb dd_Mo_reach_100 hl (by decide) rfl (fun ls hl => ?_)
                      refine lv_iload hx hb dd_Mo_reach_102 (lv_at hl 0 rfl) ?_
                      refine lv_if_eq (tgt := 121) hx hb dd_Mo_reach_104 (by decide) (fun h104 => ?_) (fun h104 => ?_)
                      ·
                        exact absurd h104 (by decide)
                      ·
                        refine lv_iload_n hx hb dd_Mo_reach_107 rfl (lv_at hl 2 rfl) ?_
                        refine lv_iconst (v := nI 1) hx hb dd_Mo_reach_108 (by decide) ?_
                        refine lv_aload_n hx hb dd_Mo_reach_109 rfl (lv_at hl 5 rfl) ?_
                        refine gf_Mo_33 E hM hR.m ((mo_at (by decide)).trans (congrArg some (mq_va rfl))) dd_Mo_reach_110 ?_
                        have w17 : M (ra 17) = some (.inl (D.1 100, 60, .inl (A 17))) := hR.w 17 rfl (by decide)
                        refine lv_iload hx hb dd_Mo_reach_113 (lv_at hl 3 rfl) ?_
                        refine mw_iald hx hb E.K hM 0 w17 rfl (vp_in_nI (by omega) (by omega)) dd_Mo_reach_115 ?_
                        refine mw_topi (y := (A 17) e0) (by rw [nI_clamp (by omega)]) ?_
                        refine lv_ishl hx hb dd_Mo_reach_116 ?_
                        refine lv_ior hx hb dd_Mo_reach_117 ?_
                        refine lv_goto (tgt := 122) hx hb dd_Mo_reach_118 (by decide) ?_
                        refine lv_istore_n (lv' := [(2, .int (u2 ||| ((nI 1) <<< (((A 17) e0) &&& 31)))), (6, .int (nI 1)), (5, .int (nI 0)), (4, .int (nI e0)), (3, .int (nI r0)), (0, .ref mm), (1, .int (nI a))]) hx hb dd_Mo_reach_122 rfl hl (by decide) rfl (fun ls hl => ?_)
                        refine lv_iinc (k := 3) (v := nI (e0 + 1)) (lv' := [(4, .int (nI (e0 + 1))), (2, .int (u2 ||| ((nI 1) <<< (((A 17) e0) &&& 31)))), (6, .int (nI 1)), (5, .int (nI 0)), (3, .int (nI r0)), (0, .ref mm), (1, .int (nI a))]) hx hb dd_Mo_reach_123 hl rfl (nI_1 _) (by decide) rfl (fun ls hl => ?_)
                        refine lv_goto (tgt := 20) hx hb dd_Mo_reach_126 (by decide) ?_
                        exact ih2 (e0 + 1) _ H locs ls (by omega) (mr_y hu2 (mq_thT h72) (by unfold mq_f; rw [mq_f2q, decide_eq_true h92, Bool.or_true])) hM hS (lv_sub hl [1, 0, 4, 5, 6] rfl)
              ·
                refine lv_aload_n hx hb dd_Mo_reach_39 rfl (lv_at hl 3 rfl) ?_
                refine gf_Mo_39 E hM hR.m ((mo_at (by decide)).trans (congrArg some (mq_va rfl))) dd_Mo_reach_40 ?_
                have w19 : M (ra 19) = some (.inl (D.1 100, 60, .inl (A 19))) := hR.w 19 rfl (by decide)
                refine lv_iload hx hb dd_Mo_reach_43 (lv_at hl 1 rfl) ?_
                refine mw_iald hx hb E.K hM 0 w19 rfl (vp_in_nI (by omega) (by omega)) dd_Mo_reach_45 ?_
                refine mw_topi (y := (A 19) e0) (by rw [nI_clamp (by omega)]) ?_
                refine lv_aload_n hx hb dd_Mo_reach_46 rfl (lv_at hl 3 rfl) ?_
                refine gf_Mo_51 E hM hR.m ((mo_at (by decide)).trans (congrArg some (mq_va rfl))) dd_Mo_reach_47 ?_
                have w25 : M (ra 25) = some (.inl (D.1 100, 3, .inl (A 25))) := hR.w 25 rfl (by decide)
                refine lv_iload_n hx hb dd_Mo_reach_50 rfl (lv_at hl 4 rfl) ?_
                refine mw_iald hx hb E.K hM 0 w25 rfl (vp_in_nI (by omega) (by omega)) dd_Mo_reach_51 ?_
                refine mw_topi (y := (A 25) a) (by rw [nI_clamp (by omega)]) ?_
                refine lv_iconst (v := -1) hx hb dd_Mo_reach_52 (by decide) ?_
                refine lv_ixor hx hb dd_Mo_reach_53 ?_
                refine lv_iand hx hb dd_Mo_reach_54 ?_
                refine lv_if_ne (tgt := 62) hx hb dd_Mo_reach_55 (by decide) (fun h55 => ?_) (fun h55 => ?_)
                ·
                  refine lv_iconst (v := nI 0) hx hb dd_Mo_reach_62 (by decide) ?_
                  refine lv_istore (lv' := [(5, .int (nI 0)), (2, .int (u2)), (4, .int (nI e0)), (3, .int (nI r0)), (0, .ref mm), (1, .int (nI a))]) hx hb dd_Mo_reach_63 hl (by decide) rfl (fun ls hl => ?_)
                  refine lv_aload_n hx hb dd_Mo_reach_65 rfl (lv_at hl 4 rfl) ?_
                  refine gf_Mo_29 E hM hR.m ((mo_at (by decide)).trans (congrArg some (mq_va rfl))) dd_Mo_reach_66 ?_
                  have w16 : M (ra 16) = some (.inl (D.1 102, 60, .inl (A 16))) := hR.w 16 rfl (by decide)
                  refine lv_iload hx hb dd_Mo_reach_69 (lv_at hl 2 rfl) ?_
                  refine mw_zald hx hb E.K hM 2 w16 rfl (vp_in_nI (by omega) (by omega)) dd_Mo_reach_71 ?_
                  refine mw_topi (y := (A 16) e0) (by rw [nI_clamp (by omega)]) ?_
                  refine lv_if_eq (tgt := 99) hx hb dd_Mo_reach_72 (by decide) (fun h72 => ?_) (fun h72 => ?_)
                  ·
                    refine lv_iconst (v := nI 0) hx hb dd_Mo_reach_99 (by decide) ?_
                    refine lv_istore (lv' := [(6, .int (nI 0)), (5, .int (nI 0)), (2, .int (u2)), (4, .int (nI e0)), (3, .int (nI r0)), (0, .ref mm), (1, .int (nI a))]) hx hb dd_Mo_reach_100 hl (by decide) rfl (fun ls hl => ?_)
                    refine lv_iload hx hb dd_Mo_reach_102 (lv_at hl 0 rfl) ?_
                    refine lv_if_eq (tgt := 121) hx hb dd_Mo_reach_104 (by decide) (fun h104 => ?_) (fun h104 => ?_)
                    ·
                      refine lv_iload_n hx hb dd_Mo_reach_121 rfl (lv_at hl 2 rfl) ?_
                      refine lv_istore_n (lv' := [(2, .int (u2)), (6, .int (nI 0)), (5, .int (nI 0)), (4, .int (nI e0)), (3, .int (nI r0)), (0, .ref mm), (1, .int (nI a))]) hx hb dd_Mo_reach_122 rfl hl (by decide) rfl (fun ls hl => ?_)
                      refine lv_iinc (k := 3) (v := nI (e0 + 1)) (lv' := [(4, .int (nI (e0 + 1))), (2, .int (u2)), (6, .int (nI 0)), (5, .int (nI 0)), (3, .int (nI r0)), (0, .ref mm), (1, .int (nI a))]) hx hb dd_Mo_reach_123 hl rfl (nI_1 _) (by decide) rfl (fun ls hl => ?_)
                      refine lv_goto (tgt := 20) hx hb dd_Mo_reach_126 (by decide) ?_
                      exact ih2 (e0 + 1) _ H locs ls (by omega) (mr_n1 hu2 (mq_thF h72)) hM hS (lv_sub hl [1, 0, 4, 5, 6] rfl)
                    ·
                      exact absurd rfl h104
                  ·
                    refine lv_iload hx hb dd_Mo_reach_75 (lv_at hl 0 rfl) ?_
                    refine lv_if_ne (tgt := 95) hx hb dd_Mo_reach_77 (by decide) (fun h77 => ?_) (fun h77 => ?_)
                    ·
                      exact absurd rfl h77
                    ·
                      refine lv_iload_n hx hb dd_Mo_reach_80 rfl (lv_at hl 1 rfl) ?_
                      refine lv_aload_n hx hb dd_Mo_reach_81 rfl (lv_at hl 4 rfl) ?_
                      refine gf_Mo_36 E hM hR.m ((mo_at (by decide)).trans (congrArg some (mq_va rfl))) dd_Mo_reach_82 ?_
                      have w18 : M (ra 18) = some (.inl (D.1 100, 60, .inl (A 18))) := hR.w 18 rfl (by decide)
                      refine lv_iload hx hb dd_Mo_reach_85 (lv_at hl 2 rfl) ?_
                      refine mw_iald hx hb E.K hM 0 w18 rfl (vp_in_nI (by omega) (by omega)) dd_Mo_reach_87 ?_
                      refine mw_topi (y := (A 18) e0) (by rw [nI_clamp (by omega)]) ?_
                      refine lv_ishr hx hb dd_Mo_reach_88 ?_
                      refine lv_iconst (v := nI 1) hx hb dd_Mo_reach_89 (by decide) ?_
                      refine lv_iand hx hb dd_Mo_reach_90 ?_
                      refine lv_iconst (v := nI 1) hx hb dd_Mo_reach_91 (by decide) ?_
                      refine lv_icmp_ne (tgt := 99) hx hb dd_Mo_reach_92 (by decide) (fun h92 => ?_) (fun h92 => ?_)
                      ·
                        refine lv_iconst (v := nI 0) hx hb dd_Mo_reach_99 (by decide) ?_
                        refine lv_istore (lv' := [(6, .int (nI 0)), (5, .int (nI 0)), (2, .int (u2)), (4, .int (nI e0)), (3, .int (nI r0)), (0, .ref mm), (1, .int (nI a))]) hx hb dd_Mo_reach_100 hl (by decide) rfl (fun ls hl => ?_)
                        refine lv_iload hx hb dd_Mo_reach_102 (lv_at hl 0 rfl) ?_
                        refine lv_if_eq (tgt := 121) hx hb dd_Mo_reach_104 (by decide) (fun h104 => ?_) (fun h104 => ?_)
                        ·
                          refine lv_iload_n hx hb dd_Mo_reach_121 rfl (lv_at hl 2 rfl) ?_
                          refine lv_istore_n (lv' := [(2, .int (u2)), (6, .int (nI 0)), (5, .int (nI 0)), (4, .int (nI e0)), (3, .int (nI r0)), (0, .ref mm), (1, .int (nI a))]) hx hb dd_Mo_reach_122 rfl hl (by decide) rfl (fun ls hl => ?_)
                          refine lv_iinc (k := 3) (v := nI (e0 + 1)) (lv' := [(4, .int (nI (e0 + 1))), (2, .int (u2)), (6, .int (nI 0)), (5, .int (nI 0)), (3, .int (nI r0)), (0, .ref mm), (1, .int (nI a))]) hx hb dd_Mo_reach_123 hl rfl (nI_1 _) (by decide) rfl (fun ls hl => ?_)
                          refine lv_goto (tgt := 20) hx hb dd_Mo_reach_126 (by decide) ?_
                          exact ih2 (e0 + 1) _ H locs ls (by omega) (mr_n2 hu2 (mq_thT h72) (by unfold mq_f; rw [mq_f1q, mq_f2q, decide_eq_false (fun q => h55 q.2), decide_eq_false h92]; rfl)) hM hS (lv_sub hl [1, 0, 4, 5, 6] rfl)
                        ·
                          exact absurd rfl h104
                      ·
                        refine lv_iconst (v := nI 1) hx hb dd_Mo_reach_95 (by decide) ?_
                        refine lv_goto (tgt := 100) hx hb dd_Mo_reach_96 (by decide) ?_
                        refine lv_istore (lv' := [(6, .int (nI 1)), (5, .int (nI 0)), (2, .int (u2)), (4, .int (nI e0)), (3, .int (nI r0)), (0, .ref mm), (1, .int (nI a))]) hx hb dd_Mo_reach_100 hl (by decide) rfl (fun ls hl => ?_)
                        refine lv_iload hx hb dd_Mo_reach_102 (lv_at hl 0 rfl) ?_
                        refine lv_if_eq (tgt := 121) hx hb dd_Mo_reach_104 (by decide) (fun h104 => ?_) (fun h104 => ?_)
                        ·
                          exact absurd h104 (by decide)
                        ·
                          refine lv_iload_n hx hb dd_Mo_reach_107 rfl (lv_at hl 2 rfl) ?_
                          refine lv_iconst (v := nI 1) hx hb dd_Mo_reach_108 (by decide) ?_
                          refine lv_aload_n hx hb dd_Mo_reach_109 rfl (lv_at hl 5 rfl) ?_
                          refine gf_Mo_33 E hM hR.m ((mo_at (by decide)).trans (congrArg some (mq_va rfl))) dd_Mo_reach_110 ?_
                          have w17 : M (ra 17) = some (.inl (D.1 100, 60, .inl (A 17))) := hR.w 17 rfl (by decide)
                          refine lv_iload hx hb dd_Mo_reach_113 (lv_at hl 3 rfl) ?_
                          refine mw_iald hx hb E.K hM 0 w17 rfl (vp_in_nI (by omega) (by omega)) dd_Mo_reach_115 ?_
                          refine mw_topi (y := (A 17) e0) (by rw [nI_clamp (by omega)]) ?_
                          refine lv_ishl hx hb dd_Mo_reach_116 ?_
                          refine lv_ior hx hb dd_Mo_reach_117 ?_
                          refine lv_goto (tgt := 122) hx hb dd_Mo_reach_118 (by decide) ?_
                          refine lv_istore_n (lv' := [(2, .int (u2 ||| ((nI 1) <<< (((A 17) e0) &&& 31)))), (6, .int (nI 1)), (5, .int (nI 0)), (4, .int (nI e0)), (3, .int (nI r0)), (0, .ref mm), (1, .int (nI a))]) hx hb dd_Mo_reach_122 rfl hl (by decide) rfl (fun ls hl => ?_)
                          refine lv_iinc (k := 3) (v := nI (e0 + 1)) (lv' := [(4, .int (nI (e0 + 1))), (2, .int (u2 ||| ((nI 1) <<< (((A 17) e0) &&& 31)))), (6, .int (nI 1)), (5, .int (nI 0)), (3, .int (nI r0)), (0, .ref mm), (1, .int (nI a))]) hx hb dd_Mo_reach_123 hl rfl (nI_1 _) (by decide) rfl (fun ls hl => ?_)
                          refine lv_goto (tgt := 20) hx hb dd_Mo_reach_126 (by decide) ?_
                          exact ih2 (e0 + 1) _ H locs ls (by omega) (mr_y hu2 (mq_thT h72) (by unfold mq_f; rw [mq_f2q, decide_eq_true h92, Bool.or_true])) hM hS (lv_sub hl [1, 0, 4, 5, 6] rfl)
                ·
                  refine lv_iconst (v := nI 1) hx hb dd_Mo_reach_58 (by decide) ?_
                  refine lv_goto (tgt := 63) hx hb dd_Mo_reach_59 (by decide) ?_
                  refine lv_istore (lv' := [(5, .int (nI 1)), (2, .int (u2)), (4, .int (nI e0)), (3, .int (nI r0)), (0, .ref mm), (1, .int (nI a))]) hx hb dd_Mo_reach_63 hl (by decide) rfl (fun ls hl => ?_)
                  refine lv_aload_n hx hb dd_Mo_reach_65 rfl (lv_at hl 4 rfl) ?_
                  refine gf_Mo_29 E hM hR.m ((mo_at (by decide)).trans (congrArg some (mq_va rfl))) dd_Mo_reach_66 ?_
                  have w16 : M (ra 16) = some (.inl (D.1 102, 60, .inl (A 16))) := hR.w 16 rfl (by decide)
                  refine lv_iload hx hb dd_Mo_reach_69 (lv_at hl 2 rfl) ?_
                  refine mw_zald hx hb E.K hM 2 w16 rfl (vp_in_nI (by omega) (by omega)) dd_Mo_reach_71 ?_
                  refine mw_topi (y := (A 16) e0) (by rw [nI_clamp (by omega)]) ?_
                  refine lv_if_eq (tgt := 99) hx hb dd_Mo_reach_72 (by decide) (fun h72 => ?_) (fun h72 => ?_)
                  ·
                    refine lv_iconst (v := nI 0) hx hb dd_Mo_reach_99 (by decide) ?_
                    refine lv_istore (lv' := [(6, .int (nI 0)), (5, .int (nI 1)), (2, .int (u2)), (4, .int (nI e0)), (3, .int (nI r0)), (0, .ref mm), (1, .int (nI a))]) hx hb dd_Mo_reach_100 hl (by decide) rfl (fun ls hl => ?_)
                    refine lv_iload hx hb dd_Mo_reach_102 (lv_at hl 0 rfl) ?_
                    refine lv_if_eq (tgt := 121) hx hb dd_Mo_reach_104 (by decide) (fun h104 => ?_) (fun h104 => ?_)
                    ·
                      refine lv_iload_n hx hb dd_Mo_reach_121 rfl (lv_at hl 2 rfl) ?_
                      refine lv_istore_n (lv' := [(2, .int (u2)), (6, .int (nI 0)), (5, .int (nI 1)), (4, .int (nI e0)), (3, .int (nI r0)), (0, .ref mm), (1, .int (nI a))]) hx hb dd_Mo_reach_122 rfl hl (by decide) rfl (fun ls hl => ?_)
                      refine lv_iinc (k := 3) (v := nI (e0 + 1)) (lv' := [(4, .int (nI (e0 + 1))), (2, .int (u2)), (6, .int (nI 0)), (5, .int (nI 1)), (3, .int (nI r0)), (0, .ref mm), (1, .int (nI a))]) hx hb dd_Mo_reach_123 hl rfl (nI_1 _) (by decide) rfl (fun ls hl => ?_)
                      refine lv_goto (tgt := 20) hx hb dd_Mo_reach_126 (by decide) ?_
                      exact ih2 (e0 + 1) _ H locs ls (by omega) (mr_n1 hu2 (mq_thF h72)) hM hS (lv_sub hl [1, 0, 4, 5, 6] rfl)
                    ·
                      exact absurd rfl h104
                  ·
                    refine lv_iload hx hb dd_Mo_reach_75 (lv_at hl 0 rfl) ?_
                    refine lv_if_ne (tgt := 95) hx hb dd_Mo_reach_77 (by decide) (fun h77 => ?_) (fun h77 => ?_)
                    ·
                      refine lv_iconst (v := nI 1) hx hb dd_Mo_reach_95 (by decide) ?_
                      refine lv_goto (tgt := 100) hx hb dd_Mo_reach_96 (by decide) ?_
                      refine lv_istore (lv' := [(6, .int (nI 1)), (5, .int (nI 1)), (2, .int (u2)), (4, .int (nI e0)), (3, .int (nI r0)), (0, .ref mm), (1, .int (nI a))]) hx hb dd_Mo_reach_100 hl (by decide) rfl (fun ls hl => ?_)
                      refine lv_iload hx hb dd_Mo_reach_102 (lv_at hl 0 rfl) ?_
                      refine lv_if_eq (tgt := 121) hx hb dd_Mo_reach_104 (by decide) (fun h104 => ?_) (fun h104 => ?_)
                      ·
                        exact absurd h104 (by decide)
                      ·
                        refine lv_iload_n hx hb dd_Mo_reach_107 rfl (lv_at hl 2 rfl) ?_
                        refine lv_iconst (v := nI 1) hx hb dd_Mo_reach_108 (by decide) ?_
                        refine lv_aload_n hx hb dd_Mo_reach_109 rfl (lv_at hl 5 rfl) ?_
                        refine gf_Mo_33 E hM hR.m ((mo_at (by decide)).trans (congrArg some (mq_va rfl))) dd_Mo_reach_110 ?_
                        have w17 : M (ra 17) = some (.inl (D.1 100, 60, .inl (A 17))) := hR.w 17 rfl (by decide)
                        refine lv_iload hx hb dd_Mo_reach_113 (lv_at hl 3 rfl) ?_
                        refine mw_iald hx hb E.K hM 0 w17 rfl (vp_in_nI (by omega) (by omega)) dd_Mo_reach_115 ?_
                        refine mw_topi (y := (A 17) e0) (by rw [nI_clamp (by omega)]) ?_
                        refine lv_ishl hx hb dd_Mo_reach_116 ?_
                        refine lv_ior hx hb dd_Mo_reach_117 ?_
                        refine lv_goto (tgt := 122) hx hb dd_Mo_reach_118 (by decide) ?_
                        refine lv_istore_n (lv' := [(2, .int (u2 ||| ((nI 1) <<< (((A 17) e0) &&& 31)))), (6, .int (nI 1)), (5, .int (nI 1)), (4, .int (nI e0)), (3, .int (nI r0)), (0, .ref mm), (1, .int (nI a))]) hx hb dd_Mo_reach_122 rfl hl (by decide) rfl (fun ls hl => ?_)
                        refine lv_iinc (k := 3) (v := nI (e0 + 1)) (lv' := [(4, .int (nI (e0 + 1))), (2, .int (u2 ||| ((nI 1) <<< (((A 17) e0) &&& 31)))), (6, .int (nI 1)), (5, .int (nI 1)), (3, .int (nI r0)), (0, .ref mm), (1, .int (nI a))]) hx hb dd_Mo_reach_123 hl rfl (nI_1 _) (by decide) rfl (fun ls hl => ?_)
                        refine lv_goto (tgt := 20) hx hb dd_Mo_reach_126 (by decide) ?_
                        exact ih2 (e0 + 1) _ H locs ls (by omega) (mr_y hu2 (mq_thT h72) (by unfold mq_f; rw [mq_f1q, decide_eq_true ⟨h36, h55⟩]; rfl)) hM hS (lv_sub hl [1, 0, 4, 5, 6] rfl)
                    ·
                      exact absurd h77 (by decide)
        exact loop20 mk 0 u H locs ls (by omega) rfl hM hS (lv_sub hl [1, 0, 2, 3, 4] rfl)
  exact loop11 13 0 _ s.heap [] ls (by omega) rfl hM hS (lv_sub hl [1, 0, 2, 3] rfl)
theorem cc_Mo_issue (l : Launch) (D : va_G) (z : Nat) (M : mw_M) (mm : Nat) (ra : Nat → Nat) (V : Nat → Int32) (A : Nat → Nat → Int32) (S : Nat → Int64) (a e0 ns lf cl kc ka : Nat) (gm : Nat → Nat) (hR : mq_R D M mm ra V A S) (ha0 : a < 3) (he0 : e0 < 60) (hv0 : V 0 = nI lf) (hv1 : V 1 = nI cl) (hv11 : V 11 = nI ka) (hv14 : V 14 = nI ns) (hka : ka < kc) (hkc : kc ≤ 600) (hgm : ∀ j : Nat, j < kc → A 10 j = nI (gm j) ∧ gm j < 2 ^ 20) (hlf : lf < 2 ^ 20) (hcl : cl < 2 ^ 20) (tt : Nat) (htt : A 20 e0 = nI tt ∧ tt < 2 ^ 20) : mw_C l yy_Mo_issue bb_Mo_issue 5 (Option.none : Option Jvm.ClassFile.FieldType) 0 0 0 0 D z M [.ref mm, .int (nI a), .int (nI e0)] (fun v M' => v = none ∧ (∃ V1 A1, mq_R D M' mm ra V1 A1 S ∧ V1 = va_up V 14 (nI (ns + 1)) ∧ A1 = va_up (va_up (va_up (va_up A 26 (upd (A 26) (60 * a + e0) (nI (ns + 1)))) 27 (upd (A 27) (60 * a + e0) (nI ka))) 28 (upd (A 28) (60 * a + e0) (nI cl))) 29 (upd (A 29) (60 * a + e0) (nI (min (cl + tt) (gm ka + lf))))) ∧ mw_fr (mq_P mm ra) M M') := by
  refine mw_of (by decide) (Nat.le_of_ble_eq_true rfl) ?_
  intro p e s m below meth c ls E hr hk hnm hM hl
  have hx := E.x
  have hb := E.b
  have E : mw_E p m c bb_Mo_issue 5 s _ D z "IdentityIssuerModel" := E
  have hl : lv_has ls 5 [(0, .ref mm), (1, .int (nI a)), (2, .int (nI e0))] := hl
  have hS : va_S (mw_A z) s.heap s.heap [] := va_S.rf
  have hF : mw_fr (mq_P mm ra) M M := mw_fr.rf
  refine lv_bipush (v := nI 60) hx hb dd_Mo_issue_0 (by decide) ?_
  refine lv_iload_n hx hb dd_Mo_issue_2 rfl (lv_at hl 1 rfl) ?_
  refine lv_imul hx hb dd_Mo_issue_3 ?_
  refine mw_topi (y := nI (60 * a)) (pk_mul _ _) ?_
  refine lv_iload_n hx hb dd_Mo_issue_4 rfl (lv_at hl 2 rfl) ?_
  refine lv_iadd hx hb dd_Mo_issue_5 ?_
  refine mw_topi (y := nI ((60 * a) + e0)) (nI_add _ _) ?_
  refine lv_istore_n (lv' := [(3, .int (nI ((60 * a) + e0))), (0, .ref mm), (1, .int (nI a)), (2, .int (nI e0))]) hx hb dd_Mo_issue_6 rfl hl (by decide) rfl (fun ls hl => ?_)
  refine lv_aload_n hx hb dd_Mo_issue_7 rfl (lv_at hl 1 rfl) ?_
  refine gf_Mo_22 E hM hR.m ((mo_at (by decide)).trans (congrArg some (mq_va rfl))) dd_Mo_issue_8 ?_
  have w10 : M (ra 10) = some (.inl (D.1 100, 600, .inl (A 10))) := hR.w 10 rfl (by decide)
  refine lv_aload_n hx hb dd_Mo_issue_11 rfl (lv_at hl 1 rfl) ?_
  refine gf_Mo_183 E hM hR.m ((mo_at (by decide)).trans (congrArg some (mq_vi rfl hv11))) dd_Mo_issue_12 ?_
  refine mw_iald hx hb E.K hM 0 w10 rfl (vp_in_nI (by omega) (by omega)) dd_Mo_issue_15 ?_
  refine mw_topi (y := (A 10) ka) (by rw [nI_clamp (by omega)]) ?_
  refine mw_topi (y := nI (gm ka)) ((hgm ka hka).1) ?_
  refine lv_aload_n hx hb dd_Mo_issue_16 rfl (lv_at hl 1 rfl) ?_
  refine gf_Mo_108 E hM hR.m ((mo_at (by decide)).trans (congrArg some (mq_vi rfl hv0))) dd_Mo_issue_17 ?_
  have hgk := (hgm ka hka).2
  have httl := htt.2
  refine lv_iadd hx hb dd_Mo_issue_20 ?_
  refine mw_topi (y := nI ((gm ka) + lf)) (nI_add _ _) ?_
  refine lv_istore (lv' := [(4, .int (nI ((gm ka) + lf))), (3, .int (nI ((60 * a) + e0))), (0, .ref mm), (1, .int (nI a)), (2, .int (nI e0))]) hx hb dd_Mo_issue_21 hl (by decide) rfl (fun ls hl => ?_)
  refine lv_aload_n hx hb dd_Mo_issue_23 rfl (lv_at hl 2 rfl) ?_
  refine lv_dup hx hb dd_Mo_issue_24 rfl ?_
  refine gf_Mo_186 E hM hR.m ((mo_at (by decide)).trans (congrArg some (mq_vi rfl hv14))) dd_Mo_issue_25 ?_
  refine lv_iconst (v := nI 1) hx hb dd_Mo_issue_28 (by decide) ?_
  refine lv_iadd hx hb dd_Mo_issue_29 ?_
  refine mw_topi (y := nI (ns + 1)) (nI_add _ _) ?_
  refine pf_Mo_186 E hM hS hR.m (by rw [mo_len]; decide) dd_Mo_issue_30 (fun H locs hM hS => ?_)
  rw [mo_set (by decide), mq_vu rfl] at hM
  obtain ⟨V1, hV1⟩ : ∃ V9 : Nat → Int32, V9 = va_up V 14 (nI (ns + 1)) := ⟨_, rfl⟩
  rw [← hV1] at hM
  obtain ⟨M1, hM1⟩ : ∃ M9 : mw_M, M9 = va_up M mm (some (.inr (13, mo_l (mq_v ra V1)))) := ⟨_, rfl⟩
  rw [← hM1] at hM
  have hR := hR.setV hM1
  have hF := mw_fu hM1 hF (Or.inl rfl)
  have hv0 := mq_vn hV1 hv0 (by decide)
  have hv1 := mq_vn hV1 hv1 (by decide)
  have hv11 := mq_vn hV1 hv11 (by decide)
  have hv14 := mq_vs hV1
  refine lv_aload_n hx hb dd_Mo_issue_33 rfl (lv_at hl 2 rfl) ?_
  refine gf_Mo_54 E hM hR.m ((mo_at (by decide)).trans (congrArg some (mq_va rfl))) dd_Mo_issue_34 ?_
  have w26 : M1 (ra 26) = some (.inl (D.1 100, 180, .inl (A 26))) := hR.w 26 rfl (by decide)
  refine lv_iload_n hx hb dd_Mo_issue_37 rfl (lv_at hl 1 rfl) ?_
  refine lv_aload_n hx hb dd_Mo_issue_38 rfl (lv_at hl 2 rfl) ?_
  refine gf_Mo_186 E hM hR.m ((mo_at (by decide)).trans (congrArg some (mq_vi rfl hv14))) dd_Mo_issue_39 ?_
  have w26 : M1 (ra 26) = some (.inl (D.1 100, 180, .inl (A 26))) := hR.w 26 rfl (by decide)
  refine mw_iast hx hb E.K hM E.zz hS 0 w26 rfl (vp_in_nI (by omega) (by omega)) dd_Mo_issue_42 (fun H locs hM hS => ?_)
  rw [nI_clamp (by omega)] at hM
  have hM : mw_at D mg_cl z (va_up M1 (ra 26) (some (.inl (D.1 100, 180, .inl ((upd (A 26) ((60 * a) + e0) (nI (ns + 1)))))))) H := hM
  obtain ⟨M1, hM1⟩ : ∃ M9 : mw_M, M9 = va_up M1 (ra 26) (some (.inl (D.1 100, 180, .inl ((upd (A 26) ((60 * a) + e0) (nI (ns + 1))))))) := ⟨_, rfl⟩
  rw [← hM1] at hM
  obtain ⟨A2, hA2⟩ : ∃ A9 : Nat → Nat → Int32, A9 = va_up A 26 (upd (A 26) ((60 * a) + e0) (nI (ns + 1))) := ⟨_, rfl⟩
  have hR := hR.setA 26 rfl (by decide) hM1 hA2
  have hF := mw_fu hM1 hF (mq_Pa (k := 26) rfl)
  refine lv_aload_n hx hb dd_Mo_issue_43 rfl (lv_at hl 2 rfl) ?_
  refine gf_Mo_57 E hM hR.m ((mo_at (by decide)).trans (congrArg some (mq_va rfl))) dd_Mo_issue_44 ?_
  have w27 : M1 (ra 27) = some (.inl (D.1 100, 180, .inl (A2 27))) := hR.w 27 rfl (by decide)
  refine lv_iload_n hx hb dd_Mo_issue_47 rfl (lv_at hl 1 rfl) ?_
  refine lv_aload_n hx hb dd_Mo_issue_48 rfl (lv_at hl 2 rfl) ?_
  refine gf_Mo_183 E hM hR.m ((mo_at (by decide)).trans (congrArg some (mq_vi rfl hv11))) dd_Mo_issue_49 ?_
  have w27 : M1 (ra 27) = some (.inl (D.1 100, 180, .inl (A2 27))) := hR.w 27 rfl (by decide)
  refine mw_iast hx hb E.K hM E.zz hS 0 w27 rfl (vp_in_nI (by omega) (by omega)) dd_Mo_issue_52 (fun H locs hM hS => ?_)
  rw [nI_clamp (by omega)] at hM
  have hM : mw_at D mg_cl z (va_up M1 (ra 27) (some (.inl (D.1 100, 180, .inl ((upd (A2 27) ((60 * a) + e0) (nI ka))))))) H := hM
  obtain ⟨M1, hM1⟩ : ∃ M9 : mw_M, M9 = va_up M1 (ra 27) (some (.inl (D.1 100, 180, .inl ((upd (A2 27) ((60 * a) + e0) (nI ka)))))) := ⟨_, rfl⟩
  rw [← hM1] at hM
  obtain ⟨A3, hA3⟩ : ∃ A9 : Nat → Nat → Int32, A9 = va_up A2 27 (upd (A2 27) ((60 * a) + e0) (nI ka)) := ⟨_, rfl⟩
  have hR := hR.setA 27 rfl (by decide) hM1 hA3
  have hF := mw_fu hM1 hF (mq_Pa (k := 27) rfl)
  refine lv_aload_n hx hb dd_Mo_issue_53 rfl (lv_at hl 2 rfl) ?_
  refine gf_Mo_60 E hM hR.m ((mo_at (by decide)).trans (congrArg some (mq_va rfl))) dd_Mo_issue_54 ?_
  have w28 : M1 (ra 28) = some (.inl (D.1 100, 180, .inl (A3 28))) := hR.w 28 rfl (by decide)
  refine lv_iload_n hx hb dd_Mo_issue_57 rfl (lv_at hl 1 rfl) ?_
  refine lv_aload_n hx hb dd_Mo_issue_58 rfl (lv_at hl 2 rfl) ?_
  refine gf_Mo_180 E hM hR.m ((mo_at (by decide)).trans (congrArg some (mq_vi rfl hv1))) dd_Mo_issue_59 ?_
  have w28 : M1 (ra 28) = some (.inl (D.1 100, 180, .inl (A3 28))) := hR.w 28 rfl (by decide)
  refine mw_iast hx hb E.K hM E.zz hS 0 w28 rfl (vp_in_nI (by omega) (by omega)) dd_Mo_issue_62 (fun H locs hM hS => ?_)
  rw [nI_clamp (by omega)] at hM
  have hM : mw_at D mg_cl z (va_up M1 (ra 28) (some (.inl (D.1 100, 180, .inl ((upd (A3 28) ((60 * a) + e0) (nI cl))))))) H := hM
  obtain ⟨M1, hM1⟩ : ∃ M9 : mw_M, M9 = va_up M1 (ra 28) (some (.inl (D.1 100, 180, .inl ((upd (A3 28) ((60 * a) + e0) (nI cl)))))) := ⟨_, rfl⟩
  rw [← hM1] at hM
  obtain ⟨A4, hA4⟩ : ∃ A9 : Nat → Nat → Int32, A9 = va_up A3 28 (upd (A3 28) ((60 * a) + e0) (nI cl)) := ⟨_, rfl⟩
  have hR := hR.setA 28 rfl (by decide) hM1 hA4
  have hF := mw_fu hM1 hF (mq_Pa (k := 28) rfl)
  refine lv_aload_n hx hb dd_Mo_issue_63 rfl (lv_at hl 2 rfl) ?_
  refine gf_Mo_63 E hM hR.m ((mo_at (by decide)).trans (congrArg some (mq_va rfl))) dd_Mo_issue_64 ?_
  have w29 : M1 (ra 29) = some (.inl (D.1 100, 180, .inl (A4 29))) := hR.w 29 rfl (by decide)
  refine lv_iload_n hx hb dd_Mo_issue_67 rfl (lv_at hl 1 rfl) ?_
  refine lv_aload_n hx hb dd_Mo_issue_68 rfl (lv_at hl 2 rfl) ?_
  refine gf_Mo_180 E hM hR.m ((mo_at (by decide)).trans (congrArg some (mq_vi rfl hv1))) dd_Mo_issue_69 ?_
  refine lv_aload_n hx hb dd_Mo_issue_72 rfl (lv_at hl 2 rfl) ?_
  refine gf_Mo_42 E hM hR.m ((mo_at (by decide)).trans (congrArg some (mq_va rfl))) dd_Mo_issue_73 ?_
  have w20 : M1 (ra 20) = some (.inl (D.1 100, 60, .inl (A4 20))) := hR.w 20 rfl (by decide)
  refine lv_iload_n hx hb dd_Mo_issue_76 rfl (lv_at hl 4 rfl) ?_
  refine mw_iald hx hb E.K hM 0 w20 rfl (vp_in_nI (by omega) (by omega)) dd_Mo_issue_77 ?_
  refine mw_topi (y := (A4 20) e0) (by rw [nI_clamp (by omega)]) ?_
  refine mw_topi (y := nI tt) (by rw [(show A4 20 = A 20 by rw [hA4, va_up_ne _ _ (by decide), hA3, va_up_ne _ _ (by decide), hA2, va_up_ne _ _ (by decide)])]; exact htt.1) ?_
  refine lv_iadd hx hb dd_Mo_issue_78 ?_
  refine mw_topi (y := nI (cl + tt)) (nI_add _ _) ?_
  refine lv_iload hx hb dd_Mo_issue_79 (lv_at hl 0 rfl) ?_
  refine lv_icmp_ge (tgt := 98) hx hb dd_Mo_issue_81 (by decide) (fun h81 => ?_) (fun h81 => ?_)
  ·
    rw [nI_leI (by omega) (by omega)] at h81
    refine lv_iload hx hb dd_Mo_issue_98 (lv_at hl 0 rfl) ?_
    have w29 : M1 (ra 29) = some (.inl (D.1 100, 180, .inl (A4 29))) := hR.w 29 rfl (by decide)
    refine mw_iast hx hb E.K hM E.zz hS 0 w29 rfl (vp_in_nI (by omega) (by omega)) dd_Mo_issue_100 (fun H locs hM hS => ?_)
    rw [nI_clamp (by omega)] at hM
    have hM : mw_at D mg_cl z (va_up M1 (ra 29) (some (.inl (D.1 100, 180, .inl ((upd (A4 29) ((60 * a) + e0) (nI ((gm ka) + lf)))))))) H := hM
    obtain ⟨M1, hM1⟩ : ∃ M9 : mw_M, M9 = va_up M1 (ra 29) (some (.inl (D.1 100, 180, .inl ((upd (A4 29) ((60 * a) + e0) (nI ((gm ka) + lf))))))) := ⟨_, rfl⟩
    rw [← hM1] at hM
    obtain ⟨A5, hA5⟩ : ∃ A9 : Nat → Nat → Int32, A9 = va_up A4 29 (upd (A4 29) ((60 * a) + e0) (nI ((gm ka) + lf))) := ⟨_, rfl⟩
    have hR := hR.setA 29 rfl (by decide) hM1 hA5
    have hF := mw_fu hM1 hF (mq_Pa (k := 29) rfl)
    refine mr_v E hr hk hM hS (by decide) (by decide) ?_ dd_Mo_issue_101
    refine ⟨rfl, ⟨_, _, hR, hV1, ?_⟩, hF⟩
    rw [show min (cl + tt) (gm ka + lf) = gm ka + lf by omega, hA5, hA4, hA3, hA2]
    rfl
  ·
    rw [nI_leI (by omega) (by omega)] at h81
    refine lv_aload_n hx hb dd_Mo_issue_84 rfl (lv_at hl 2 rfl) ?_
    refine gf_Mo_180 E hM hR.m ((mo_at (by decide)).trans (congrArg some (mq_vi rfl hv1))) dd_Mo_issue_85 ?_
    refine lv_aload_n hx hb dd_Mo_issue_88 rfl (lv_at hl 2 rfl) ?_
    refine gf_Mo_42 E hM hR.m ((mo_at (by decide)).trans (congrArg some (mq_va rfl))) dd_Mo_issue_89 ?_
    have w20 : M1 (ra 20) = some (.inl (D.1 100, 60, .inl (A4 20))) := hR.w 20 rfl (by decide)
    refine lv_iload_n hx hb dd_Mo_issue_92 rfl (lv_at hl 4 rfl) ?_
    refine mw_iald hx hb E.K hM 0 w20 rfl (vp_in_nI (by omega) (by omega)) dd_Mo_issue_93 ?_
    refine mw_topi (y := (A4 20) e0) (by rw [nI_clamp (by omega)]) ?_
    refine mw_topi (y := nI tt) (by rw [(show A4 20 = A 20 by rw [hA4, va_up_ne _ _ (by decide), hA3, va_up_ne _ _ (by decide), hA2, va_up_ne _ _ (by decide)])]; exact htt.1) ?_
    refine lv_iadd hx hb dd_Mo_issue_94 ?_
    refine mw_topi (y := nI (cl + tt)) (nI_add _ _) ?_
    refine lv_goto (tgt := 100) hx hb dd_Mo_issue_95 (by decide) ?_
    have w29 : M1 (ra 29) = some (.inl (D.1 100, 180, .inl (A4 29))) := hR.w 29 rfl (by decide)
    refine mw_iast hx hb E.K hM E.zz hS 0 w29 rfl (vp_in_nI (by omega) (by omega)) dd_Mo_issue_100 (fun H locs hM hS => ?_)
    rw [nI_clamp (by omega)] at hM
    have hM : mw_at D mg_cl z (va_up M1 (ra 29) (some (.inl (D.1 100, 180, .inl ((upd (A4 29) ((60 * a) + e0) (nI (cl + tt)))))))) H := hM
    obtain ⟨M1, hM1⟩ : ∃ M9 : mw_M, M9 = va_up M1 (ra 29) (some (.inl (D.1 100, 180, .inl ((upd (A4 29) ((60 * a) + e0) (nI (cl + tt))))))) := ⟨_, rfl⟩
    rw [← hM1] at hM
    obtain ⟨A6, hA6⟩ : ∃ A9 : Nat → Nat → Int32, A9 = va_up A4 29 (upd (A4 29) ((60 * a) + e0) (nI (cl + tt))) := ⟨_, rfl⟩
    have hR := hR.setA 29 rfl (by decide) hM1 hA6
    have hF := mw_fu hM1 hF (mq_Pa (k := 29) rfl)
    refine mr_v E hr hk hM hS (by decide) (by decide) ?_ dd_Mo_issue_101
    refine ⟨rfl, ⟨_, _, hR, hV1, ?_⟩, hF⟩
    rw [show min (cl + tt) (gm ka + lf) = cl + tt by omega, hA6, hA4, hA3, hA2]
    rfl
