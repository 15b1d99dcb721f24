/-! the reference: responses -/
def mq_p (A : Nat → Nat → Int32) (clk : Int32) (a : Nat) (sel : Int32) (e : Nat) : Bool := decide (0 < A 26 (60 * a + e)) && decide (A 19 e &&& (sel ^^^ -1) = 0) && decide (clk < A 29 (60 * a + e))
def mq_rs (A : Nat → Nat → Int32) (clk : Int32) (a : Nat) (sel : Int32) (n : Nat) : List Nat := (List.range n).filter (mq_p A clk a sel)
theorem mq_rs_y {A : Nat → Nat → Int32} {clk : Int32} {a : Nat} {sel : Int32} {e : Nat} (h : mq_p A clk a sel e = true) : mq_rs A clk a sel (e + 1) = mq_rs A clk a sel e ++ [e] := by
  unfold mq_rs
  rw [List.range_succ, List.filter_append, List.filter_cons_of_pos h]
  rfl
theorem mq_rs_n {A : Nat → Nat → Int32} {clk : Int32} {a : Nat} {sel : Int32} {e : Nat} (h : mq_p A clk a sel e = false) : mq_rs A clk a sel (e + 1) = mq_rs A clk a sel e := by
  unfold mq_rs
  rw [List.range_succ, List.filter_append, List.filter_cons_of_neg (by rw [h]; decide)]
  exact List.append_nil _
theorem mq_rs_le {A : Nat → Nat → Int32} {clk : Int32} {a : Nat} {sel : Int32} : ∀ d n : Nat, (mq_rs A clk a sel n).length ≤ (mq_rs A clk a sel (n + d)).length
  | 0, n => Nat.le_refl _
  | d + 1, n => by
    refine Nat.le_trans (mq_rs_le d n) ?_
    show _ ≤ (mq_rs A clk a sel (n + d + 1)).length
    by_cases h : mq_p A clk a sel (n + d) = true
    · rw [mq_rs_y h, List.length_append]
      exact Nat.le_add_right _ _
    · rw [mq_rs_n (Bool.of_not_eq_true h)]
      exact Nat.le_refl _
theorem mq_rs_lt {A : Nat → Nat → Int32} {clk : Int32} {a : Nat} {sel : Int32} {n e : Nat} (h : e ∈ mq_rs A clk a sel n) : e < n := List.mem_range.mp (List.mem_filter.mp h).1
def mf_or (A : Nat → Nat → Int32) (L : List Nat) : Int32 := L.foldl (fun u e => u ||| A 21 e) (nI 0)
theorem mf_or_s {A : Nat → Nat → Int32} {L : List Nat} {i e : Nat} (h : L[i]? = some e) : mf_or A (L.take (i + 1)) = mf_or A (L.take i) ||| A 21 e := by
  unfold mf_or
  rw [ls_take h, List.foldl_append]
  rfl
/-- the list that is found: how many, and which -/
def mq_fd (V : Nat → Int32) (A : Nat → Nat → Int32) (L : List Nat) : Prop := V 46 = nI L.length ∧ L.length ≤ 12 ∧ (∀ i e : Nat, L[i]? = some e → A 47 i = nI e) ∧ ∀ e : Nat, e ∈ L → e < 60
theorem cc_Mo_respond (l : Launch) (D : va_G) (z : Nat) (M : mw_M) (mm : Nat) (ra : Nat → Nat) (V : Nat → Int32) (A : Nat → Nat → Int32) (S : Nat → Int64) (a mk : Nat) (sel : Int32) (hR : mq_R D M mm ra V A S) (ha0 : a < 3) (hv15 : V 15 = nI mk) (hmk : mk ≤ 60) (h12 : (mq_rs A (V 1) a sel mk).length ≤ 12) : mw_C l yy_Mo_respond bb_Mo_respond 5 (Option.none : Option Jvm.ClassFile.FieldType) 0 0 0 0 D z M [.ref mm, .int (nI a), .int (sel)] (fun v M' => v = none ∧ (∃ V1 A1, mq_R D M' mm ra V1 A1 S ∧ V1 = va_up V 46 (nI (mq_rs A (V 1) a sel mk).length) ∧ (∀ k : Nat, k ≠ 47 → A1 k = A k) ∧ ∀ i e : Nat, (mq_rs A (V 1) a sel mk)[i]? = some e → A1 47 i = nI e) ∧ mw_fr (mq_P mm ra) M M') := by
  refine mw_of (by decide) (Nat.le_of_ble_eq_true rfl) ?_
  intro p e s m below meth c ls E hr hk hnm hM hl
  have hx := E.x
  have hb := E.b
  have E : mw_E p m c bb_Mo_respond 5 s _ D z "IdentityIssuerModel" := E
  have hl : lv_has ls 5 [(0, .ref mm), (1, .int (nI a)), (2, .int (sel))] := hl
  have hS : va_S (mw_A z) s.heap s.heap [] := va_S.rf
  have hF : mw_fr (mq_P mm ra) M M := mw_fr.rf
  have hv15o := hv15
  refine lv_aload_n hx hb dd_Mo_respond_0 rfl (lv_at hl 0 rfl) ?_
  refine lv_iconst (v := nI 0) hx hb dd_Mo_respond_1 (by decide) ?_
  refine pf_Mo_205 E hM hS hR.m (by rw [mo_len]; decide) dd_Mo_respond_2 (fun H locs hM hS => ?_)
  rw [mo_set (by decide), mq_vu rfl] at hM
  obtain ⟨V1, hV1⟩ : ∃ V9 : Nat → Int32, V9 = va_up V 46 (nI 0) := ⟨_, rfl⟩
  rw [← hV1] at hM
  obtain ⟨M1, hM1⟩ : ∃ M9 : mw_M, M9 = va_up M mm (some (.inr (13, mo_l (mq_v ra V1)))) := ⟨_, rfl⟩
  rw [← hM1] at hM
  have hR := hR.setV hM1
  have hF := mw_fu hM1 hF (Or.inl rfl)
  have hv15 := mq_vn hV1 hv15 (by decide)
  have hv46 := mq_vs hV1
  refine lv_iconst (v := nI 0) hx hb dd_Mo_respond_5 (by decide) ?_
  refine lv_istore_n (lv' := [(3, .int (nI 0)), (0, .ref mm), (1, .int (nI a)), (2, .int (sel))]) hx hb dd_Mo_respond_6 rfl hl (by decide) rfl (fun ls hl => ?_)
  have loop7 : ∀ (d9 : Nat) (e0 : Nat) (V1 : Nat → Int32) (A1 : Nat → Nat → Int32) (M1 : mw_M) (H : Heap) (locs : List Loc) (ls : Array Slot), e0 + d9 = mk → mq_R D M1 mm ra V1 A1 S → V1 = va_up V 46 (nI (mq_rs A (V 1) a sel e0).length) → (∀ k : Nat, k ≠ 47 → A1 k = A k) → (∀ i e : Nat, (mq_rs A (V 1) a sel e0)[i]? = some e → A1 47 i = nI e) → mw_fr (mq_P mm ra) M M1 → mw_at D mg_cl z M1 H → va_S (mw_A z) s.heap H locs → lv_has ls 5 [(3, .int (nI e0)), (0, .ref mm), (1, .int (nI a)), (2, .int (sel))] → W p l e ({ frames := 0, cells := 0, slots := 0, locals := 0 } : Room) s m ([.ref mm, .int (nI a), .int (sel)] : List Value).toArray below meth c H locs (0) (0) (MQ below (mw_Q D z (fun v M' => v = none ∧ (∃ V1 A1, mq_R D M' mm ra V1 A1 S ∧ V1 = va_up V 46 (nI (mq_rs A (V 1) a sel mk).length) ∧ (∀ k : Nat, k ≠ 47 → A1 k = A k) ∧ ∀ i e : Nat, (mq_rs A (V 1) a sel mk)[i]? = some e → A1 47 i = nI e) ∧ mw_fr (mq_P mm ra) M M')) ([.ref mm, .int (nI a), .int (sel)] : List Value).toArray s 0 0 (mw_A z)) (F0 m 7 ls []) := by
    intro d9
    induction d9 with
    | zero =>
      intro e0 V1 A1 M1 H locs ls hj hR hV hA hfd hF hM hS hl
      have hv15 : V1 15 = nI mk := by rw [hV]; exact hv15o
      have hv46 : V1 46 = nI (mq_rs A (V 1) a sel e0).length := by rw [hV]; rfl
      have hv1 : V1 1 = V 1 := by rw [hV]; rfl
      refine lv_iload_n hx hb dd_Mo_respond_7 rfl (lv_at hl 0 rfl) ?_
      refine lv_aload_n hx hb dd_Mo_respond_8 rfl (lv_at hl 1 rfl) ?_
      refine gf_Mo_167 E hM hR.m ((mo_at (by decide)).trans (congrArg some (mq_vi rfl hv15))) dd_Mo_respond_9 ?_
      refine lv_icmp_ge (tgt := 86) hx hb dd_Mo_respond_12 (by decide) (fun h12 => ?_) (fun h12 => ?_)
      ·
        rw [nI_leI (by omega) (by omega)] at h12
        refine mr_v E hr hk hM hS (by decide) (by decide) ?_ dd_Mo_respond_86
        rw [show e0 = mk by omega] at hV hfd
        exact ⟨rfl, ⟨V1, A1, hR, hV, hA, hfd⟩, hF⟩
      ·
        rw [nI_leI (by omega) (by omega)] at h12
        omega
    | succ d9 ih =>
      intro e0 V1 A1 M1 H locs ls hj hR hV hA hfd hF hM hS hl
      have hv15 : V1 15 = nI mk := by rw [hV]; exact hv15o
      have hv46 : V1 46 = nI (mq_rs A (V 1) a sel e0).length := by rw [hV]; rfl
      have hv1 : V1 1 = V 1 := by rw [hV]; rfl
      refine lv_iload_n hx hb dd_Mo_respond_7 rfl (lv_at hl 0 rfl) ?_
      refine lv_aload_n hx hb dd_Mo_respond_8 rfl (lv_at hl 1 rfl) ?_
      refine gf_Mo_167 E hM hR.m ((mo_at (by decide)).trans (congrArg some (mq_vi rfl hv15))) dd_Mo_respond_9 ?_
      refine lv_icmp_ge (tgt := 86) hx hb dd_Mo_respond_12 (by decide) (fun h12 => ?_) (fun h12 => ?_)
      ·
        rw [nI_leI (by omega) (by omega)] at h12
        omega
      ·
        rw [nI_leI (by omega) (by omega)] at h12
        refine lv_bipush (v := nI 60) hx hb dd_Mo_respond_15 (by decide) ?_
        refine lv_iload_n hx hb dd_Mo_respond_17 rfl (lv_at hl 2 rfl) ?_
        refine lv_imul hx hb dd_Mo_respond_18 ?_
        refine mw_topi (y := nI (60 * a)) (pk_mul _ _) ?_
        refine lv_iload_n hx hb dd_Mo_respond_19 rfl (lv_at hl 0 rfl) ?_
        refine lv_iadd hx hb dd_Mo_respond_20 ?_
        refine mw_topi (y := nI ((60 * a) + e0)) (nI_add _ _) ?_
        refine lv_istore (lv' := [(4, .int (nI ((60 * a) + e0))), (3, .int (nI e0)), (0, .ref mm), (1, .int (nI a)), (2, .int (sel))]) hx hb dd_Mo_respond_21 hl (by decide) rfl (fun ls hl => ?_)
        refine lv_aload_n hx hb dd_Mo_respond_23 rfl (lv_at hl 2 rfl) ?_
        refine gf_Mo_54 E hM hR.m ((mo_at (by decide)).trans (congrArg some (mq_va rfl))) dd_Mo_respond_24 ?_
        have w26 : M1 (ra 26) = some (.inl (D.1 100, 180, .inl (A1 26))) := hR.w 26 rfl (by decide)
        refine lv_iload hx hb dd_Mo_respond_27 (lv_at hl 0 rfl) ?_
        refine mw_iald hx hb E.K hM 0 w26 rfl (vp_in_nI (by omega) (by omega)) dd_Mo_respond_29 ?_
        refine mw_topi (y := (A1 26) ((60 * a) + e0)) (by rw [nI_clamp (by omega)]) ?_
        refine mw_topi (y := A 26 (60 * a + e0)) (by rw [hA 26 (by decide)]) ?_
        refine lv_if_le (tgt := 80) hx hb dd_Mo_respond_30 (by decide) (fun h30 => ?_) (fun h30 => ?_)
        ·
          refine lv_iinc (k := 1) (v := nI (e0 + 1)) (lv' := [(3, .int (nI (e0 + 1))), (4, .int (nI ((60 * a) + e0))), (0, .ref mm), (1, .int (nI a)), (2, .int (sel))]) hx hb dd_Mo_respond_80 hl rfl (nI_1 _) (by decide) rfl (fun ls hl => ?_)
          refine lv_goto (tgt := 7) hx hb dd_Mo_respond_83 (by decide) ?_
          exact ih (e0 + 1) V1 A1 M1 H locs ls (by omega) hR (by rw [hV, mq_rs_n (by unfold mq_p; rw [decide_eq_false (fun q => Int32.not_lt.mpr h30 q)]; rfl)]) hA (by rw [mq_rs_n (by unfold mq_p; rw [decide_eq_false (fun q => Int32.not_lt.mpr h30 q)]; rfl)]; exact hfd) hF hM hS (lv_sub hl [0, 2, 3, 4] rfl)
        ·
          refine lv_aload_n hx hb dd_Mo_respond_33 rfl (lv_at hl 2 rfl) ?_
          refine gf_Mo_39 E hM hR.m ((mo_at (by decide)).trans (congrArg some (mq_va rfl))) dd_Mo_respond_34 ?_
          have w19 : M1 (ra 19) = some (.inl (D.1 100, 60, .inl (A1 19))) := hR.w 19 rfl (by decide)
          refine lv_iload_n hx hb dd_Mo_respond_37 rfl (lv_at hl 1 rfl) ?_
          refine mw_iald hx hb E.K hM 0 w19 rfl (vp_in_nI (by omega) (by omega)) dd_Mo_respond_38 ?_
          refine mw_topi (y := (A1 19) e0) (by rw [nI_clamp (by omega)]) ?_
          refine mw_topi (y := A 19 (e0)) (by rw [hA 19 (by decide)]) ?_
          refine lv_iload_n hx hb dd_Mo_respond_39 rfl (lv_at hl 4 rfl) ?_
          refine lv_iconst (v := -1) hx hb dd_Mo_respond_40 (by decide) ?_
          refine lv_ixor hx hb dd_Mo_respond_41 ?_
          refine lv_iand hx hb dd_Mo_respond_42 ?_
          refine lv_if_ne (tgt := 80) hx hb dd_Mo_respond_43 (by decide) (fun h43 => ?_) (fun h43 => ?_)
          ·
            refine lv_iinc (k := 1) (v := nI (e0 + 1)) (lv' := [(3, .int (nI (e0 + 1))), (4, .int (nI ((60 * a) + e0))), (0, .ref mm), (1, .int (nI a)), (2, .int (sel))]) hx hb dd_Mo_respond_80 hl rfl (nI_1 _) (by decide) rfl (fun ls hl => ?_)
            refine lv_goto (tgt := 7) hx hb dd_Mo_respond_83 (by decide) ?_
            exact ih (e0 + 1) V1 A1 M1 H locs ls (by omega) hR (by rw [hV, mq_rs_n (by unfold mq_p; rw [decide_eq_false h43, Bool.and_false]; rfl)]) hA (by rw [mq_rs_n (by unfold mq_p; rw [decide_eq_false h43, Bool.and_false]; rfl)]; exact hfd) hF hM hS (lv_sub hl [0, 2, 3, 4] rfl)
          ·
            refine lv_aload_n hx hb dd_Mo_respond_46 rfl (lv_at hl 2 rfl) ?_
            refine gf_Mo_63 E hM hR.m ((mo_at (by decide)).trans (congrArg some (mq_va rfl))) dd_Mo_respond_47 ?_
            have w29 : M1 (ra 29) = some (.inl (D.1 100, 180, .inl (A1 29))) := hR.w 29 rfl (by decide)
            refine lv_iload hx hb dd_Mo_respond_50 (lv_at hl 0 rfl) ?_
            refine mw_iald hx hb E.K hM 0 w29 rfl (vp_in_nI (by omega) (by omega)) dd_Mo_respond_52 ?_
            refine mw_topi (y := (A1 29) ((60 * a) + e0)) (by rw [nI_clamp (by omega)]) ?_
            refine mw_topi (y := A 29 (60 * a + e0)) (by rw [hA 29 (by decide)]) ?_
            refine lv_aload_n hx hb dd_Mo_respond_53 rfl (lv_at hl 2 rfl) ?_
            refine gf_Mo_180 E hM hR.m ((mo_at (by decide)).trans (congrArg some (mq_vi rfl rfl))) dd_Mo_respond_54 ?_
            refine mw_topi (y := V 1) (hv1) ?_
            refine lv_icmp_le (tgt := 80) hx hb dd_Mo_respond_57 (by decide) (fun h57 => ?_) (fun h57 => ?_)
            ·
              refine lv_iinc (k := 1) (v := nI (e0 + 1)) (lv' := [(3, .int (nI (e0 + 1))), (4, .int (nI ((60 * a) + e0))), (0, .ref mm), (1, .int (nI a)), (2, .int (sel))]) hx hb dd_Mo_respond_80 hl rfl (nI_1 _) (by decide) rfl (fun ls hl => ?_)
              refine lv_goto (tgt := 7) hx hb dd_Mo_respond_83 (by decide) ?_
              exact ih (e0 + 1) V1 A1 M1 H locs ls (by omega) hR (by rw [hV, mq_rs_n (by unfold mq_p; rw [decide_eq_false (fun q => Int32.not_lt.mpr h57 q), Bool.and_false])]) hA (by rw [mq_rs_n (by unfold mq_p; rw [decide_eq_false (fun q => Int32.not_lt.mpr h57 q), Bool.and_false])]; exact hfd) hF hM hS (lv_sub hl [0, 2, 3, 4] rfl)
            ·
              have hp9 : mq_p A (V 1) a sel e0 = true := by
                unfold mq_p
                rw [decide_eq_true (Int32.not_le.mp h30), decide_eq_true h43, decide_eq_true (Int32.not_le.mp h57)]
                rfl
              have hl12 : (mq_rs A (V 1) a sel e0).length + 1 ≤ 12 := by
                have h9 := mq_rs_le (A := A) (clk := V 1) (a := a) (sel := sel) (mk - (e0 + 1)) (e0 + 1)
                rw [show e0 + 1 + (mk - (e0 + 1)) = mk by omega, mq_rs_y hp9, List.length_append, List.length_singleton] at h9
                omega
              refine lv_aload_n hx hb dd_Mo_respond_60 rfl (lv_at hl 2 rfl) ?_
              refine gf_Mo_102 E hM hR.m ((mo_at (by decide)).trans (congrArg some (mq_va rfl))) dd_Mo_respond_61 ?_
              have w47 : M1 (ra 47) = some (.inl (D.1 100, 12, .inl (A1 47))) := hR.w 47 rfl (by decide)
              refine lv_aload_n hx hb dd_Mo_respond_64 rfl (lv_at hl 2 rfl) ?_
              refine gf_Mo_205 E hM hR.m ((mo_at (by decide)).trans (congrArg some (mq_vi rfl hv46))) dd_Mo_respond_65 ?_
              refine lv_iload_n hx hb dd_Mo_respond_68 rfl (lv_at hl 1 rfl) ?_
              have w47 : M1 (ra 47) = some (.inl (D.1 100, 12, .inl (A1 47))) := hR.w 47 rfl (by decide)
              refine mw_iast hx hb E.K hM E.zz hS 0 w47 rfl (vp_in_nI (by omega) (by omega)) dd_Mo_respond_69 (fun H locs hM hS => ?_)
              rw [nI_clamp (by omega)] at hM
              have hM : mw_at D mg_cl z (va_up M1 (ra 47) (some (.inl (D.1 100, 12, .inl ((upd (A1 47) ((mq_rs A (V 1) a sel e0).length) (nI e0))))))) H := hM
              obtain ⟨M1, hM1⟩ : ∃ M9 : mw_M, M9 = va_up M1 (ra 47) (some (.inl (D.1 100, 12, .inl ((upd (A1 47) ((mq_rs A (V 1) a sel e0).length) (nI e0)))))) := ⟨_, rfl⟩
              rw [← hM1] at hM
              obtain ⟨A2, hA2⟩ : ∃ A9 : Nat → Nat → Int32, A9 = va_up A1 47 (upd (A1 47) ((mq_rs A (V 1) a sel e0).length) (nI e0)) := ⟨_, rfl⟩
              have hR := hR.setA 47 rfl (by decide) hM1 hA2
              have hF := mw_fu hM1 hF (mq_Pa (k := 47) rfl)
              refine lv_aload_n hx hb dd_Mo_respond_70 rfl (lv_at hl 2 rfl) ?_
              refine lv_dup hx hb dd_Mo_respond_71 rfl ?_
              refine gf_Mo_205 E hM hR.m ((mo_at (by decide)).trans (congrArg some (mq_vi rfl hv46))) dd_Mo_respond_72 ?_
              refine lv_iconst (v := nI 1) hx hb dd_Mo_respond_75 (by decide) ?_
              refine lv_iadd hx hb dd_Mo_respond_76 ?_
              refine mw_topi (y := nI (((mq_rs A (V 1) a sel e0).length) + 1)) (nI_add _ _) ?_
              refine pf_Mo_205 E hM hS hR.m (by rw [mo_len]; decide) dd_Mo_respond_77 (fun H locs hM hS => ?_)
              rw [mo_set (by decide), mq_vu rfl] at hM
              obtain ⟨V3, hV3⟩ : ∃ V9 : Nat → Int32, V9 = va_up V1 46 (nI (((mq_rs A (V 1) a sel e0).length) + 1)) := ⟨_, rfl⟩
              rw [← hV3] at hM
              obtain ⟨M1, hM1⟩ : ∃ M9 : mw_M, M9 = va_up M1 mm (some (.inr (13, mo_l (mq_v ra V3)))) := ⟨_, rfl⟩
              rw [← hM1] at hM
              have hR := hR.setV hM1
              have hF := mw_fu hM1 hF (Or.inl rfl)
              have hv15 := mq_vn hV3 hv15 (by decide)
              have hv46 := mq_vs hV3
              refine lv_iinc (k := 1) (v := nI (e0 + 1)) (lv' := [(3, .int (nI (e0 + 1))), (4, .int (nI ((60 * a) + e0))), (0, .ref mm), (1, .int (nI a)), (2, .int (sel))]) hx hb dd_Mo_respond_80 hl rfl (nI_1 _) (by decide) rfl (fun ls hl => ?_)
              refine lv_goto (tgt := 7) hx hb dd_Mo_respond_83 (by decide) ?_
              refine ih (e0 + 1) _ _ M1 H locs ls (by omega) hR (by rw [hV3, hV, mq_rs_y hp9, List.length_append]; funext k; unfold va_up; by_cases e9 : k = 46 <;> simp only [e9, if_true, if_false]; rfl) (fun k hk => by rw [hA2, va_up_ne _ _ hk]; exact hA k hk) ?_ hF hM hS (lv_sub hl [0, 2, 3, 4] rfl)
              intro i e h
              rw [mq_rs_y hp9] at h
              rw [hA2, va_up_self]
              unfold upd
              by_cases e9 : i = (mq_rs A (V 1) a sel e0).length
              · rw [if_pos e9]
                rw [e9, List.getElem?_concat_length] at h
                cases h
                rfl
              · rw [if_neg e9]
                have hl9 := (List.getElem?_eq_some_iff.mp h).1
                rw [List.length_append, List.length_singleton] at hl9
                rw [List.getElem?_append_left (by omega)] at h
                exact hfd i e h
  exact loop7 mk 0 V1 A M1 H locs ls (by omega) hR hV1 (fun _ _ => rfl) (fun i e h => by have h9 : ([] : List Nat)[i]? = some e := h; rw [List.getElem?_nil] at h9; cases h9) hF hM hS (lv_sub hl [0, 1, 2, 3] rfl)
theorem cc_Mo_foreignFor (l : Launch) (D : va_G) (z : Nat) (M : mw_M) (mm : Nat) (ra : Nat → Nat) (V : Nat → Int32) (A : Nat → Nat → Int32) (S : Nat → Int64) (a : Nat) (L : List Nat) (hR : mq_R D M mm ra V A S) (ha0 : a < 3) (hfd : mq_fd V A L) : mw_C l yy_Mo_foreignFor bb_Mo_foreignFor 4 (Option.some Jvm.ClassFile.FieldType.int) 0 0 0 0 D z M [.ref mm, .int (nI a)] (fun v M' => v = some (.int (mf_or A L &&& A 32 a)) ∧ M' = M) := by
  refine mw_of (by decide) (Nat.le_of_ble_eq_true rfl) ?_
  intro p e s m below meth c ls E hr hk hnm hM hl
  have hx := E.x
  have hb := E.b
  have E : mw_E p m c bb_Mo_foreignFor 4 s _ D z "IdentityIssuerModel" := E
  have hl : lv_has ls 4 [(0, .ref mm), (1, .int (nI a))] := hl
  have hS : va_S (mw_A z) s.heap s.heap [] := va_S.rf
  obtain ⟨hv46, hl12, hfe, h60⟩ := hfd
  refine lv_iconst (v := nI 0) hx hb dd_Mo_foreignFor_0 (by decide) ?_
  refine lv_istore_n (lv' := [(2, .int (nI 0)), (0, .ref mm), (1, .int (nI a))]) hx hb dd_Mo_foreignFor_1 rfl hl (by decide) rfl (fun ls hl => ?_)
  refine lv_iconst (v := nI 0) hx hb dd_Mo_foreignFor_2 (by decide) ?_
  refine lv_istore_n (lv' := [(3, .int (nI 0)), (2, .int (nI 0)), (0, .ref mm), (1, .int (nI a))]) hx hb dd_Mo_foreignFor_3 rfl hl (by decide) rfl (fun ls hl => ?_)
  have loop4 : ∀ (d9 : Nat) (i : Nat) (u : Int32) (H : Heap) (locs : List Loc) (ls : Array Slot), i + d9 = L.length → u = mf_or A (L.take i) → mw_at D mg_cl z M H → va_S (mw_A z) s.heap H locs → lv_has ls 4 [(2, .int (u)), (3, .int (nI i)), (0, .ref mm), (1, .int (nI a))] → W p l e ({ frames := 0, cells := 0, slots := 0, locals := 0 } : Room) s m ([.ref mm, .int (nI a)] : List Value).toArray below meth c H locs (0) (0) (MQ below (mw_Q D z (fun v M' => v = some (.int (mf_or A L &&& A 32 a)) ∧ M' = M)) ([.ref mm, .int (nI a)] : List Value).toArray s 0 0 (mw_A z)) (F0 m 4 ls []) := by
    intro d9
    induction d9 with
    | zero =>
      intro i u H locs ls hj hu hM hS hl
      refine lv_iload_n hx hb dd_Mo_foreignFor_4 rfl (lv_at hl 1 rfl) ?_
      refine lv_aload_n hx hb dd_Mo_foreignFor_5 rfl (lv_at hl 2 rfl) ?_
      refine gf_Mo_205 E hM hR.m ((mo_at (by decide)).trans (congrArg some (mq_vi rfl hv46))) dd_Mo_foreignFor_6 ?_
      refine lv_icmp_ge (tgt := 32) hx hb dd_Mo_foreignFor_9 (by decide) (fun h9 => ?_) (fun h9 => ?_)
      ·
        rw [nI_leI (by omega) (by omega)] at h9
        refine lv_iload_n hx hb dd_Mo_foreignFor_32 rfl (lv_at hl 0 rfl) ?_
        refine lv_aload_n hx hb dd_Mo_foreignFor_33 rfl (lv_at hl 2 rfl) ?_
        refine gf_Mo_72 E hM hR.m ((mo_at (by decide)).trans (congrArg some (mq_va rfl))) dd_Mo_foreignFor_34 ?_
        have w32 : M (ra 32) = some (.inl (D.1 100, 3, .inl (A 32))) := hR.w 32 rfl (by decide)
        refine lv_iload_n hx hb dd_Mo_foreignFor_37 rfl (lv_at hl 3 rfl) ?_
        refine mw_iald hx hb E.K hM 0 w32 rfl (vp_in_nI (by omega) (by omega)) dd_Mo_foreignFor_38 ?_
        refine mw_topi (y := (A 32) a) (by rw [nI_clamp (by omega)]) ?_
        refine lv_iand hx hb dd_Mo_foreignFor_39 ?_
        refine mr_i E hr hk hM hS (by decide) (by decide) ?_ dd_Mo_foreignFor_40
        exact ⟨by rw [hu, show i = L.length by omega, List.take_length], rfl⟩
      ·
        rw [nI_leI (by omega) (by omega)] at h9
        omega
    | succ d9 ih =>
      intro i u H locs ls hj hu hM hS hl
      refine lv_iload_n hx hb dd_Mo_foreignFor_4 rfl (lv_at hl 1 rfl) ?_
      refine lv_aload_n hx hb dd_Mo_foreignFor_5 rfl (lv_at hl 2 rfl) ?_
      refine gf_Mo_205 E hM hR.m ((mo_at (by decide)).trans (congrArg some (mq_vi rfl hv46))) dd_Mo_foreignFor_6 ?_
      refine lv_icmp_ge (tgt := 32) hx hb dd_Mo_foreignFor_9 (by decide) (fun h9 => ?_) (fun h9 => ?_)
      ·
        rw [nI_leI (by omega) (by omega)] at h9
        omega
      ·
        rw [nI_leI (by omega) (by omega)] at h9
        refine lv_iload_n hx hb dd_Mo_foreignFor_12 rfl (lv_at hl 0 rfl) ?_
        refine lv_aload_n hx hb dd_Mo_foreignFor_13 rfl (lv_at hl 2 rfl) ?_
        refine gf_Mo_45 E hM hR.m ((mo_at (by decide)).trans (congrArg some (mq_va rfl))) dd_Mo_foreignFor_14 ?_
        have w21 : M (ra 21) = some (.inl (D.1 100, 60, .inl (A 21))) := hR.w 21 rfl (by decide)
        refine lv_aload_n hx hb dd_Mo_foreignFor_17 rfl (lv_at hl 2 rfl) ?_
        refine gf_Mo_102 E hM hR.m ((mo_at (by decide)).trans (congrArg some (mq_va rfl))) dd_Mo_foreignFor_18 ?_
        have w47 : M (ra 47) = some (.inl (D.1 100, 12, .inl (A 47))) := hR.w 47 rfl (by decide)
        refine lv_iload_n hx hb dd_Mo_foreignFor_21 rfl (lv_at hl 1 rfl) ?_
        refine mw_iald hx hb E.K hM 0 w47 rfl (vp_in_nI (by omega) (by omega)) dd_Mo_foreignFor_22 ?_
        refine mw_topi (y := (A 47) i) (by rw [nI_clamp (by omega)]) ?_
        obtain ⟨en, he⟩ : ∃ en, L[i]? = some en := ⟨_, List.getElem?_eq_getElem (by omega)⟩
        have he60 := h60 en (List.mem_of_getElem? he)
        refine mw_topi (y := nI en) (hfe i en he) ?_
        refine mw_iald hx hb E.K hM 0 w21 rfl (vp_in_nI (by omega) (by omega)) dd_Mo_foreignFor_23 ?_
        refine mw_topi (y := (A 21) en) (by rw [nI_clamp (by omega)]) ?_
        refine lv_ior hx hb dd_Mo_foreignFor_24 ?_
        refine lv_istore_n (lv' := [(2, .int (u ||| ((A 21) en))), (3, .int (nI i)), (0, .ref mm), (1, .int (nI a))]) hx hb dd_Mo_foreignFor_25 rfl hl (by decide) rfl (fun ls hl => ?_)
        refine lv_iinc (k := 1) (v := nI (i + 1)) (lv' := [(3, .int (nI (i + 1))), (2, .int (u ||| ((A 21) en))), (0, .ref mm), (1, .int (nI a))]) hx hb dd_Mo_foreignFor_26 hl rfl (nI_1 _) (by decide) rfl (fun ls hl => ?_)
        refine lv_goto (tgt := 4) hx hb dd_Mo_foreignFor_29 (by decide) ?_
        exact ih (i + 1) _ H locs ls (by omega) (by rw [mf_or_s he, ← hu]) hM hS (lv_sub hl [1, 0, 2, 3] rfl)
  exact loop4 L.length 0 _ s.heap [] ls (by omega) rfl hM hS (lv_sub hl [1, 0, 2, 3] rfl)
