/-! the IDs that were read, in the reference -/
def mi_at (V : Nat → Int32) (A : Nat → Nat → Int32) (ic : Nat) (Ln Dn : Nat → Nat) (G : Nat → Nat → Nat) : Prop := V 4 = nI ic ∧ ∀ j : Nat, j < ic → A 6 j = nI (Ln j) ∧ A 7 j = nI (Dn j) ∧ ∀ i : Nat, i < Ln j → A 5 (40 * j + i) = nI (G j i)
theorem mq_R.of8 {D : va_G} {M M1 : mw_M} {mm : Nat} {ra : Nat → Nat} {V : Nat → Int32} {A : Nat → Nat → Int32} {S : Nat → Int64} {G : Nat → Value} {x : Int32} (h : mq_R D M mm ra V A S) (hF : mw_fr (fun q => q = mm) M M1) (hm : M1 mm = some (.inr (13, mo_l G))) (hg : ∀ j : Nat, j ≠ 8 → G j = mq_v ra V j) (h8 : G 8 = .int x) : mq_R D M1 mm ra (va_up V 8 x) A S := by
  have e : G = mq_v ra (va_up V 8 x) := by
    funext j
    by_cases e : j = 8
    · subst e
      rw [h8]
      exact (mq_vi rfl (va_up_self _ _ _)).symm
    · rw [hg j e]
      unfold mq_v
      rw [va_up_ne _ _ e]
  rw [e] at hm
  exact ⟨hm, fun k hk h13 => hF.at (h.2.1 k hk h13) (h.ne k hk), hF.at h.2.2.1 (h.ne 13 rfl), h.2.2.2⟩
theorem cc_Mo_isId (l : Launch) (D : va_G) (z : Nat) (M : mw_M) (mm : Nat) (ra : Nat → Nat) (V : Nat → Int32) (A : Nat → Nat → Int32) (S : Nat → Int64) (ic : Nat) (Ln Dn : Nat → Nat) (G : Nat → Nat → Nat) (i n : Nat) (g : Nat → Nat) (hR : mq_R D M mm ra V A S) (hJ : mi_at V A ic Ln Dn G) (hO : id_ok ic Ln Dn G) (hi : i < ic) (hn : n ≤ 100) (hbf : ∀ q : Nat, q < n → A 2 q = nI (g q) ∧ g q < 256) : mw_C l yy_Mo_isId bb_Mo_isId 5 (Option.some Jvm.ClassFile.FieldType.boolean) 0 0 0 0 D z M [.ref mm, .int (nI i), .int (nI n)] (fun v M' => ∃ bb : Bool, v = some (.int (zI bb)) ∧ (bb = true ↔ id_same n g Ln G i) ∧ M' = M) := by
  refine mw_of (by decide) (Nat.le_of_ble_eq_true rfl) ?_
  intro p e s m below meth c ls E hr hk hnm hM hl
  have hx := E.x
  have hb := E.b
  have E : mw_E p m c bb_Mo_isId 5 s _ D z "IdentityIssuerModel" := E
  have hl : lv_has ls 5 [(0, .ref mm), (1, .int (nI i)), (2, .int (nI n))] := hl
  have hS : va_S (mw_A z) s.heap s.heap [] := va_S.rf
  obtain ⟨hic, hO⟩ := hO
  obtain ⟨o1, o2, o3, o4, o5⟩ := hO i hi
  obtain ⟨j1, j2, j3⟩ := hJ.2 i hi
  refine lv_aload_n hx hb dd_Mo_isId_0 rfl (lv_at hl 0 rfl) ?_
  refine gf_Mo_16 E hM hR.m ((mo_at (by decide)).trans (congrArg some (mq_va rfl))) dd_Mo_isId_1 ?_
  have w6 : M (ra 6) = some (.inl (D.1 100, 12, .inl (A 6))) := hR.w 6 rfl (by decide)
  refine lv_iload_n hx hb dd_Mo_isId_4 rfl (lv_at hl 1 rfl) ?_
  refine mw_iald hx hb E.K hM 0 w6 rfl (vp_in_nI (by omega) (by omega)) dd_Mo_isId_5 ?_
  refine mw_topi (y := (A 6) i) (by rw [nI_clamp (by omega)]) ?_
  refine mw_topi (y := nI (Ln i)) (j1) ?_
  refine lv_iload_n hx hb dd_Mo_isId_6 rfl (lv_at hl 2 rfl) ?_
  refine lv_icmp_ne (tgt := 14) hx hb dd_Mo_isId_7 (by decide) (fun h7 => ?_) (fun h7 => ?_)
  ·
    rw [nI_eq (by omega) (by omega)] at h7
    refine lv_iconst (v := nI 0) hx hb dd_Mo_isId_14 (by decide) ?_
    refine mw_topi (y := zI false) (rfl) ?_
    refine lv_istore_n (lv' := [(3, .int (zI false)), (0, .ref mm), (1, .int (nI i)), (2, .int (nI n))]) hx hb dd_Mo_isId_15 rfl hl (by decide) rfl (fun ls hl => ?_)
    refine lv_iconst (v := nI 0) hx hb dd_Mo_isId_16 (by decide) ?_
    refine lv_istore (lv' := [(4, .int (nI 0)), (3, .int (zI false)), (0, .ref mm), (1, .int (nI i)), (2, .int (nI n))]) hx hb dd_Mo_isId_17 hl (by decide) rfl (fun ls hl => ?_)
    have loop19 : ∀ (d9 : Nat) (p0 : Nat) (fl : Bool) (H : Heap) (locs : List Loc) (ls : Array Slot), p0 + d9 = n → (fl = true ↔ (Ln i = n ∧ ∀ q : Nat, q < p0 → G i q = g q)) → mw_at D mg_cl z M H → va_S (mw_A z) s.heap H locs → lv_has ls 5 [(4, .int (nI p0)), (3, .int (zI fl)), (0, .ref mm), (1, .int (nI i)), (2, .int (nI n))] → W p l e ({ frames := 0, cells := 0, slots := 0, locals := 0 } : Room) s m ([.ref mm, .int (nI i), .int (nI n)] : List Value).toArray below meth c H locs (0) (0) (MQ below (mw_Q D z (fun v M' => ∃ bb : Bool, v = some (.int (zI bb)) ∧ (bb = true ↔ id_same n g Ln G i) ∧ M' = M)) ([.ref mm, .int (nI i), .int (nI n)] : List Value).toArray s 0 0 (mw_A z)) (F0 m 19 ls []) := by
      intro d9
      induction d9 with
      | zero =>
        intro p0 fl H locs ls hp hfl hM hS hl
        refine lv_iload hx hb dd_Mo_isId_19 (lv_at hl 0 rfl) ?_
        refine lv_iload_n hx hb dd_Mo_isId_21 rfl (lv_at hl 4 rfl) ?_
        refine lv_icmp_ge (tgt := 63) hx hb dd_Mo_isId_22 (by decide) (fun h22 => ?_) (fun h22 => ?_)
        ·
          rw [nI_leI (by omega) (by omega)] at h22
          refine lv_iload_n hx hb dd_Mo_isId_63 rfl (lv_at hl 1 rfl) ?_
          refine mr_z E hr hk hM hS (by decide) (by decide) (zI_z _) ?_ dd_Mo_isId_64
          exact ⟨fl, rfl, ⟨fun q => ⟨(hfl.mp q).1, fun q9 h9 => (hfl.mp q).2 q9 (by omega)⟩, fun q => hfl.mpr ⟨q.1, fun q9 h9 => q.2 q9 (by omega)⟩⟩, rfl⟩
        ·
          rw [nI_leI (by omega) (by omega)] at h22
          omega
      | succ d9 ih =>
        intro p0 fl H locs ls hp hfl hM hS hl
        refine lv_iload hx hb dd_Mo_isId_19 (lv_at hl 0 rfl) ?_
        refine lv_iload_n hx hb dd_Mo_isId_21 rfl (lv_at hl 4 rfl) ?_
        refine lv_icmp_ge (tgt := 63) hx hb dd_Mo_isId_22 (by decide) (fun h22 => ?_) (fun h22 => ?_)
        ·
          rw [nI_leI (by omega) (by omega)] at h22
          omega
        ·
          rw [nI_leI (by omega) (by omega)] at h22
          refine lv_iload_n hx hb dd_Mo_isId_25 rfl (lv_at hl 1 rfl) ?_
          refine lv_if_eq (tgt := 63) hx hb dd_Mo_isId_26 (by decide) (fun h26 => ?_) (fun h26 => ?_)
          ·
            refine lv_iload_n hx hb dd_Mo_isId_63 rfl (lv_at hl 1 rfl) ?_
            refine mr_z E hr hk hM hS (by decide) (by decide) (zI_z _) ?_ dd_Mo_isId_64
            exact ⟨fl, rfl, ⟨fun q => absurd q (by rw [zI_0.mp h26]; decide), fun q => hfl.mpr ⟨q.1, fun q9 h9 => q.2 q9 (by omega)⟩⟩, rfl⟩
          ·
            have hft := hfl.mp (Bool.of_not_eq_false (fun q => h26 (zI_0.mpr q)))
            refine lv_aload_n hx hb dd_Mo_isId_29 rfl (lv_at hl 2 rfl) ?_
            refine gf_Mo_13 E hM hR.m ((mo_at (by decide)).trans (congrArg some (mq_va rfl))) dd_Mo_isId_30 ?_
            have w5 : M (ra 5) = some (.inl (D.1 100, 480, .inl (A 5))) := hR.w 5 rfl (by decide)
            refine lv_bipush (v := nI 40) hx hb dd_Mo_isId_33 (by decide) ?_
            refine lv_iload_n hx hb dd_Mo_isId_35 rfl (lv_at hl 3 rfl) ?_
            refine lv_imul hx hb dd_Mo_isId_36 ?_
            refine mw_topi (y := nI (40 * i)) (pk_mul _ _) ?_
            refine lv_iload hx hb dd_Mo_isId_37 (lv_at hl 0 rfl) ?_
            refine lv_iadd hx hb dd_Mo_isId_39 ?_
            refine mw_topi (y := nI ((40 * i) + p0)) (nI_add _ _) ?_
            refine mw_iald hx hb E.K hM 0 w5 rfl (vp_in_nI (by omega) (by omega)) dd_Mo_isId_40 ?_
            refine mw_topi (y := (A 5) ((40 * i) + p0)) (by rw [nI_clamp (by omega)]) ?_
            have hb8 := o4 p0 (by omega)
            refine mw_topi (y := nI (G i p0)) (j3 p0 (by omega)) ?_
            refine lv_aload_n hx hb dd_Mo_isId_41 rfl (lv_at hl 2 rfl) ?_
            refine gf_Mo_7 E hM hR.m ((mo_at (by decide)).trans (congrArg some (mq_va rfl))) dd_Mo_isId_42 ?_
            have w2 : M (ra 2) = some (.inl (D.1 100, 100, .inl (A 2))) := hR.w 2 rfl (by decide)
            refine lv_iload hx hb dd_Mo_isId_45 (lv_at hl 0 rfl) ?_
            refine mw_iald hx hb E.K hM 0 w2 rfl (vp_in_nI (by omega) (by omega)) dd_Mo_isId_47 ?_
            refine mw_topi (y := (A 2) p0) (by rw [nI_clamp (by omega)]) ?_
            have hb7 := (hbf p0 (by omega)).2
            refine mw_topi (y := nI (g p0)) ((hbf p0 (by omega)).1) ?_
            refine lv_icmp_ne (tgt := 55) hx hb dd_Mo_isId_48 (by decide) (fun h48 => ?_) (fun h48 => ?_)
            ·
              rw [nI_eq (by omega) (by omega)] at h48
              refine lv_iconst (v := nI 0) hx hb dd_Mo_isId_55 (by decide) ?_
              refine mw_topi (y := zI false) (rfl) ?_
              refine lv_istore_n (lv' := [(3, .int (zI false)), (4, .int (nI p0)), (0, .ref mm), (1, .int (nI i)), (2, .int (nI n))]) hx hb dd_Mo_isId_56 rfl hl (by decide) rfl (fun ls hl => ?_)
              refine lv_iinc (k := 1) (v := nI (p0 + 1)) (lv' := [(4, .int (nI (p0 + 1))), (3, .int (zI false)), (0, .ref mm), (1, .int (nI i)), (2, .int (nI n))]) hx hb dd_Mo_isId_57 hl rfl (nI_1 _) (by decide) rfl (fun ls hl => ?_)
              refine lv_goto (tgt := 19) hx hb dd_Mo_isId_60 (by decide) ?_
              exact ih (p0 + 1) false H locs ls (by omega) (⟨fun q => (by cases q), fun q => absurd (q.2 p0 (by omega)) h48⟩) hM hS (lv_sub hl [0, 1, 2, 3, 4] rfl)
            ·
              rw [nI_eq (by omega) (by omega)] at h48
              refine lv_iconst (v := nI 1) hx hb dd_Mo_isId_51 (by decide) ?_
              refine mw_topi (y := zI true) (rfl) ?_
              refine lv_goto (tgt := 56) hx hb dd_Mo_isId_52 (by decide) ?_
              refine lv_istore_n (lv' := [(3, .int (zI true)), (4, .int (nI p0)), (0, .ref mm), (1, .int (nI i)), (2, .int (nI n))]) hx hb dd_Mo_isId_56 rfl hl (by decide) rfl (fun ls hl => ?_)
              refine lv_iinc (k := 1) (v := nI (p0 + 1)) (lv' := [(4, .int (nI (p0 + 1))), (3, .int (zI true)), (0, .ref mm), (1, .int (nI i)), (2, .int (nI n))]) hx hb dd_Mo_isId_57 hl rfl (nI_1 _) (by decide) rfl (fun ls hl => ?_)
              refine lv_goto (tgt := 19) hx hb dd_Mo_isId_60 (by decide) ?_
              exact ih (p0 + 1) true H locs ls (by omega) (⟨fun _ => ⟨hft.1, fun q h => if e9 : q = p0 then (by rw [e9]; exact h48) else hft.2 q (by omega)⟩, fun _ => rfl⟩) hM hS (lv_sub hl [0, 1, 2, 3, 4] rfl)
    exact loop19 n 0 false s.heap [] ls (by omega) (⟨fun q => (by cases q), fun q => absurd q.1 h7⟩) hM hS (lv_sub hl [0, 1, 2, 3, 4] rfl)
  ·
    rw [nI_eq (by omega) (by omega)] at h7
    refine lv_iconst (v := nI 1) hx hb dd_Mo_isId_10 (by decide) ?_
    refine mw_topi (y := zI true) (rfl) ?_
    refine lv_goto (tgt := 15) hx hb dd_Mo_isId_11 (by decide) ?_
    refine lv_istore_n (lv' := [(3, .int (zI true)), (0, .ref mm), (1, .int (nI i)), (2, .int (nI n))]) hx hb dd_Mo_isId_15 rfl hl (by decide) rfl (fun ls hl => ?_)
    refine lv_iconst (v := nI 0) hx hb dd_Mo_isId_16 (by decide) ?_
    refine lv_istore (lv' := [(4, .int (nI 0)), (3, .int (zI true)), (0, .ref mm), (1, .int (nI i)), (2, .int (nI n))]) hx hb dd_Mo_isId_17 hl (by decide) rfl (fun ls hl => ?_)
    have loop19 : ∀ (d9 : Nat) (p0 : Nat) (fl : Bool) (H : Heap) (locs : List Loc) (ls : Array Slot), p0 + d9 = n → (fl = true ↔ (Ln i = n ∧ ∀ q : Nat, q < p0 → G i q = g q)) → mw_at D mg_cl z M H → va_S (mw_A z) s.heap H locs → lv_has ls 5 [(4, .int (nI p0)), (3, .int (zI fl)), (0, .ref mm), (1, .int (nI i)), (2, .int (nI n))] → W p l e ({ frames := 0, cells := 0, slots := 0, locals := 0 } : Room) s m ([.ref mm, .int (nI i), .int (nI n)] : List Value).toArray below meth c H locs (0) (0) (MQ below (mw_Q D z (fun v M' => ∃ bb : Bool, v = some (.int (zI bb)) ∧ (bb = true ↔ id_same n g Ln G i) ∧ M' = M)) ([.ref mm, .int (nI i), .int (nI n)] : List Value).toArray s 0 0 (mw_A z)) (F0 m 19 ls []) := by
      intro d9
      induction d9 with
      | zero =>
        intro p0 fl H locs ls hp hfl hM hS hl
        refine lv_iload hx hb dd_Mo_isId_19 (lv_at hl 0 rfl) ?_
        refine lv_iload_n hx hb dd_Mo_isId_21 rfl (lv_at hl 4 rfl) ?_
        refine lv_icmp_ge (tgt := 63) hx hb dd_Mo_isId_22 (by decide) (fun h22 => ?_) (fun h22 => ?_)
        ·
          rw [nI_leI (by omega) (by omega)] at h22
          refine lv_iload_n hx hb dd_Mo_isId_63 rfl (lv_at hl 1 rfl) ?_
          refine mr_z E hr hk hM hS (by decide) (by decide) (zI_z _) ?_ dd_Mo_isId_64
          exact ⟨fl, rfl, ⟨fun q => ⟨(hfl.mp q).1, fun q9 h9 => (hfl.mp q).2 q9 (by omega)⟩, fun q => hfl.mpr ⟨q.1, fun q9 h9 => q.2 q9 (by omega)⟩⟩, rfl⟩
        ·
          rw [nI_leI (by omega) (by omega)] at h22
          omega
      | succ d9 ih =>
        intro p0 fl H locs ls hp hfl hM hS hl
        refine lv_iload hx hb dd_Mo_isId_19 (lv_at hl 0 rfl) ?_
        refine lv_iload_n hx hb dd_Mo_isId_21 rfl (lv_at hl 4 rfl) ?_
        refine lv_icmp_ge (tgt := 63) hx hb dd_Mo_isId_22 (by decide) (fun h22 => ?_) (fun h22 => ?_)
        ·
          rw [nI_leI (by omega) (by omega)] at h22
          omega
        ·
          rw [nI_leI (by omega) (by omega)] at h22
          refine lv_iload_n hx hb dd_Mo_isId_25 rfl (lv_at hl 1 rfl) ?_
          refine lv_if_eq (tgt := 63) hx hb dd_Mo_isId_26 (by decide) (fun h26 => ?_) (fun h26 => ?_)
          ·
            refine lv_iload_n hx hb dd_Mo_isId_63 rfl (lv_at hl 1 rfl) ?_
            refine mr_z E hr hk hM hS (by decide) (by decide) (zI_z _) ?_ dd_Mo_isId_64
            exact ⟨fl, rfl, ⟨fun q => absurd q (by rw [zI_0.mp h26]; decide), fun q => hfl.mpr ⟨q.1, fun q9 h9 => q.2 q9 (by omega)⟩⟩, rfl⟩
          ·
            have hft := hfl.mp (Bool.of_not_eq_false (fun q => h26 (zI_0.mpr q)))
            refine lv_aload_n hx hb dd_Mo_isId_29 rfl (lv_at hl 2 rfl) ?_
            refine gf_Mo_13 E hM hR.m ((mo_at (by decide)).trans (congrArg some (mq_va rfl))) dd_Mo_isId_30 ?_
            have w5 : M (ra 5) = some (.inl (D.1 100, 480, .inl (A 5))) := hR.w 5 rfl (by decide)
            refine lv_bipush (v := nI 40) hx hb dd_Mo_isId_33 (by decide) ?_
            refine lv_iload_n hx hb dd_Mo_isId_35 rfl (lv_at hl 3 rfl) ?_
            refine lv_imul hx hb dd_Mo_isId_36 ?_
            refine mw_topi (y := nI (40 * i)) (pk_mul _ _) ?_
            refine lv_iload hx hb dd_Mo_isId_37 (lv_at hl 0 rfl) ?_
            refine lv_iadd hx hb dd_Mo_isId_39 ?_
            refine mw_topi (y := nI ((40 * i) + p0)) (nI_add _ _) ?_
            refine mw_iald hx hb E.K hM 0 w5 rfl (vp_in_nI (by omega) (by omega)) dd_Mo_isId_40 ?_
            refine mw_topi (y := (A 5) ((40 * i) + p0)) (by rw [nI_clamp (by omega)]) ?_
            have hb8 := o4 p0 (by omega)
            refine mw_topi (y := nI (G i p0)) (j3 p0 (by omega)) ?_
            refine lv_aload_n hx hb dd_Mo_isId_41 rfl (lv_at hl 2 rfl) ?_
            refine gf_Mo_7 E hM hR.m ((mo_at (by decide)).trans (congrArg some (mq_va rfl))) dd_Mo_isId_42 ?_
            have w2 : M (ra 2) = some (.inl (D.1 100, 100, .inl (A 2))) := hR.w 2 rfl (by decide)
            refine lv_iload hx hb dd_Mo_isId_45 (lv_at hl 0 rfl) ?_
            refine mw_iald hx hb E.K hM 0 w2 rfl (vp_in_nI (by omega) (by omega)) dd_Mo_isId_47 ?_
            refine mw_topi (y := (A 2) p0) (by rw [nI_clamp (by omega)]) ?_
            have hb7 := (hbf p0 (by omega)).2
            refine mw_topi (y := nI (g p0)) ((hbf p0 (by omega)).1) ?_
            refine lv_icmp_ne (tgt := 55) hx hb dd_Mo_isId_48 (by decide) (fun h48 => ?_) (fun h48 => ?_)
            ·
              rw [nI_eq (by omega) (by omega)] at h48
              refine lv_iconst (v := nI 0) hx hb dd_Mo_isId_55 (by decide) ?_
              refine mw_topi (y := zI false) (rfl) ?_
              refine lv_istore_n (lv' := [(3, .int (zI false)), (4, .int (nI p0)), (0, .ref mm), (1, .int (nI i)), (2, .int (nI n))]) hx hb dd_Mo_isId_56 rfl hl (by decide) rfl (fun ls hl => ?_)
              refine lv_iinc (k := 1) (v := nI (p0 + 1)) (lv' := [(4, .int (nI (p0 + 1))), (3, .int (zI false)), (0, .ref mm), (1, .int (nI i)), (2, .int (nI n))]) hx hb dd_Mo_isId_57 hl rfl (nI_1 _) (by decide) rfl (fun ls hl => ?_)
              refine lv_goto (tgt := 19) hx hb dd_Mo_isId_60 (by decide) ?_
              exact ih (p0 + 1) false H locs ls (by omega) (⟨fun q => (by cases q), fun q => absurd (q.2 p0 (by omega)) h48⟩) hM hS (lv_sub hl [0, 1, 2, 3, 4] rfl)
            ·
              rw [nI_eq (by omega) (by omega)] at h48
              refine lv_iconst (v := nI 1) hx hb dd_Mo_isId_51 (by decide) ?_
              refine mw_topi (y := zI true) (rfl) ?_
              refine lv_goto (tgt := 56) hx hb dd_Mo_isId_52 (by decide) ?_
              refine lv_istore_n (lv' := [(3, .int (zI true)), (4, .int (nI p0)), (0, .ref mm), (1, .int (nI i)), (2, .int (nI n))]) hx hb dd_Mo_isId_56 rfl hl (by decide) rfl (fun ls hl => ?_)
              refine lv_iinc (k := 1) (v := nI (p0 + 1)) (lv' := [(4, .int (nI (p0 + 1))), (3, .int (zI true)), (0, .ref mm), (1, .int (nI i)), (2, .int (nI n))]) hx hb dd_Mo_isId_57 hl rfl (nI_1 _) (by decide) rfl (fun ls hl => ?_)
              refine lv_goto (tgt := 19) hx hb dd_Mo_isId_60 (by decide) ?_
              exact ih (p0 + 1) true H locs ls (by omega) (⟨fun _ => ⟨hft.1, fun q h => if e9 : q = p0 then (by rw [e9]; exact h48) else hft.2 q (by omega)⟩, fun _ => rfl⟩) hM hS (lv_sub hl [0, 1, 2, 3, 4] rfl)
    exact loop19 n 0 true s.heap [] ls (by omega) (⟨fun _ => ⟨h7, fun q h => absurd h (by omega)⟩, fun _ => rfl⟩) hM hS (lv_sub hl [0, 1, 2, 3, 4] rfl)
theorem cc_Mo_ours (l : Launch) (D : va_G) (z : Nat) (M : mw_M) (mm : Nat) (ra : Nat → Nat) (V : Nat → Int32) (A : Nat → Nat → Int32) (S : Nat → Int64) (ic : Nat) (Ln Dn : Nat → Nat) (G : Nat → Nat → Nat) (i : Nat) (hR : mq_R D M mm ra V A S) (hJ : mi_at V A ic Ln Dn G) (hO : id_ok ic Ln Dn G) (hi : i < ic) : mw_C l yy_Mo_ours bb_Mo_ours 4 (Option.some Jvm.ClassFile.FieldType.boolean) 0 0 0 0 D z M [.ref mm, .int (nI i)] (fun v M' => ∃ bb : Bool, v = some (.int (zI bb)) ∧ (bb = true ↔ id_ours Dn G i) ∧ M' = M) := by
  refine mw_of (by decide) (Nat.le_of_ble_eq_true rfl) ?_
  intro p e s m below meth c ls E hr hk hnm hM hl
  have hx := E.x
  have hb := E.b
  have E : mw_E p m c bb_Mo_ours 4 s _ D z "IdentityIssuerModel" := E
  have hl : lv_has ls 4 [(0, .ref mm), (1, .int (nI i))] := hl
  have hS : va_S (mw_A z) s.heap s.heap [] := va_S.rf
  obtain ⟨hic, hO⟩ := hO
  obtain ⟨o1, o2, o3, o4, o5⟩ := hO i hi
  obtain ⟨j1, j2, j3⟩ := hJ.2 i hi
  obtain ⟨z1, z2, z3, z4, z5⟩ := hO 0 (by omega)
  obtain ⟨y1, y2, y3⟩ := hJ.2 0 (by omega)
  refine lv_aload_n hx hb dd_Mo_ours_0 rfl (lv_at hl 0 rfl) ?_
  refine gf_Mo_19 E hM hR.m ((mo_at (by decide)).trans (congrArg some (mq_va rfl))) dd_Mo_ours_1 ?_
  have w7 : M (ra 7) = some (.inl (D.1 100, 12, .inl (A 7))) := hR.w 7 rfl (by decide)
  refine lv_iload_n hx hb dd_Mo_ours_4 rfl (lv_at hl 1 rfl) ?_
  refine mw_iald hx hb E.K hM 0 w7 rfl (vp_in_nI (by omega) (by omega)) dd_Mo_ours_5 ?_
  refine mw_topi (y := (A 7) i) (by rw [nI_clamp (by omega)]) ?_
  refine mw_topi (y := nI (Dn i)) (j2) ?_
  refine lv_aload_n hx hb dd_Mo_ours_6 rfl (lv_at hl 0 rfl) ?_
  refine gf_Mo_19 E hM hR.m ((mo_at (by decide)).trans (congrArg some (mq_va rfl))) dd_Mo_ours_7 ?_
  have w7 : M (ra 7) = some (.inl (D.1 100, 12, .inl (A 7))) := hR.w 7 rfl (by decide)
  refine lv_iconst (v := nI 0) hx hb dd_Mo_ours_10 (by decide) ?_
  refine mw_iald hx hb E.K hM 0 w7 rfl (vp_in_nI (by omega) (by omega)) dd_Mo_ours_11 ?_
  refine mw_topi (y := (A 7) 0) (by rw [nI_clamp (by omega)]) ?_
  refine mw_topi (y := nI (Dn 0)) (y2) ?_
  refine lv_icmp_ne (tgt := 19) hx hb dd_Mo_ours_12 (by decide) (fun h12 => ?_) (fun h12 => ?_)
  ·
    rw [nI_eq (by omega) (by omega)] at h12
    refine lv_iconst (v := nI 0) hx hb dd_Mo_ours_19 (by decide) ?_
    refine mw_topi (y := zI false) (rfl) ?_
    refine lv_istore_n (lv' := [(2, .int (zI false)), (0, .ref mm), (1, .int (nI i))]) hx hb dd_Mo_ours_20 rfl hl (by decide) rfl (fun ls hl => ?_)
    refine lv_iconst (v := nI 0) hx hb dd_Mo_ours_21 (by decide) ?_
    refine lv_istore_n (lv' := [(3, .int (nI 0)), (2, .int (zI false)), (0, .ref mm), (1, .int (nI i))]) hx hb dd_Mo_ours_22 rfl hl (by decide) rfl (fun ls hl => ?_)
    have loop23 : ∀ (d9 : Nat) (p0 : Nat) (fl : Bool) (H : Heap) (locs : List Loc) (ls : Array Slot), p0 + d9 = Dn i → (fl = true ↔ (Dn i = Dn 0 ∧ ∀ q : Nat, q < p0 → G i q = G 0 q)) → mw_at D mg_cl z M H → va_S (mw_A z) s.heap H locs → lv_has ls 4 [(3, .int (nI p0)), (2, .int (zI fl)), (0, .ref mm), (1, .int (nI i))] → W p l e ({ frames := 0, cells := 0, slots := 0, locals := 0 } : Room) s m ([.ref mm, .int (nI i)] : List Value).toArray below meth c H locs (0) (0) (MQ below (mw_Q D z (fun v M' => ∃ bb : Bool, v = some (.int (zI bb)) ∧ (bb = true ↔ id_ours Dn G i) ∧ M' = M)) ([.ref mm, .int (nI i)] : List Value).toArray s 0 0 (mw_A z)) (F0 m 23 ls []) := by
      intro d9
      induction d9 with
      | zero =>
        intro p0 fl H locs ls hp hfl hM hS hl
        refine lv_iload_n hx hb dd_Mo_ours_23 rfl (lv_at hl 0 rfl) ?_
        refine lv_aload_n hx hb dd_Mo_ours_24 rfl (lv_at hl 2 rfl) ?_
        refine gf_Mo_19 E hM hR.m ((mo_at (by decide)).trans (congrArg some (mq_va rfl))) dd_Mo_ours_25 ?_
        have w7 : M (ra 7) = some (.inl (D.1 100, 12, .inl (A 7))) := hR.w 7 rfl (by decide)
        refine lv_iload_n hx hb dd_Mo_ours_28 rfl (lv_at hl 3 rfl) ?_
        refine mw_iald hx hb E.K hM 0 w7 rfl (vp_in_nI (by omega) (by omega)) dd_Mo_ours_29 ?_
        refine mw_topi (y := (A 7) i) (by rw [nI_clamp (by omega)]) ?_
        refine mw_topi (y := nI (Dn i)) (j2) ?_
        refine lv_icmp_ge (tgt := 69) hx hb dd_Mo_ours_30 (by decide) (fun h30 => ?_) (fun h30 => ?_)
        ·
          rw [nI_leI (by omega) (by omega)] at h30
          refine lv_iload_n hx hb dd_Mo_ours_69 rfl (lv_at hl 1 rfl) ?_
          refine mr_z E hr hk hM hS (by decide) (by decide) (zI_z _) ?_ dd_Mo_ours_70
          exact ⟨fl, rfl, ⟨fun q => ⟨(hfl.mp q).1, fun q9 h9 => (hfl.mp q).2 q9 (by omega)⟩, fun q => hfl.mpr ⟨q.1, fun q9 h9 => q.2 q9 (by omega)⟩⟩, rfl⟩
        ·
          rw [nI_leI (by omega) (by omega)] at h30
          omega
      | succ d9 ih =>
        intro p0 fl H locs ls hp hfl hM hS hl
        refine lv_iload_n hx hb dd_Mo_ours_23 rfl (lv_at hl 0 rfl) ?_
        refine lv_aload_n hx hb dd_Mo_ours_24 rfl (lv_at hl 2 rfl) ?_
        refine gf_Mo_19 E hM hR.m ((mo_at (by decide)).trans (congrArg some (mq_va rfl))) dd_Mo_ours_25 ?_
        have w7 : M (ra 7) = some (.inl (D.1 100, 12, .inl (A 7))) := hR.w 7 rfl (by decide)
        refine lv_iload_n hx hb dd_Mo_ours_28 rfl (lv_at hl 3 rfl) ?_
        refine mw_iald hx hb E.K hM 0 w7 rfl (vp_in_nI (by omega) (by omega)) dd_Mo_ours_29 ?_
        refine mw_topi (y := (A 7) i) (by rw [nI_clamp (by omega)]) ?_
        refine mw_topi (y := nI (Dn i)) (j2) ?_
        refine lv_icmp_ge (tgt := 69) hx hb dd_Mo_ours_30 (by decide) (fun h30 => ?_) (fun h30 => ?_)
        ·
          rw [nI_leI (by omega) (by omega)] at h30
          omega
        ·
          rw [nI_leI (by omega) (by omega)] at h30
          refine lv_iload_n hx hb dd_Mo_ours_33 rfl (lv_at hl 1 rfl) ?_
          refine lv_if_eq (tgt := 69) hx hb dd_Mo_ours_34 (by decide) (fun h34 => ?_) (fun h34 => ?_)
          ·
            refine lv_iload_n hx hb dd_Mo_ours_69 rfl (lv_at hl 1 rfl) ?_
            refine mr_z E hr hk hM hS (by decide) (by decide) (zI_z _) ?_ dd_Mo_ours_70
            exact ⟨fl, rfl, ⟨fun q => absurd q (by rw [zI_0.mp h34]; decide), fun q => hfl.mpr ⟨q.1, fun q9 h9 => q.2 q9 (by omega)⟩⟩, rfl⟩
          ·
            have hft := hfl.mp (Bool.of_not_eq_false (fun q => h34 (zI_0.mpr q)))
            refine lv_aload_n hx hb dd_Mo_ours_37 rfl (lv_at hl 2 rfl) ?_
            refine gf_Mo_13 E hM hR.m ((mo_at (by decide)).trans (congrArg some (mq_va rfl))) dd_Mo_ours_38 ?_
            have w5 : M (ra 5) = some (.inl (D.1 100, 480, .inl (A 5))) := hR.w 5 rfl (by decide)
            refine lv_bipush (v := nI 40) hx hb dd_Mo_ours_41 (by decide) ?_
            refine lv_iload_n hx hb dd_Mo_ours_43 rfl (lv_at hl 3 rfl) ?_
            refine lv_imul hx hb dd_Mo_ours_44 ?_
            refine mw_topi (y := nI (40 * i)) (pk_mul _ _) ?_
            refine lv_iload_n hx hb dd_Mo_ours_45 rfl (lv_at hl 0 rfl) ?_
            refine lv_iadd hx hb dd_Mo_ours_46 ?_
            refine mw_topi (y := nI ((40 * i) + p0)) (nI_add _ _) ?_
            refine mw_iald hx hb E.K hM 0 w5 rfl (vp_in_nI (by omega) (by omega)) dd_Mo_ours_47 ?_
            refine mw_topi (y := (A 5) ((40 * i) + p0)) (by rw [nI_clamp (by omega)]) ?_
            have hb8 := o4 p0 (by omega)
            refine mw_topi (y := nI (G i p0)) (j3 p0 (by omega)) ?_
            refine lv_aload_n hx hb dd_Mo_ours_48 rfl (lv_at hl 2 rfl) ?_
            refine gf_Mo_13 E hM hR.m ((mo_at (by decide)).trans (congrArg some (mq_va rfl))) dd_Mo_ours_49 ?_
            have w5 : M (ra 5) = some (.inl (D.1 100, 480, .inl (A 5))) := hR.w 5 rfl (by decide)
            refine lv_iload_n hx hb dd_Mo_ours_52 rfl (lv_at hl 0 rfl) ?_
            refine mw_iald hx hb E.K hM 0 w5 rfl (vp_in_nI (by omega) (by omega)) dd_Mo_ours_53 ?_
            refine mw_topi (y := (A 5) p0) (by rw [nI_clamp (by omega)]) ?_
            have hb7 := z4 p0 (by omega)
            refine mw_topi (y := nI (G 0 p0)) ((congrArg (A 5) (by omega)).trans (y3 p0 (by omega))) ?_
            refine lv_icmp_ne (tgt := 61) hx hb dd_Mo_ours_54 (by decide) (fun h54 => ?_) (fun h54 => ?_)
            ·
              rw [nI_eq (by omega) (by omega)] at h54
              refine lv_iconst (v := nI 0) hx hb dd_Mo_ours_61 (by decide) ?_
              refine mw_topi (y := zI false) (rfl) ?_
              refine lv_istore_n (lv' := [(2, .int (zI false)), (3, .int (nI p0)), (0, .ref mm), (1, .int (nI i))]) hx hb dd_Mo_ours_62 rfl hl (by decide) rfl (fun ls hl => ?_)
              refine lv_iinc (k := 1) (v := nI (p0 + 1)) (lv' := [(3, .int (nI (p0 + 1))), (2, .int (zI false)), (0, .ref mm), (1, .int (nI i))]) hx hb dd_Mo_ours_63 hl rfl (nI_1 _) (by decide) rfl (fun ls hl => ?_)
              refine lv_goto (tgt := 23) hx hb dd_Mo_ours_66 (by decide) ?_
              exact ih (p0 + 1) false H locs ls (by omega) (⟨fun q => (by cases q), fun q => absurd (q.2 p0 (by omega)) h54⟩) hM hS (lv_sub hl [0, 1, 2, 3] rfl)
            ·
              rw [nI_eq (by omega) (by omega)] at h54
              refine lv_iconst (v := nI 1) hx hb dd_Mo_ours_57 (by decide) ?_
              refine mw_topi (y := zI true) (rfl) ?_
              refine lv_goto (tgt := 62) hx hb dd_Mo_ours_58 (by decide) ?_
              refine lv_istore_n (lv' := [(2, .int (zI true)), (3, .int (nI p0)), (0, .ref mm), (1, .int (nI i))]) hx hb dd_Mo_ours_62 rfl hl (by decide) rfl (fun ls hl => ?_)
              refine lv_iinc (k := 1) (v := nI (p0 + 1)) (lv' := [(3, .int (nI (p0 + 1))), (2, .int (zI true)), (0, .ref mm), (1, .int (nI i))]) hx hb dd_Mo_ours_63 hl rfl (nI_1 _) (by decide) rfl (fun ls hl => ?_)
              refine lv_goto (tgt := 23) hx hb dd_Mo_ours_66 (by decide) ?_
              exact ih (p0 + 1) true H locs ls (by omega) (⟨fun _ => ⟨hft.1, fun q h => if e9 : q = p0 then (by rw [e9]; exact h54) else hft.2 q (by omega)⟩, fun _ => rfl⟩) hM hS (lv_sub hl [0, 1, 2, 3] rfl)
    exact loop23 (Dn i) 0 false s.heap [] ls (by omega) (⟨fun q => (by cases q), fun q => absurd q.1 h12⟩) hM hS (lv_sub hl [0, 1, 2, 3] rfl)
  ·
    rw [nI_eq (by omega) (by omega)] at h12
    refine lv_iconst (v := nI 1) hx hb dd_Mo_ours_15 (by decide) ?_
    refine mw_topi (y := zI true) (rfl) ?_
    refine lv_goto (tgt := 20) hx hb dd_Mo_ours_16 (by decide) ?_
    refine lv_istore_n (lv' := [(2, .int (zI true)), (0, .ref mm), (1, .int (nI i))]) hx hb dd_Mo_ours_20 rfl hl (by decide) rfl (fun ls hl => ?_)
    refine lv_iconst (v := nI 0) hx hb dd_Mo_ours_21 (by decide) ?_
    refine lv_istore_n (lv' := [(3, .int (nI 0)), (2, .int (zI true)), (0, .ref mm), (1, .int (nI i))]) hx hb dd_Mo_ours_22 rfl hl (by decide) rfl (fun ls hl => ?_)
    have loop23 : ∀ (d9 : Nat) (p0 : Nat) (fl : Bool) (H : Heap) (locs : List Loc) (ls : Array Slot), p0 + d9 = Dn i → (fl = true ↔ (Dn i = Dn 0 ∧ ∀ q : Nat, q < p0 → G i q = G 0 q)) → mw_at D mg_cl z M H → va_S (mw_A z) s.heap H locs → lv_has ls 4 [(3, .int (nI p0)), (2, .int (zI fl)), (0, .ref mm), (1, .int (nI i))] → W p l e ({ frames := 0, cells := 0, slots := 0, locals := 0 } : Room) s m ([.ref mm, .int (nI i)] : List Value).toArray below meth c H locs (0) (0) (MQ below (mw_Q D z (fun v M' => ∃ bb : Bool, v = some (.int (zI bb)) ∧ (bb = true ↔ id_ours Dn G i) ∧ M' = M)) ([.ref mm, .int (nI i)] : List Value).toArray s 0 0 (mw_A z)) (F0 m 23 ls []) := by
      intro d9
      induction d9 with
      | zero =>
        intro p0 fl H locs ls hp hfl hM hS hl
        refine lv_iload_n hx hb dd_Mo_ours_23 rfl (lv_at hl 0 rfl) ?_
        refine lv_aload_n hx hb dd_Mo_ours_24 rfl (lv_at hl 2 rfl) ?_
        refine gf_Mo_19 E hM hR.m ((mo_at (by decide)).trans (congrArg some (mq_va rfl))) dd_Mo_ours_25 ?_
        have w7 : M (ra 7) = some (.inl (D.1 100, 12, .inl (A 7))) := hR.w 7 rfl (by decide)
        refine lv_iload_n hx hb dd_Mo_ours_28 rfl (lv_at hl 3 rfl) ?_
        refine mw_iald hx hb E.K hM 0 w7 rfl (vp_in_nI (by omega) (by omega)) dd_Mo_ours_29 ?_
        refine mw_topi (y := (A 7) i) (by rw [nI_clamp (by omega)]) ?_
        refine mw_topi (y := nI (Dn i)) (j2) ?_
        refine lv_icmp_ge (tgt := 69) hx hb dd_Mo_ours_30 (by decide) (fun h30 => ?_) (fun h30 => ?_)
        ·
          rw [nI_leI (by omega) (by omega)] at h30
          refine lv_iload_n hx hb dd_Mo_ours_69 rfl (lv_at hl 1 rfl) ?_
          refine mr_z E hr hk hM hS (by decide) (by decide) (zI_z _) ?_ dd_Mo_ours_70
          exact ⟨fl, rfl, ⟨fun q => ⟨(hfl.mp q).1, fun q9 h9 => (hfl.mp q).2 q9 (by omega)⟩, fun q => hfl.mpr ⟨q.1, fun q9 h9 => q.2 q9 (by omega)⟩⟩, rfl⟩
        ·
          rw [nI_leI (by omega) (by omega)] at h30
          omega
      | succ d9 ih =>
        intro p0 fl H locs ls hp hfl hM hS hl
        refine lv_iload_n hx hb dd_Mo_ours_23 rfl (lv_at hl 0 rfl) ?_
        refine lv_aload_n hx hb dd_Mo_ours_24 rfl (lv_at hl 2 rfl) ?_
        refine gf_Mo_19 E hM hR.m ((mo_at (by decide)).trans (congrArg some (mq_va rfl))) dd_Mo_ours_25 ?_
        have w7 : M (ra 7) = some (.inl (D.1 100, 12, .inl (A 7))) := hR.w 7 rfl (by decide)
        refine lv_iload_n hx hb dd_Mo_ours_28 rfl (lv_at hl 3 rfl) ?_
        refine mw_iald hx hb E.K hM 0 w7 rfl (vp_in_nI (by omega) (by omega)) dd_Mo_ours_29 ?_
        refine mw_topi (y := (A 7) i) (by rw [nI_clamp (by omega)]) ?_
        refine mw_topi (y := nI (Dn i)) (j2) ?_
        refine lv_icmp_ge (tgt := 69) hx hb dd_Mo_ours_30 (by decide) (fun h30 => ?_) (fun h30 => ?_)
        ·
          rw [nI_leI (by omega) (by omega)] at h30
          omega
        ·
          rw [nI_leI (by omega) (by omega)] at h30
          refine lv_iload_n hx hb dd_Mo_ours_33 rfl (lv_at hl 1 rfl) ?_
          refine lv_if_eq (tgt := 69) hx hb dd_Mo_ours_34 (by decide) (fun h34 => ?_) (fun h34 => ?_)
          ·
            refine lv_iload_n hx hb dd_Mo_ours_69 rfl (lv_at hl 1 rfl) ?_
            refine mr_z E hr hk hM hS (by decide) (by decide) (zI_z _) ?_ dd_Mo_ours_70
            exact ⟨fl, rfl, ⟨fun q => absurd q (by rw [zI_0.mp h34]; decide), fun q => hfl.mpr ⟨q.1, fun q9 h9 => q.2 q9 (by omega)⟩⟩, rfl⟩
          ·
            have hft := hfl.mp (Bool.of_not_eq_false (fun q => h34 (zI_0.mpr q)))
            refine lv_aload_n hx hb dd_Mo_ours_37 rfl (lv_at hl 2 rfl) ?_
            refine gf_Mo_13 E hM hR.m ((mo_at (by decide)).trans (congrArg some (mq_va rfl))) dd_Mo_ours_38 ?_
            have w5 : M (ra 5) = some (.inl (D.1 100, 480, .inl (A 5))) := hR.w 5 rfl (by decide)
            refine lv_bipush (v := nI 40) hx hb dd_Mo_ours_41 (by decide) ?_
            refine lv_iload_n hx hb dd_Mo_ours_43 rfl (lv_at hl 3 rfl) ?_
            refine lv_imul hx hb dd_Mo_ours_44 ?_
            refine mw_topi (y := nI (40 * i)) (pk_mul _ _) ?_
            refine lv_iload_n hx hb dd_Mo_ours_45 rfl (lv_at hl 0 rfl) ?_
            refine lv_iadd hx hb dd_Mo_ours_46 ?_
            refine mw_topi (y := nI ((40 * i) + p0)) (nI_add _ _) ?_
            refine mw_iald hx hb E.K hM 0 w5 rfl (vp_in_nI (by omega) (by omega)) dd_Mo_ours_47 ?_
            refine mw_topi (y := (A 5) ((40 * i) + p0)) (by rw [nI_clamp (by omega)]) ?_
            have hb8 := o4 p0 (by omega)
            refine mw_topi (y := nI (G i p0)) (j3 p0 (by omega)) ?_
            refine lv_aload_n hx hb dd_Mo_ours_48 rfl (lv_at hl 2 rfl) ?_
            refine gf_Mo_13 E hM hR.m ((mo_at (by decide)).trans (congrArg some (mq_va rfl))) dd_Mo_ours_49 ?_
            have w5 : M (ra 5) = some (.inl (D.1 100, 480, .inl (A 5))) := hR.w 5 rfl (by decide)
            refine lv_iload_n hx hb dd_Mo_ours_52 rfl (lv_at hl 0 rfl) ?_
            refine mw_iald hx hb E.K hM 0 w5 rfl (vp_in_nI (by omega) (by omega)) dd_Mo_ours_53 ?_
            refine mw_topi (y := (A 5) p0) (by rw [nI_clamp (by omega)]) ?_
            have hb7 := z4 p0 (by omega)
            refine mw_topi (y := nI (G 0 p0)) ((congrArg (A 5) (by omega)).trans (y3 p0 (by omega))) ?_
            refine lv_icmp_ne (tgt := 61) hx hb dd_Mo_ours_54 (by decide) (fun h54 => ?_) (fun h54 => ?_)
            ·
              rw [nI_eq (by omega) (by omega)] at h54
              refine lv_iconst (v := nI 0) hx hb dd_Mo_ours_61 (by decide) ?_
              refine mw_topi (y := zI false) (rfl) ?_
              refine lv_istore_n (lv' := [(2, .int (zI false)), (3, .int (nI p0)), (0, .ref mm), (1, .int (nI i))]) hx hb dd_Mo_ours_62 rfl hl (by decide) rfl (fun ls hl => ?_)
              refine lv_iinc (k := 1) (v := nI (p0 + 1)) (lv' := [(3, .int (nI (p0 + 1))), (2, .int (zI false)), (0, .ref mm), (1, .int (nI i))]) hx hb dd_Mo_ours_63 hl rfl (nI_1 _) (by decide) rfl (fun ls hl => ?_)
              refine lv_goto (tgt := 23) hx hb dd_Mo_ours_66 (by decide) ?_
              exact ih (p0 + 1) false H locs ls (by omega) (⟨fun q => (by cases q), fun q => absurd (q.2 p0 (by omega)) h54⟩) hM hS (lv_sub hl [0, 1, 2, 3] rfl)
            ·
              rw [nI_eq (by omega) (by omega)] at h54
              refine lv_iconst (v := nI 1) hx hb dd_Mo_ours_57 (by decide) ?_
              refine mw_topi (y := zI true) (rfl) ?_
              refine lv_goto (tgt := 62) hx hb dd_Mo_ours_58 (by decide) ?_
              refine lv_istore_n (lv' := [(2, .int (zI true)), (3, .int (nI p0)), (0, .ref mm), (1, .int (nI i))]) hx hb dd_Mo_ours_62 rfl hl (by decide) rfl (fun ls hl => ?_)
              refine lv_iinc (k := 1) (v := nI (p0 + 1)) (lv' := [(3, .int (nI (p0 + 1))), (2, .int (zI true)), (0, .ref mm), (1, .int (nI i))]) hx hb dd_Mo_ours_63 hl rfl (nI_1 _) (by decide) rfl (fun ls hl => ?_)
              refine lv_goto (tgt := 23) hx hb dd_Mo_ours_66 (by decide) ?_
              exact ih (p0 + 1) true H locs ls (by omega) (⟨fun _ => ⟨hft.1, fun q h => if e9 : q = p0 then (by rw [e9]; exact h54) else hft.2 q (by omega)⟩, fun _ => rfl⟩) hM hS (lv_sub hl [0, 1, 2, 3] rfl)
    exact loop23 (Dn i) 0 true s.heap [] ls (by omega) (⟨fun _ => ⟨h12, fun q h => absurd h (by omega)⟩, fun _ => rfl⟩) hM hS (lv_sub hl [0, 1, 2, 3] rfl)
theorem cc_Mo_goodI (l : Launch) (D : va_G) (z : Nat) (M : mw_M) (mm : Nat) (ra : Nat → Nat) (V : Nat → Int32) (A : Nat → Nat → Int32) (S : Nat → Int64) (ic : Nat) (Ln Dn : Nat → Nat) (G : Nat → Nat → Nat) (i : Nat) (hR : mq_R D M mm ra V A S) (hJ : mi_at V A ic Ln Dn G) (hO : id_ok ic Ln Dn G) (hi : i < ic) : mw_C l yy_Mo_good bb_Mo_good 2 (Option.some Jvm.ClassFile.FieldType.boolean) 1 23 0 0 D z M [.ref mm, .int (nI i)] (fun v M' => ∃ bb : Bool, v = some (.int (zI bb)) ∧ (bb = true ↔ 0 < i ∧ Dn i < Ln i ∧ id_ours Dn G i) ∧ M' = M) := by
  refine mw_of (by decide) (Nat.le_of_ble_eq_true rfl) ?_
  intro p e s m below meth c ls E hr hk hnm hM hl
  have hx := E.x
  have hb := E.b
  have E : mw_E p m c bb_Mo_good 2 s _ D z "IdentityIssuerModel" := E
  have hl : lv_has ls 2 [(0, .ref mm), (1, .int (nI i))] := hl
  have hS : va_S (mw_A z) s.heap s.heap [] := va_S.rf
  have hic := hO.1
  obtain ⟨o1, o2, o3, o4, o5⟩ := hO.2 i hi
  obtain ⟨j1, j2, j3⟩ := hJ.2 i hi
  refine lv_iload_n hx hb dd_Mo_good_0 rfl (lv_at hl 1 rfl) ?_
  refine lv_if_le (tgt := 31) hx hb dd_Mo_good_1 (by decide) (fun h1 => ?_) (fun h1 => ?_)
  ·
    refine lv_iconst (v := nI 0) hx hb dd_Mo_good_31 (by decide) ?_
    refine mr_z E hr hk hM hS (by decide) (by decide) (rfl) ?_ dd_Mo_good_32
    exact ⟨false, rfl, ⟨fun q => (by cases q), fun q => absurd (nI_le0 (by omega) h1) (by omega)⟩, rfl⟩
  ·
    refine lv_aload_n hx hb dd_Mo_good_4 rfl (lv_at hl 0 rfl) ?_
    refine gf_Mo_16 E hM hR.m ((mo_at (by decide)).trans (congrArg some (mq_va rfl))) dd_Mo_good_5 ?_
    have w6 : M (ra 6) = some (.inl (D.1 100, 12, .inl (A 6))) := hR.w 6 rfl (by decide)
    refine lv_iload_n hx hb dd_Mo_good_8 rfl (lv_at hl 1 rfl) ?_
    refine mw_iald hx hb E.K hM 0 w6 rfl (vp_in_nI (by omega) (by omega)) dd_Mo_good_9 ?_
    refine mw_topi (y := (A 6) i) (by rw [nI_clamp (by omega)]) ?_
    refine mw_topi (y := nI (Ln i)) (j1) ?_
    refine lv_aload_n hx hb dd_Mo_good_10 rfl (lv_at hl 0 rfl) ?_
    refine gf_Mo_19 E hM hR.m ((mo_at (by decide)).trans (congrArg some (mq_va rfl))) dd_Mo_good_11 ?_
    have w7 : M (ra 7) = some (.inl (D.1 100, 12, .inl (A 7))) := hR.w 7 rfl (by decide)
    refine lv_iload_n hx hb dd_Mo_good_14 rfl (lv_at hl 1 rfl) ?_
    refine mw_iald hx hb E.K hM 0 w7 rfl (vp_in_nI (by omega) (by omega)) dd_Mo_good_15 ?_
    refine mw_topi (y := (A 7) i) (by rw [nI_clamp (by omega)]) ?_
    refine mw_topi (y := nI (Dn i)) (j2) ?_
    refine lv_icmp_le (tgt := 31) hx hb dd_Mo_good_16 (by decide) (fun h16 => ?_) (fun h16 => ?_)
    ·
      rw [nI_leI (by omega) (by omega)] at h16
      refine lv_iconst (v := nI 0) hx hb dd_Mo_good_31 (by decide) ?_
      refine mr_z E hr hk hM hS (by decide) (by decide) (rfl) ?_ dd_Mo_good_32
      exact ⟨false, rfl, ⟨fun q => (by cases q), fun q => absurd q.2.1 (by omega)⟩, rfl⟩
    ·
      rw [nI_leI (by omega) (by omega)] at h16
      refine lv_aload_n hx hb dd_Mo_good_19 rfl (lv_at hl 0 rfl) ?_
      refine lv_iload_n hx hb dd_Mo_good_20 rfl (lv_at hl 1 rfl) ?_
      refine mw_V (As := [.int (nI i)]) (rest := []) E (cc_Mo_ours l D z (M) mm ra V A S ic Ln Dn G i hR hJ hO hi) ky_Mo_ours kv_Mo_ours tw_Mo_160 hM hS hR.m rfl rfl rfl hl.1 rfl (Nat.le_of_ble_eq_true rfl) dd_Mo_good_21 (by first | decide | exact ⟨by dsimp only; omega, by dsimp only; omega⟩) (by decide) (fun v M1 H locs hp hM hS => ?_)
      obtain ⟨b8, rfl, hbb, hq⟩ := hp
      have hq := hq.symm
      subst hq
      refine W.eq (g2 := F0 m 24 ls [.int (zI b8)]) rfl ?_
      refine lv_if_eq (tgt := 31) hx hb dd_Mo_good_24 (by decide) (fun h24 => ?_) (fun h24 => ?_)
      ·
        refine lv_iconst (v := nI 0) hx hb dd_Mo_good_31 (by decide) ?_
        refine mr_z E hr hk hM hS (by decide) (by decide) (rfl) ?_ dd_Mo_good_32
        exact ⟨false, rfl, ⟨fun q => (by cases q), fun q => absurd (hbb.mpr q.2.2) (by rw [zI_0.mp h24]; decide)⟩, rfl⟩
      ·
        refine lv_iconst (v := nI 1) hx hb dd_Mo_good_27 (by decide) ?_
        refine lv_goto (tgt := 32) hx hb dd_Mo_good_28 (by decide) ?_
        refine mr_z E hr hk hM hS (by decide) (by decide) (rfl) ?_ dd_Mo_good_32
        exact ⟨true, rfl, ⟨fun _ => ⟨nI_nle0 (by omega) h1, by omega, hbb.mp (Bool.of_not_eq_false (fun q => h24 (zI_0.mpr q)))⟩, fun _ => rfl⟩, rfl⟩
