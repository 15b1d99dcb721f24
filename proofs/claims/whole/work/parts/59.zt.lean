/-! the class: entry, remove, attest, watch, svid, sync -/
theorem cc_Xi_entry_w (l : Launch) (D : va_G) (z : Nat) (M : mw_M) (x xb xi xk xe xa xw xl xr xt rn cu : Nat) (fo ck se : Int32) (t le de ic : Nat) (Ln Dn : Nat → Nat) (G : Nat → Nat → Nat) (el er mk i0 j0 : Nat) (s0 t0 f0 : Int32) (es : List Nat) (EF : Nat → Nat → Int32) (ent : Nat → Nat) (wx : M x = some (.inr (0, [.ref xb, .ref xi, .ref xk, .ref xe, .ref xa, .ref xw, .ref xl, .ref xr, .ref xt, .int (fo), .int (ck), .int (se), .ref rn, .ref cu]))) (hI : id_at D M xi t le de ic Ln Dn G) (hO : id_ok ic Ln Dn G) (hes : es_at D M xe el er mk es EF ent) (hmk : mk < 2 ^ 20) (hi0 : i0 < ic) (hj0 : j0 < ic) (hW : en_wr Ln Dn G i0 j0 s0 t0 f0) : mw_C l yy_Xi_entry bb_Xi_entry 6 (Option.some Jvm.ClassFile.FieldType.int) 4 83 0 0 D z M [.ref x, .int (nI i0), .int (nI j0), .int (s0), .int (t0), .int (f0)] (fun v M' => v = some (.int (-1002)) ∧ M' = M) := by
  refine mw_of (by decide) (Nat.le_of_ble_eq_true rfl) ?_
  intro p e s m below meth c ls E hr hk hnm hM hl
  have hx := E.x
  have hb := E.b
  have E : mw_E p m c bb_Xi_entry 6 s _ D z "IdentityIssuer" := E
  have hl : lv_has ls 6 [(0, .ref x), (1, .int (nI i0)), (2, .int (nI j0)), (3, .int (s0)), (4, .int (t0)), (5, .int (f0))] := hl
  have hS : va_S (mw_A z) s.heap s.heap [] := va_S.rf
  have hic := hO.1
  obtain ⟨o9, fl9, fd9, T9, wd9, -⟩ := id hI
  have we9 := hes.1
  refine lv_aload_n hx hb dd_Xi_entry_0 rfl (lv_at hl 0 rfl) ?_
  refine gf_Xi_19 E hM wx rfl dd_Xi_entry_1 ?_
  refine lv_iload_n hx hb dd_Xi_entry_4 rfl (lv_at hl 1 rfl) ?_
  refine mw_V (As := [.int (nI i0)]) (rest := []) E (cc_Id_isThere l D z (M) xi t le de ic (nI i0) wd9 (by omega)) ky_Id_isThere kv_Id_isThere tw_Xi_98 hM hS wd9 rfl rfl rfl hl.1 rfl (Nat.le_of_ble_eq_true rfl) dd_Xi_entry_5 (by first | decide | exact ⟨by dsimp only; omega, by dsimp only; omega⟩) (by decide) (fun v M1 H locs hp hM hS => ?_)
  obtain ⟨rfl, hq⟩ := hp
  have hq := hq.symm
  subst hq
  rw [xi_hasN hi0 (by omega)]
  refine W.eq (g2 := F0 m 8 ls [.int (zI true)]) rfl ?_
  refine lv_if_eq (tgt := 22) hx hb dd_Xi_entry_8 (by decide) (fun h8 => ?_) (fun h8 => ?_)
  ·
    exact absurd h8 (by decide)
  ·
    refine lv_aload_n hx hb dd_Xi_entry_11 rfl (lv_at hl 0 rfl) ?_
    refine gf_Xi_19 E hM wx rfl dd_Xi_entry_12 ?_
    refine lv_iload_n hx hb dd_Xi_entry_15 rfl (lv_at hl 2 rfl) ?_
    refine mw_V (As := [.int (nI j0)]) (rest := []) E (cc_Id_isThere l D z (M) xi t le de ic (nI j0) wd9 (by omega)) ky_Id_isThere kv_Id_isThere tw_Xi_98 hM hS wd9 rfl rfl rfl hl.1 rfl (Nat.le_of_ble_eq_true rfl) dd_Xi_entry_16 (by first | decide | exact ⟨by dsimp only; omega, by dsimp only; omega⟩) (by decide) (fun v M1 H locs hp hM hS => ?_)
    obtain ⟨rfl, hq⟩ := hp
    have hq := hq.symm
    subst hq
    rw [xi_hasN hj0 (by omega)]
    refine W.eq (g2 := F0 m 19 ls [.int (zI true)]) rfl ?_
    refine lv_if_ne (tgt := 26) hx hb dd_Xi_entry_19 (by decide) (fun h19 => ?_) (fun h19 => ?_)
    ·
      refine lv_aload_n hx hb dd_Xi_entry_26 rfl (lv_at hl 0 rfl) ?_
      refine gf_Xi_19 E hM wx rfl dd_Xi_entry_27 ?_
      refine lv_iload_n hx hb dd_Xi_entry_30 rfl (lv_at hl 1 rfl) ?_
      refine mw_V (As := [.int (nI i0)]) (rest := []) E (cc_Id_mayBeHeld l D z (M) xi t le de ic Ln Dn G i0 hI hO hi0) ky_Id_mayBeHeld kv_Id_mayBeHeld tw_Xi_102 hM hS wd9 rfl rfl rfl hl.1 rfl (Nat.le_of_ble_eq_true rfl) dd_Xi_entry_31 (by first | decide | exact ⟨by dsimp only; omega, by dsimp only; omega⟩) (by decide) (fun v M1 H locs hp hM hS => ?_)
      obtain ⟨b1, rfl, hb1, hq⟩ := hp
      have hq := hq.symm
      subst hq
      refine W.eq (g2 := F0 m 34 ls [.int (zI b1)]) rfl ?_
      refine lv_if_eq (tgt := 84) hx hb dd_Xi_entry_34 (by decide) (fun h34 => ?_) (fun h34 => ?_)
      ·
        refine lv_sipush (v := -1002) hx hb dd_Xi_entry_84 (by decide) ?_
        refine mr_i E hr hk hM hS (by decide) (by decide) ?_ dd_Xi_entry_87
        exact ⟨rfl, rfl⟩
      ·
        refine lv_aload_n hx hb dd_Xi_entry_37 rfl (lv_at hl 0 rfl) ?_
        refine gf_Xi_19 E hM wx rfl dd_Xi_entry_38 ?_
        refine lv_iload_n hx hb dd_Xi_entry_41 rfl (lv_at hl 2 rfl) ?_
        refine mw_V (As := [.int (nI j0)]) (rest := []) E (cc_Id_isOurs l D z (M) xi t le de ic Ln Dn G j0 hI hO hj0) ky_Id_isOurs kv_Id_isOurs tw_Xi_105 hM hS wd9 rfl rfl rfl hl.1 rfl (Nat.le_of_ble_eq_true rfl) dd_Xi_entry_42 (by first | decide | exact ⟨by dsimp only; omega, by dsimp only; omega⟩) (by decide) (fun v M1 H locs hp hM hS => ?_)
        obtain ⟨b2, rfl, hb2, hq⟩ := hp
        have hq := hq.symm
        subst hq
        refine W.eq (g2 := F0 m 45 ls [.int (zI b2)]) rfl ?_
        refine lv_if_eq (tgt := 84) hx hb dd_Xi_entry_45 (by decide) (fun h45 => ?_) (fun h45 => ?_)
        ·
          refine lv_sipush (v := -1002) hx hb dd_Xi_entry_84 (by decide) ?_
          refine mr_i E hr hk hM hS (by decide) (by decide) ?_ dd_Xi_entry_87
          exact ⟨rfl, rfl⟩
        ·
          refine lv_iload_n hx hb dd_Xi_entry_48 rfl (lv_at hl 3 rfl) ?_
          refine lv_iconst (v := nI 1) hx hb dd_Xi_entry_49 (by decide) ?_
          refine lv_icmp_lt (tgt := 84) hx hb dd_Xi_entry_50 (by decide) (fun h50 => ?_) (fun h50 => ?_)
          ·
            refine lv_sipush (v := -1002) hx hb dd_Xi_entry_84 (by decide) ?_
            refine mr_i E hr hk hM hS (by decide) (by decide) ?_ dd_Xi_entry_87
            exact ⟨rfl, rfl⟩
          ·
            refine lv_iload_n hx hb dd_Xi_entry_53 rfl (lv_at hl 3 rfl) ?_
            refine lv_ldc (v := 65535) hx hb E.o (E.t _ tw_Xi_108) dd_Xi_entry_54 ?_
            refine mw_topi (y := nI 65535) (by decide) ?_
            refine lv_icmp_gt (tgt := 84) hx hb dd_Xi_entry_56 (by decide) (fun h56 => ?_) (fun h56 => ?_)
            ·
              refine lv_sipush (v := -1002) hx hb dd_Xi_entry_84 (by decide) ?_
              refine mr_i E hr hk hM hS (by decide) (by decide) ?_ dd_Xi_entry_87
              exact ⟨rfl, rfl⟩
            ·
              refine lv_iload hx hb dd_Xi_entry_59 (lv_at hl 4 rfl) ?_
              refine lv_iconst (v := nI 1) hx hb dd_Xi_entry_61 (by decide) ?_
              refine lv_icmp_lt (tgt := 84) hx hb dd_Xi_entry_62 (by decide) (fun h62 => ?_) (fun h62 => ?_)
              ·
                refine lv_sipush (v := -1002) hx hb dd_Xi_entry_84 (by decide) ?_
                refine mr_i E hr hk hM hS (by decide) (by decide) ?_ dd_Xi_entry_87
                exact ⟨rfl, rfl⟩
              ·
                refine lv_iload hx hb dd_Xi_entry_65 (lv_at hl 4 rfl) ?_
                refine lv_bipush (v := nI 64) hx hb dd_Xi_entry_67 (by decide) ?_
                refine lv_icmp_gt (tgt := 84) hx hb dd_Xi_entry_69 (by decide) (fun h69 => ?_) (fun h69 => ?_)
                ·
                  refine lv_sipush (v := -1002) hx hb dd_Xi_entry_84 (by decide) ?_
                  refine mr_i E hr hk hM hS (by decide) (by decide) ?_ dd_Xi_entry_87
                  exact ⟨rfl, rfl⟩
                ·
                  refine lv_iload hx hb dd_Xi_entry_72 (lv_at hl 5 rfl) ?_
                  refine lv_if_lt (tgt := 84) hx hb dd_Xi_entry_74 (by decide) (fun h74 => ?_) (fun h74 => ?_)
                  ·
                    refine lv_sipush (v := -1002) hx hb dd_Xi_entry_84 (by decide) ?_
                    refine mr_i E hr hk hM hS (by decide) (by decide) ?_ dd_Xi_entry_87
                    exact ⟨rfl, rfl⟩
                  ·
                    refine lv_iload hx hb dd_Xi_entry_77 (lv_at hl 5 rfl) ?_
                    refine lv_bipush (v := nI 15) hx hb dd_Xi_entry_79 (by decide) ?_
                    refine lv_icmp_le (tgt := 88) hx hb dd_Xi_entry_81 (by decide) (fun h81 => ?_) (fun h81 => ?_)
                    ·
                      exact absurd hW (fun q => q.elim (fun q => q (hb1.mp (Bool.of_not_eq_false (fun q => h34 (zI_0.mpr q))))) (fun q => q.elim (fun q => q (hb2.mp (Bool.of_not_eq_false (fun q => h45 (zI_0.mpr q))))) (fun q => q.elim (fun q => absurd q (by unfold mo_out; rw [decide_eq_false (h50), decide_eq_false (h56)]; decide)) (fun q => q.elim (fun q => absurd q (by unfold mo_out; rw [decide_eq_false (h62), decide_eq_false (h69)]; decide)) (fun q => absurd q (by unfold mo_out; rw [decide_eq_false (show ¬ f0 < nI 0 from h74), decide_eq_false (Int32.not_lt.mpr h81)]; decide))))))
                    ·
                      refine lv_sipush (v := -1002) hx hb dd_Xi_entry_84 (by decide) ?_
                      refine mr_i E hr hk hM hS (by decide) (by decide) ?_ dd_Xi_entry_87
                      exact ⟨rfl, rfl⟩
    ·
      exact absurd h19 (by decide)
theorem cc_Xi_entry_f (l : Launch) (D : va_G) (z : Nat) (M : mw_M) (x xb xi xk xe xa xw xl xr xt rn cu : Nat) (fo ck se : Int32) (t le de ic : Nat) (Ln Dn : Nat → Nat) (G : Nat → Nat → Nat) (el er mk i0 j0 : Nat) (s0 t0 f0 : Int32) (es : List Nat) (EF : Nat → Nat → Int32) (ent : Nat → Nat) (wx : M x = some (.inr (0, [.ref xb, .ref xi, .ref xk, .ref xe, .ref xa, .ref xw, .ref xl, .ref xr, .ref xt, .int (fo), .int (ck), .int (se), .ref rn, .ref cu]))) (hI : id_at D M xi t le de ic Ln Dn G) (hO : id_ok ic Ln Dn G) (hes : es_at D M xe el er mk es EF ent) (hmk : mk < 2 ^ 20) (hi0 : i0 < ic) (hj0 : j0 < ic) (hW : ¬ en_wr Ln Dn G i0 j0 s0 t0 f0) (hfu : 60 ≤ mk ∨ 12 ≤ es.length) : mw_C l yy_Xi_entry bb_Xi_entry 6 (Option.some Jvm.ClassFile.FieldType.int) 4 83 0 0 D z M [.ref x, .int (nI i0), .int (nI j0), .int (s0), .int (t0), .int (f0)] (fun v M' => v = some (.int (-1003)) ∧ M' = M) := by
  refine mw_of (by decide) (Nat.le_of_ble_eq_true rfl) ?_
  intro p e s m below meth c ls E hr hk hnm hM hl
  have hx := E.x
  have hb := E.b
  have E : mw_E p m c bb_Xi_entry 6 s _ D z "IdentityIssuer" := E
  have hl : lv_has ls 6 [(0, .ref x), (1, .int (nI i0)), (2, .int (nI j0)), (3, .int (s0)), (4, .int (t0)), (5, .int (f0))] := hl
  have hS : va_S (mw_A z) s.heap s.heap [] := va_S.rf
  have hic := hO.1
  obtain ⟨o9, fl9, fd9, T9, wd9, -⟩ := id hI
  have we9 := hes.1
  refine lv_aload_n hx hb dd_Xi_entry_0 rfl (lv_at hl 0 rfl) ?_
  refine gf_Xi_19 E hM wx rfl dd_Xi_entry_1 ?_
  refine lv_iload_n hx hb dd_Xi_entry_4 rfl (lv_at hl 1 rfl) ?_
  refine mw_V (As := [.int (nI i0)]) (rest := []) E (cc_Id_isThere l D z (M) xi t le de ic (nI i0) wd9 (by omega)) ky_Id_isThere kv_Id_isThere tw_Xi_98 hM hS wd9 rfl rfl rfl hl.1 rfl (Nat.le_of_ble_eq_true rfl) dd_Xi_entry_5 (by first | decide | exact ⟨by dsimp only; omega, by dsimp only; omega⟩) (by decide) (fun v M1 H locs hp hM hS => ?_)
  obtain ⟨rfl, hq⟩ := hp
  have hq := hq.symm
  subst hq
  rw [xi_hasN hi0 (by omega)]
  refine W.eq (g2 := F0 m 8 ls [.int (zI true)]) rfl ?_
  refine lv_if_eq (tgt := 22) hx hb dd_Xi_entry_8 (by decide) (fun h8 => ?_) (fun h8 => ?_)
  ·
    exact absurd h8 (by decide)
  ·
    refine lv_aload_n hx hb dd_Xi_entry_11 rfl (lv_at hl 0 rfl) ?_
    refine gf_Xi_19 E hM wx rfl dd_Xi_entry_12 ?_
    refine lv_iload_n hx hb dd_Xi_entry_15 rfl (lv_at hl 2 rfl) ?_
    refine mw_V (As := [.int (nI j0)]) (rest := []) E (cc_Id_isThere l D z (M) xi t le de ic (nI j0) wd9 (by omega)) ky_Id_isThere kv_Id_isThere tw_Xi_98 hM hS wd9 rfl rfl rfl hl.1 rfl (Nat.le_of_ble_eq_true rfl) dd_Xi_entry_16 (by first | decide | exact ⟨by dsimp only; omega, by dsimp only; omega⟩) (by decide) (fun v M1 H locs hp hM hS => ?_)
    obtain ⟨rfl, hq⟩ := hp
    have hq := hq.symm
    subst hq
    rw [xi_hasN hj0 (by omega)]
    refine W.eq (g2 := F0 m 19 ls [.int (zI true)]) rfl ?_
    refine lv_if_ne (tgt := 26) hx hb dd_Xi_entry_19 (by decide) (fun h19 => ?_) (fun h19 => ?_)
    ·
      refine lv_aload_n hx hb dd_Xi_entry_26 rfl (lv_at hl 0 rfl) ?_
      refine gf_Xi_19 E hM wx rfl dd_Xi_entry_27 ?_
      refine lv_iload_n hx hb dd_Xi_entry_30 rfl (lv_at hl 1 rfl) ?_
      refine mw_V (As := [.int (nI i0)]) (rest := []) E (cc_Id_mayBeHeld l D z (M) xi t le de ic Ln Dn G i0 hI hO hi0) ky_Id_mayBeHeld kv_Id_mayBeHeld tw_Xi_102 hM hS wd9 rfl rfl rfl hl.1 rfl (Nat.le_of_ble_eq_true rfl) dd_Xi_entry_31 (by first | decide | exact ⟨by dsimp only; omega, by dsimp only; omega⟩) (by decide) (fun v M1 H locs hp hM hS => ?_)
      obtain ⟨b1, rfl, hb1, hq⟩ := hp
      have hq := hq.symm
      subst hq
      refine W.eq (g2 := F0 m 34 ls [.int (zI b1)]) rfl ?_
      refine lv_if_eq (tgt := 84) hx hb dd_Xi_entry_34 (by decide) (fun h34 => ?_) (fun h34 => ?_)
      ·
        exact absurd (show en_wr Ln Dn G i0 j0 s0 t0 f0 from Or.inl (fun q => absurd (hb1.mpr q) (by rw [zI_0.mp h34]; decide))) hW
      ·
        refine lv_aload_n hx hb dd_Xi_entry_37 rfl (lv_at hl 0 rfl) ?_
        refine gf_Xi_19 E hM wx rfl dd_Xi_entry_38 ?_
        refine lv_iload_n hx hb dd_Xi_entry_41 rfl (lv_at hl 2 rfl) ?_
        refine mw_V (As := [.int (nI j0)]) (rest := []) E (cc_Id_isOurs l D z (M) xi t le de ic Ln Dn G j0 hI hO hj0) ky_Id_isOurs kv_Id_isOurs tw_Xi_105 hM hS wd9 rfl rfl rfl hl.1 rfl (Nat.le_of_ble_eq_true rfl) dd_Xi_entry_42 (by first | decide | exact ⟨by dsimp only; omega, by dsimp only; omega⟩) (by decide) (fun v M1 H locs hp hM hS => ?_)
        obtain ⟨b2, rfl, hb2, hq⟩ := hp
        have hq := hq.symm
        subst hq
        refine W.eq (g2 := F0 m 45 ls [.int (zI b2)]) rfl ?_
        refine lv_if_eq (tgt := 84) hx hb dd_Xi_entry_45 (by decide) (fun h45 => ?_) (fun h45 => ?_)
        ·
          exact absurd (show en_wr Ln Dn G i0 j0 s0 t0 f0 from Or.inr (Or.inl (fun q => absurd (hb2.mpr q) (by rw [zI_0.mp h45]; decide)))) hW
        ·
          refine lv_iload_n hx hb dd_Xi_entry_48 rfl (lv_at hl 3 rfl) ?_
          refine lv_iconst (v := nI 1) hx hb dd_Xi_entry_49 (by decide) ?_
          refine lv_icmp_lt (tgt := 84) hx hb dd_Xi_entry_50 (by decide) (fun h50 => ?_) (fun h50 => ?_)
          ·
            exact absurd (show en_wr Ln Dn G i0 j0 s0 t0 f0 from Or.inr (Or.inr (Or.inl (by unfold mo_out; rw [decide_eq_true (h50), Bool.true_or])))) hW
          ·
            refine lv_iload_n hx hb dd_Xi_entry_53 rfl (lv_at hl 3 rfl) ?_
            refine lv_ldc (v := 65535) hx hb E.o (E.t _ tw_Xi_108) dd_Xi_entry_54 ?_
            refine mw_topi (y := nI 65535) (by decide) ?_
            refine lv_icmp_gt (tgt := 84) hx hb dd_Xi_entry_56 (by decide) (fun h56 => ?_) (fun h56 => ?_)
            ·
              exact absurd (show en_wr Ln Dn G i0 j0 s0 t0 f0 from Or.inr (Or.inr (Or.inl (by unfold mo_out; rw [decide_eq_true (h56), Bool.or_true])))) hW
            ·
              refine lv_iload hx hb dd_Xi_entry_59 (lv_at hl 4 rfl) ?_
              refine lv_iconst (v := nI 1) hx hb dd_Xi_entry_61 (by decide) ?_
              refine lv_icmp_lt (tgt := 84) hx hb dd_Xi_entry_62 (by decide) (fun h62 => ?_) (fun h62 => ?_)
              ·
                exact absurd (show en_wr Ln Dn G i0 j0 s0 t0 f0 from Or.inr (Or.inr (Or.inr (Or.inl (by unfold mo_out; rw [decide_eq_true (h62), Bool.true_or]))))) hW
              ·
                refine lv_iload hx hb dd_Xi_entry_65 (lv_at hl 4 rfl) ?_
                refine lv_bipush (v := nI 64) hx hb dd_Xi_entry_67 (by decide) ?_
                refine lv_icmp_gt (tgt := 84) hx hb dd_Xi_entry_69 (by decide) (fun h69 => ?_) (fun h69 => ?_)
                ·
                  exact absurd (show en_wr Ln Dn G i0 j0 s0 t0 f0 from Or.inr (Or.inr (Or.inr (Or.inl (by unfold mo_out; rw [decide_eq_true (h69), Bool.or_true]))))) hW
                ·
                  refine lv_iload hx hb dd_Xi_entry_72 (lv_at hl 5 rfl) ?_
                  refine lv_if_lt (tgt := 84) hx hb dd_Xi_entry_74 (by decide) (fun h74 => ?_) (fun h74 => ?_)
                  ·
                    exact absurd (show en_wr Ln Dn G i0 j0 s0 t0 f0 from Or.inr (Or.inr (Or.inr (Or.inr (by unfold mo_out; rw [decide_eq_true (show f0 < nI 0 from h74), Bool.true_or]))))) hW
                  ·
                    refine lv_iload hx hb dd_Xi_entry_77 (lv_at hl 5 rfl) ?_
                    refine lv_bipush (v := nI 15) hx hb dd_Xi_entry_79 (by decide) ?_
                    refine lv_icmp_le (tgt := 88) hx hb dd_Xi_entry_81 (by decide) (fun h81 => ?_) (fun h81 => ?_)
                    ·
                      refine lv_aload_n hx hb dd_Xi_entry_88 rfl (lv_at hl 0 rfl) ?_
                      refine gf_Xi_26 E hM wx rfl dd_Xi_entry_89 ?_
                      refine mw_V (As := []) (rest := []) E (ce_full l D z (M) hes (by omega)) ky_Es_isFull kv_Es_isFull tw_Xi_109 hM hS we9 rfl rfl rfl hl.1 rfl (Nat.le_of_ble_eq_true rfl) dd_Xi_entry_92 (by first | decide | exact ⟨by dsimp only; omega, by dsimp only; omega⟩) (by decide) (fun v M1 H locs hp hM hS => ?_)
                      obtain ⟨rfl, hq⟩ := hp
                      have hq := hq.symm
                      subst hq
                      refine W.eq (g2 := F0 m 95 ls [.int (zI (decide (60 ≤ mk) || decide (12 ≤ es.length)))]) rfl ?_
                      refine lv_if_eq (tgt := 102) hx hb dd_Xi_entry_95 (by decide) (fun h95 => ?_) (fun h95 => ?_)
                      ·
                        exact absurd (zI_0.mp h95) (by rcases hfu with q | q <;> rw [decide_eq_true q] <;> simp)
                      ·
                        refine lv_sipush (v := -1003) hx hb dd_Xi_entry_98 (by decide) ?_
                        refine mr_i E hr hk hM hS (by decide) (by decide) ?_ dd_Xi_entry_101
                        exact ⟨rfl, rfl⟩
                    ·
                      exact absurd (show en_wr Ln Dn G i0 j0 s0 t0 f0 from Or.inr (Or.inr (Or.inr (Or.inr (by unfold mo_out; rw [decide_eq_true (Int32.not_le.mp h81), Bool.or_true]))))) hW
    ·
      exact absurd h19 (by decide)
theorem cc_Xi_entry_y (l : Launch) (D : va_G) (z : Nat) (M : mw_M) (x xb xi xk xe xa xw xl xr xt rn cu : Nat) (fo ck se : Int32) (t le de ic : Nat) (Ln Dn : Nat → Nat) (G : Nat → Nat → Nat) (el er mk i0 j0 : Nat) (s0 t0 f0 : Int32) (es : List Nat) (EF : Nat → Nat → Int32) (ent : Nat → Nat) (wx : M x = some (.inr (0, [.ref xb, .ref xi, .ref xk, .ref xe, .ref xa, .ref xw, .ref xl, .ref xr, .ref xt, .int (fo), .int (ck), .int (se), .ref rn, .ref cu]))) (hI : id_at D M xi t le de ic Ln Dn G) (hO : id_ok ic Ln Dn G) (hes : es_at D M xe el er mk es EF ent) (hmk : mk < 2 ^ 20) (hi0 : i0 < ic) (hj0 : j0 < ic) (hW : ¬ en_wr Ln Dn G i0 j0 s0 t0 f0) (hfu : ¬ (60 ≤ mk ∨ 12 ≤ es.length)) (hlt : ∀ e : Nat, e ∈ es → e < mk) : mw_C l yy_Xi_entry bb_Xi_entry 6 (Option.some Jvm.ClassFile.FieldType.int) 8 182 2 21 D z M [.ref x, .int (nI i0), .int (nI j0), .int (s0), .int (t0), .int (f0)] (fun v M' => v = some (.int (nI mk)) ∧ ∃ q er', M q = none ∧ M' q = some (.inr (9, [.int (nI mk), .int (nI i0), .int (nI j0), .int s0, .int t0, .int f0])) ∧ es_at D M' xe el er' (mk + 1) (es ++ [mk]) (va_up EF mk (fun j => if j = 0 then nI mk else if j = 1 then nI i0 else if j = 2 then nI j0 else if j = 3 then s0 else if j = 4 then t0 else f0)) (va_up ent mk q) ∧ mw_fr (fun q => q = xe ∨ q = el ∨ q = er) M M' ∧ (er' = er ∨ M er' = none)) := by
  refine mw_of (by decide) (Nat.le_of_ble_eq_true rfl) ?_
  intro p e s m below meth c ls E hr hk hnm hM hl
  have hx := E.x
  have hb := E.b
  have E : mw_E p m c bb_Xi_entry 6 s _ D z "IdentityIssuer" := E
  have hl : lv_has ls 6 [(0, .ref x), (1, .int (nI i0)), (2, .int (nI j0)), (3, .int (s0)), (4, .int (t0)), (5, .int (f0))] := hl
  have hS : va_S (mw_A z) s.heap s.heap [] := va_S.rf
  have hF : mw_fr (fun q => q = xe ∨ q = el ∨ q = er) M M := mw_fr.rf
  have hic := hO.1
  obtain ⟨o9, fl9, fd9, T9, wd9, -⟩ := id hI
  have we9 := hes.1
  refine lv_aload_n hx hb dd_Xi_entry_0 rfl (lv_at hl 0 rfl) ?_
  refine gf_Xi_19 E hM wx rfl dd_Xi_entry_1 ?_
  refine lv_iload_n hx hb dd_Xi_entry_4 rfl (lv_at hl 1 rfl) ?_
  refine mw_V (As := [.int (nI i0)]) (rest := []) E (cc_Id_isThere l D z (M) xi t le de ic (nI i0) wd9 (by omega)) ky_Id_isThere kv_Id_isThere tw_Xi_98 hM hS wd9 rfl rfl rfl hl.1 rfl (Nat.le_of_ble_eq_true rfl) dd_Xi_entry_5 (by first | decide | exact ⟨by dsimp only; omega, by dsimp only; omega⟩) (by decide) (fun v M1 H locs hp hM hS => ?_)
  obtain ⟨rfl, hq⟩ := hp
  have hq := hq.symm
  subst hq
  rw [xi_hasN hi0 (by omega)]
  refine W.eq (g2 := F0 m 8 ls [.int (zI true)]) rfl ?_
  refine lv_if_eq (tgt := 22) hx hb dd_Xi_entry_8 (by decide) (fun h8 => ?_) (fun h8 => ?_)
  ·
    exact absurd h8 (by decide)
  ·
    refine lv_aload_n hx hb dd_Xi_entry_11 rfl (lv_at hl 0 rfl) ?_
    refine gf_Xi_19 E hM wx rfl dd_Xi_entry_12 ?_
    refine lv_iload_n hx hb dd_Xi_entry_15 rfl (lv_at hl 2 rfl) ?_
    refine mw_V (As := [.int (nI j0)]) (rest := []) E (cc_Id_isThere l D z (M) xi t le de ic (nI j0) wd9 (by omega)) ky_Id_isThere kv_Id_isThere tw_Xi_98 hM hS wd9 rfl rfl rfl hl.1 rfl (Nat.le_of_ble_eq_true rfl) dd_Xi_entry_16 (by first | decide | exact ⟨by dsimp only; omega, by dsimp only; omega⟩) (by decide) (fun v M1 H locs hp hM hS => ?_)
    obtain ⟨rfl, hq⟩ := hp
    have hq := hq.symm
    subst hq
    rw [xi_hasN hj0 (by omega)]
    refine W.eq (g2 := F0 m 19 ls [.int (zI true)]) rfl ?_
    refine lv_if_ne (tgt := 26) hx hb dd_Xi_entry_19 (by decide) (fun h19 => ?_) (fun h19 => ?_)
    ·
      refine lv_aload_n hx hb dd_Xi_entry_26 rfl (lv_at hl 0 rfl) ?_
      refine gf_Xi_19 E hM wx rfl dd_Xi_entry_27 ?_
      refine lv_iload_n hx hb dd_Xi_entry_30 rfl (lv_at hl 1 rfl) ?_
      refine mw_V (As := [.int (nI i0)]) (rest := []) E (cc_Id_mayBeHeld l D z (M) xi t le de ic Ln Dn G i0 hI hO hi0) ky_Id_mayBeHeld kv_Id_mayBeHeld tw_Xi_102 hM hS wd9 rfl rfl rfl hl.1 rfl (Nat.le_of_ble_eq_true rfl) dd_Xi_entry_31 (by first | decide | exact ⟨by dsimp only; omega, by dsimp only; omega⟩) (by decide) (fun v M1 H locs hp hM hS => ?_)
      obtain ⟨b1, rfl, hb1, hq⟩ := hp
      have hq := hq.symm
      subst hq
      refine W.eq (g2 := F0 m 34 ls [.int (zI b1)]) rfl ?_
      refine lv_if_eq (tgt := 84) hx hb dd_Xi_entry_34 (by decide) (fun h34 => ?_) (fun h34 => ?_)
      ·
        exact absurd (show en_wr Ln Dn G i0 j0 s0 t0 f0 from Or.inl (fun q => absurd (hb1.mpr q) (by rw [zI_0.mp h34]; decide))) hW
      ·
        refine lv_aload_n hx hb dd_Xi_entry_37 rfl (lv_at hl 0 rfl) ?_
        refine gf_Xi_19 E hM wx rfl dd_Xi_entry_38 ?_
        refine lv_iload_n hx hb dd_Xi_entry_41 rfl (lv_at hl 2 rfl) ?_
        refine mw_V (As := [.int (nI j0)]) (rest := []) E (cc_Id_isOurs l D z (M) xi t le de ic Ln Dn G j0 hI hO hj0) ky_Id_isOurs kv_Id_isOurs tw_Xi_105 hM hS wd9 rfl rfl rfl hl.1 rfl (Nat.le_of_ble_eq_true rfl) dd_Xi_entry_42 (by first | decide | exact ⟨by dsimp only; omega, by dsimp only; omega⟩) (by decide) (fun v M1 H locs hp hM hS => ?_)
        obtain ⟨b2, rfl, hb2, hq⟩ := hp
        have hq := hq.symm
        subst hq
        refine W.eq (g2 := F0 m 45 ls [.int (zI b2)]) rfl ?_
        refine lv_if_eq (tgt := 84) hx hb dd_Xi_entry_45 (by decide) (fun h45 => ?_) (fun h45 => ?_)
        ·
          exact absurd (show en_wr Ln Dn G i0 j0 s0 t0 f0 from Or.inr (Or.inl (fun q => absurd (hb2.mpr q) (by rw [zI_0.mp h45]; decide)))) hW
        ·
          refine lv_iload_n hx hb dd_Xi_entry_48 rfl (lv_at hl 3 rfl) ?_
          refine lv_iconst (v := nI 1) hx hb dd_Xi_entry_49 (by decide) ?_
          refine lv_icmp_lt (tgt := 84) hx hb dd_Xi_entry_50 (by decide) (fun h50 => ?_) (fun h50 => ?_)
          ·
            exact absurd (show en_wr Ln Dn G i0 j0 s0 t0 f0 from Or.inr (Or.inr (Or.inl (by unfold mo_out; rw [decide_eq_true (h50), Bool.true_or])))) hW
          ·
            refine lv_iload_n hx hb dd_Xi_entry_53 rfl (lv_at hl 3 rfl) ?_
            refine lv_ldc (v := 65535) hx hb E.o (E.t _ tw_Xi_108) dd_Xi_entry_54 ?_
            refine mw_topi (y := nI 65535) (by decide) ?_
            refine lv_icmp_gt (tgt := 84) hx hb dd_Xi_entry_56 (by decide) (fun h56 => ?_) (fun h56 => ?_)
            ·
              exact absurd (show en_wr Ln Dn G i0 j0 s0 t0 f0 from Or.inr (Or.inr (Or.inl (by unfold mo_out; rw [decide_eq_true (h56), Bool.or_true])))) hW
            ·
              refine lv_iload hx hb dd_Xi_entry_59 (lv_at hl 4 rfl) ?_
              refine lv_iconst (v := nI 1) hx hb dd_Xi_entry_61 (by decide) ?_
              refine lv_icmp_lt (tgt := 84) hx hb dd_Xi_entry_62 (by decide) (fun h62 => ?_) (fun h62 => ?_)
              ·
                exact absurd (show en_wr Ln Dn G i0 j0 s0 t0 f0 from Or.inr (Or.inr (Or.inr (Or.inl (by unfold mo_out; rw [decide_eq_true (h62), Bool.true_or]))))) hW
              ·
                refine lv_iload hx hb dd_Xi_entry_65 (lv_at hl 4 rfl) ?_
                refine lv_bipush (v := nI 64) hx hb dd_Xi_entry_67 (by decide) ?_
                refine lv_icmp_gt (tgt := 84) hx hb dd_Xi_entry_69 (by decide) (fun h69 => ?_) (fun h69 => ?_)
                ·
                  exact absurd (show en_wr Ln Dn G i0 j0 s0 t0 f0 from Or.inr (Or.inr (Or.inr (Or.inl (by unfold mo_out; rw [decide_eq_true (h69), Bool.or_true]))))) hW
                ·
                  refine lv_iload hx hb dd_Xi_entry_72 (lv_at hl 5 rfl) ?_
                  refine lv_if_lt (tgt := 84) hx hb dd_Xi_entry_74 (by decide) (fun h74 => ?_) (fun h74 => ?_)
                  ·
                    exact absurd (show en_wr Ln Dn G i0 j0 s0 t0 f0 from Or.inr (Or.inr (Or.inr (Or.inr (by unfold mo_out; rw [decide_eq_true (show f0 < nI 0 from h74), Bool.true_or]))))) hW
                  ·
                    refine lv_iload hx hb dd_Xi_entry_77 (lv_at hl 5 rfl) ?_
                    refine lv_bipush (v := nI 15) hx hb dd_Xi_entry_79 (by decide) ?_
                    refine lv_icmp_le (tgt := 88) hx hb dd_Xi_entry_81 (by decide) (fun h81 => ?_) (fun h81 => ?_)
                    ·
                      refine lv_aload_n hx hb dd_Xi_entry_88 rfl (lv_at hl 0 rfl) ?_
                      refine gf_Xi_26 E hM wx rfl dd_Xi_entry_89 ?_
                      refine mw_V (As := []) (rest := []) E (ce_full l D z (M) hes (by omega)) ky_Es_isFull kv_Es_isFull tw_Xi_109 hM hS we9 rfl rfl rfl hl.1 rfl (Nat.le_of_ble_eq_true rfl) dd_Xi_entry_92 (by first | decide | exact ⟨by dsimp only; omega, by dsimp only; omega⟩) (by decide) (fun v M1 H locs hp hM hS => ?_)
                      obtain ⟨rfl, hq⟩ := hp
                      have hq := hq.symm
                      subst hq
                      refine W.eq (g2 := F0 m 95 ls [.int (zI (decide (60 ≤ mk) || decide (12 ≤ es.length)))]) rfl ?_
                      refine lv_if_eq (tgt := 102) hx hb dd_Xi_entry_95 (by decide) (fun h95 => ?_) (fun h95 => ?_)
                      ·
                        refine lv_aload_n hx hb dd_Xi_entry_102 rfl (lv_at hl 0 rfl) ?_
                        refine gf_Xi_26 E hM wx rfl dd_Xi_entry_103 ?_
                        refine lv_iload_n hx hb dd_Xi_entry_106 rfl (lv_at hl 1 rfl) ?_
                        refine lv_iload_n hx hb dd_Xi_entry_107 rfl (lv_at hl 2 rfl) ?_
                        refine lv_iload_n hx hb dd_Xi_entry_108 rfl (lv_at hl 3 rfl) ?_
                        refine lv_iload hx hb dd_Xi_entry_109 (lv_at hl 4 rfl) ?_
                        refine lv_iload hx hb dd_Xi_entry_111 (lv_at hl 5 rfl) ?_
                        refine mw_V (As := [.int (nI i0), .int (nI j0), .int (s0), .int (t0), .int (f0)]) (rest := []) E (ce_make l D z (M) (nI i0) (nI j0) s0 t0 f0 hes hlt (by omega)) ky_Es_make kv_Es_make tw_Xi_113 hM hS we9 rfl rfl rfl hl.1 rfl (Nat.le_of_ble_eq_true rfl) dd_Xi_entry_113 (by first | decide | exact ⟨by dsimp only; omega, by dsimp only; omega⟩) (by decide) (fun v M1 H locs hp hM hS => ?_)
                        obtain ⟨rfl, q9, er', a1, a2, a3, a4, a5⟩ := hp
                        refine W.eq (g2 := F0 m 116 ls [.int (nI mk)]) rfl ?_
                        refine mr_i E hr hk hM hS (by decide) (by decide) ?_ dd_Xi_entry_116
                        exact ⟨rfl, q9, er', a1, a2, a3, a4, a5⟩
                      ·
                        exact absurd (show zI (decide (60 ≤ mk) || decide (12 ≤ es.length)) = 0 by rw [decide_eq_false (fun q => hfu (Or.inl q)), decide_eq_false (fun q => hfu (Or.inr q))]; rfl) h95
                    ·
                      exact absurd (show en_wr Ln Dn G i0 j0 s0 t0 f0 from Or.inr (Or.inr (Or.inr (Or.inr (by unfold mo_out; rw [decide_eq_true (Int32.not_le.mp h81), Bool.or_true]))))) hW
    ·
      exact absurd h19 (by decide)
theorem cc_Xi_remove (l : Launch) (D : va_G) (z : Nat) (M : mw_M) (x xb xi xk xe xa xw xl xr xt rn cu : Nat) (fo ck se : Int32) (el er mk : Nat) (n0 : Int32) (es : List Nat) (EF : Nat → Nat → Int32) (ent : Nat → Nat) (wx : M x = some (.inr (0, [.ref xb, .ref xi, .ref xk, .ref xe, .ref xa, .ref xw, .ref xl, .ref xr, .ref xt, .int (fo), .int (ck), .int (se), .ref rn, .ref cu]))) (hes : es_at D M xe el er mk es EF ent) : mw_C l yy_Xi_remove bb_Xi_remove 2 (Option.some Jvm.ClassFile.FieldType.boolean) 4 94 0 0 D z M [.ref x, .int (n0)] (fun v M' => (∃ i e : Nat, es[i]? = some e ∧ (∀ j e' : Nat, j < i → es[j]? = some e' → EF e' 0 ≠ n0) ∧ EF e 0 = n0 ∧ v = some (.int 1) ∧ es_at D M' xe el er mk (es.eraseIdx i) EF ent ∧ mw_fr (fun q => q = el ∨ q = er) M M') ∨ ((∀ e : Nat, e ∈ es → EF e 0 ≠ n0) ∧ v = some (.int 0) ∧ M' = M)) := by
  refine mw_of (by decide) (Nat.le_of_ble_eq_true rfl) ?_
  intro p e s m below meth c ls E hr hk hnm hM hl
  have hx := E.x
  have hb := E.b
  have E : mw_E p m c bb_Xi_remove 2 s _ D z "IdentityIssuer" := E
  have hl : lv_has ls 2 [(0, .ref x), (1, .int (n0))] := hl
  have hS : va_S (mw_A z) s.heap s.heap [] := va_S.rf
  have we9 := hes.1
  refine lv_aload_n hx hb dd_Xi_remove_0 rfl (lv_at hl 0 rfl) ?_
  refine gf_Xi_26 E hM wx rfl dd_Xi_remove_1 ?_
  refine lv_iload_n hx hb dd_Xi_remove_4 rfl (lv_at hl 1 rfl) ?_
  refine mw_V (As := [.int (n0)]) (rest := []) E (ce_drop l D z (M) n0 hes) ky_Es_drop kv_Es_drop tw_Xi_117 hM hS we9 rfl rfl rfl hl.1 rfl (Nat.le_of_ble_eq_true rfl) dd_Xi_remove_5 (by first | decide | exact ⟨by dsimp only; omega, by dsimp only; omega⟩) (by decide) (fun v M1 H locs hp hM hS => ?_)
  rcases hp with ⟨i0, e0, a1, a2, a3, rfl, a4, a5⟩ | ⟨a1, rfl, hq⟩
  ·
    refine W.eq (g2 := F0 m 8 ls [.int (1)]) rfl ?_
    refine mr_z E hr hk hM hS (by decide) (by decide) (rfl) ?_ dd_Xi_remove_8
    exact Or.inl ⟨i0, e0, a1, a2, a3, rfl, a4, a5⟩
  ·
    have hq := hq.symm
    subst hq
    refine W.eq (g2 := F0 m 8 ls [.int (0)]) rfl ?_
    refine mr_z E hr hk hM hS (by decide) (by decide) (rfl) ?_ dd_Xi_remove_8
    exact Or.inr ⟨a1, rfl, rfl⟩
theorem cc_Xi_attest_w (l : Launch) (D : va_G) (z : Nat) (M : mw_M) (x xb xi xk xe xa xw xl xr xt rn cu : Nat) (fo ck se : Int32) (t le de ic : Nat) (Ln Dn : Nat → Nat) (G : Nat → Nat → Nat) (ar i0 : Nat) (s0 : Int32) (ags : List Nat) (AI : Nat → Int32) (wx : M x = some (.inr (0, [.ref xb, .ref xi, .ref xk, .ref xe, .ref xa, .ref xw, .ref xl, .ref xr, .ref xt, .int (fo), .int (ck), .int (se), .ref rn, .ref cu]))) (hI : id_at D M xi t le de ic Ln Dn G) (hO : id_ok ic Ln Dn G) (hag : al_at D M xa ar ags) (hai : ∀ j y : Nat, ags[j]? = some y → ∃ k s0 f0 e0 g0, M y = some (.inr (10, [.int (AI j), .ref k, .int s0, .int f0, .int e0, .int g0]))) (hi0 : i0 < ic) (hW : at_wr Ln Dn G i0 s0) : mw_C l yy_Xi_attest bb_Xi_attest 4 (Option.some Jvm.ClassFile.FieldType.int) 4 83 0 0 D z M [.ref x, .int (nI i0), .int (s0)] (fun v M' => v = some (.int (-1002)) ∧ M' = M) := by
  refine mw_of (by decide) (Nat.le_of_ble_eq_true rfl) ?_
  intro p e s m below meth c ls E hr hk hnm hM hl
  have hx := E.x
  have hb := E.b
  have E : mw_E p m c bb_Xi_attest 4 s _ D z "IdentityIssuer" := E
  have hl : lv_has ls 4 [(0, .ref x), (1, .int (nI i0)), (2, .int (s0))] := hl
  have hS : va_S (mw_A z) s.heap s.heap [] := va_S.rf
  have hic := hO.1
  obtain ⟨o9, fl9, fd9, T9, wd9, -⟩ := id hI
  obtain ⟨moa, wa9⟩ := hag.cell
  have hle := hag.le
  refine lv_aload_n hx hb dd_Xi_attest_0 rfl (lv_at hl 0 rfl) ?_
  refine gf_Xi_19 E hM wx rfl dd_Xi_attest_1 ?_
  refine lv_iload_n hx hb dd_Xi_attest_4 rfl (lv_at hl 1 rfl) ?_
  refine mw_V (As := [.int (nI i0)]) (rest := []) E (cc_Id_isThere l D z (M) xi t le de ic (nI i0) wd9 (by omega)) ky_Id_isThere kv_Id_isThere tw_Xi_98 hM hS wd9 rfl rfl rfl hl.1 rfl (Nat.le_of_ble_eq_true rfl) dd_Xi_attest_5 (by first | decide | exact ⟨by dsimp only; omega, by dsimp only; omega⟩) (by decide) (fun v M1 H locs hp hM hS => ?_)
  obtain ⟨rfl, hq⟩ := hp
  have hq := hq.symm
  subst hq
  rw [xi_hasN hi0 (by omega)]
  refine W.eq (g2 := F0 m 8 ls [.int (zI true)]) rfl ?_
  refine lv_if_ne (tgt := 15) hx hb dd_Xi_attest_8 (by decide) (fun h8 => ?_) (fun h8 => ?_)
  ·
    refine lv_aload_n hx hb dd_Xi_attest_15 rfl (lv_at hl 0 rfl) ?_
    refine gf_Xi_19 E hM wx rfl dd_Xi_attest_16 ?_
    refine lv_iload_n hx hb dd_Xi_attest_19 rfl (lv_at hl 1 rfl) ?_
    refine mw_V (As := [.int (nI i0)]) (rest := []) E (cc_Id_mayBeHeld l D z (M) xi t le de ic Ln Dn G i0 hI hO hi0) ky_Id_mayBeHeld kv_Id_mayBeHeld tw_Xi_102 hM hS wd9 rfl rfl rfl hl.1 rfl (Nat.le_of_ble_eq_true rfl) dd_Xi_attest_20 (by first | decide | exact ⟨by dsimp only; omega, by dsimp only; omega⟩) (by decide) (fun v M1 H locs hp hM hS => ?_)
    obtain ⟨b1, rfl, hb1, hq⟩ := hp
    have hq := hq.symm
    subst hq
    refine W.eq (g2 := F0 m 23 ls [.int (zI b1)]) rfl ?_
    refine lv_if_eq (tgt := 36) hx hb dd_Xi_attest_23 (by decide) (fun h23 => ?_) (fun h23 => ?_)
    ·
      refine lv_sipush (v := -1002) hx hb dd_Xi_attest_36 (by decide) ?_
      refine mr_i E hr hk hM hS (by decide) (by decide) ?_ dd_Xi_attest_39
      exact ⟨rfl, rfl⟩
    ·
      refine lv_iload_n hx hb dd_Xi_attest_26 rfl (lv_at hl 2 rfl) ?_
      refine lv_if_lt (tgt := 36) hx hb dd_Xi_attest_27 (by decide) (fun h27 => ?_) (fun h27 => ?_)
      ·
        refine lv_sipush (v := -1002) hx hb dd_Xi_attest_36 (by decide) ?_
        refine mr_i E hr hk hM hS (by decide) (by decide) ?_ dd_Xi_attest_39
        exact ⟨rfl, rfl⟩
      ·
        refine lv_iload_n hx hb dd_Xi_attest_30 rfl (lv_at hl 2 rfl) ?_
        refine lv_ldc (v := 65535) hx hb E.o (E.t _ tw_Xi_108) dd_Xi_attest_31 ?_
        refine mw_topi (y := nI 65535) (by decide) ?_
        refine lv_icmp_le (tgt := 40) hx hb dd_Xi_attest_33 (by decide) (fun h33 => ?_) (fun h33 => ?_)
        ·
          exact absurd hW (fun q => q.elim (fun q => q (hb1.mp (Bool.of_not_eq_false (fun q => h23 (zI_0.mpr q))))) (fun q => absurd q (by unfold mo_out; rw [decide_eq_false (show ¬ s0 < nI 0 from h27), decide_eq_false (Int32.not_lt.mpr h33)]; decide)))
        ·
          refine lv_sipush (v := -1002) hx hb dd_Xi_attest_36 (by decide) ?_
          refine mr_i E hr hk hM hS (by decide) (by decide) ?_ dd_Xi_attest_39
          exact ⟨rfl, rfl⟩
  ·
    exact absurd h8 (by decide)
theorem cc_Xi_addAgent_f (l : Launch) (D : va_G) (z : Nat) (M : mw_M) (x xb xi xk xe xa xw xl xr xt rn cu : Nat) (fo ck se : Int32) (ar : Nat) (i0 s0 : Int32) (ags : List Nat) (wx : M x = some (.inr (0, [.ref xb, .ref xi, .ref xk, .ref xe, .ref xa, .ref xw, .ref xl, .ref xr, .ref xt, .int (fo), .int (ck), .int (se), .ref rn, .ref cu]))) (hag : al_at D M xa ar ags) (h3 : 3 ≤ ags.length) : mw_C l yy_Xi_addAgent bb_Xi_addAgent 3 (Option.some Jvm.ClassFile.FieldType.int) 1 20 0 0 D z M [.ref x, .int (i0), .int (s0)] (fun v M' => v = some (.int (-1003)) ∧ M' = M) := by
  refine mw_of (by decide) (Nat.le_of_ble_eq_true rfl) ?_
  intro p e s m below meth c ls E hr hk hnm hM hl
  have hx := E.x
  have hb := E.b
  have E : mw_E p m c bb_Xi_addAgent 3 s _ D z "IdentityIssuer" := E
  have hl : lv_has ls 3 [(0, .ref x), (1, .int (i0)), (2, .int (s0))] := hl
  have hS : va_S (mw_A z) s.heap s.heap [] := va_S.rf
  obtain ⟨moa, wa9⟩ := hag.cell
  have hle := hag.le
  refine lv_aload_n hx hb dd_Xi_addAgent_0 rfl (lv_at hl 0 rfl) ?_
  refine gf_Xi_33 E hM wx rfl dd_Xi_addAgent_1 ?_
  refine mw_V (As := []) (rest := []) E (la_size (k := ags.length) l D z (M) hag (rfl)) ky_AL_size kv_AL_size tw_Xi_182 hM hS wa9 rfl rfl rfl hl.1 rfl (Nat.le_of_ble_eq_true rfl) dd_Xi_addAgent_4 (by first | decide | exact ⟨by dsimp only; omega, by dsimp only; omega⟩) (by decide) (fun v M1 H locs hp hM hS => ?_)
  obtain ⟨rfl, hq⟩ := hp
  have hq := hq.symm
  subst hq
  refine W.eq (g2 := F0 m 7 ls [.int (nI ags.length)]) rfl ?_
  refine lv_iconst (v := nI 3) hx hb dd_Xi_addAgent_7 (by decide) ?_
  refine lv_icmp_lt (tgt := 15) hx hb dd_Xi_addAgent_8 (by decide) (fun h8 => ?_) (fun h8 => ?_)
  ·
    rw [nI_ltI (by omega) (by omega)] at h8
    omega
  ·
    rw [nI_ltI (by omega) (by omega)] at h8
    refine lv_sipush (v := -1003) hx hb dd_Xi_addAgent_11 (by decide) ?_
    refine mr_i E hr hk hM hS (by decide) (by decide) ?_ dd_Xi_addAgent_14
    exact ⟨rfl, rfl⟩
theorem els_ok.old2 {M M1 : mw_M} {L : List Nat} (h : els_ok M L) (hF : mw_fr (fun q => M q = none) M M1) : els_ok M1 L := fun y hy => by
  obtain ⟨ci, vs, rr, w, h1⟩ := h y hy
  exact ⟨ci, vs, rr, hF.old w, h1⟩
theorem cc_Xi_addAgent (l : Launch) (D : va_G) (z : Nat) (M : mw_M) (x xb xi xk xe xa xw xl xr xt rn cu : Nat) (fo ck se : Int32) (ar : Nat) (i0 s0 : Int32) (ags : List Nat) (wx : M x = some (.inr (0, [.ref xb, .ref xi, .ref xk, .ref xe, .ref xa, .ref xw, .ref xl, .ref xr, .ref xt, .int (fo), .int (ck), .int (se), .ref rn, .ref cu]))) (hag : al_at D M xa ar ags) (hel : els_ok M ags) (h3 : ags.length < 3) : mw_C l yy_Xi_addAgent bb_Xi_addAgent 3 (Option.some Jvm.ClassFile.FieldType.int) 7 157 3 24 D z M [.ref x, .int (i0), .int (s0)] (fun v M' => v = some (.int (nI ags.length)) ∧ ∃ q kq ar', M q = none ∧ M kq = none ∧ M' q = some (.inr (10, [.int i0, .ref kq, .int s0, .int 0, .int 0, .int 0])) ∧ al_at D M' kq (D.2 200 0) [] ∧ al_at D M' xa ar' (ags ++ [q]) ∧ mw_fr (fun q => q = xa ∨ q = ar) M M' ∧ (ar' = ar ∨ M ar' = none)) := by
  refine mw_of (by decide) (Nat.le_of_ble_eq_true rfl) ?_
  intro p e s m below meth c ls E hr hk hnm hM hl
  have hx := E.x
  have hb := E.b
  have E : mw_E p m c bb_Xi_addAgent 3 s _ D z "IdentityIssuer" := E
  have hl : lv_has ls 3 [(0, .ref x), (1, .int (i0)), (2, .int (s0))] := hl
  have hS : va_S (mw_A z) s.heap s.heap [] := va_S.rf
  have hF : mw_fr (fun q => M q = none) M M := mw_fr.rf
  obtain ⟨moa, wa9⟩ := hag.cell
  have wx0 := wx
  have wa0 := wa9
  have hag0 := hag
  have hle := hag.le
  refine lv_aload_n hx hb dd_Xi_addAgent_0 rfl (lv_at hl 0 rfl) ?_
  refine gf_Xi_33 E hM wx rfl dd_Xi_addAgent_1 ?_
  refine mw_V (As := []) (rest := []) E (la_size (k := ags.length) l D z (M) hag (rfl)) ky_AL_size kv_AL_size tw_Xi_182 hM hS wa9 rfl rfl rfl hl.1 rfl (Nat.le_of_ble_eq_true rfl) dd_Xi_addAgent_4 (by first | decide | exact ⟨by dsimp only; omega, by dsimp only; omega⟩) (by decide) (fun v M1 H locs hp hM hS => ?_)
  obtain ⟨rfl, hq⟩ := hp
  have hq := hq.symm
  subst hq
  refine W.eq (g2 := F0 m 7 ls [.int (nI ags.length)]) rfl ?_
  refine lv_iconst (v := nI 3) hx hb dd_Xi_addAgent_7 (by decide) ?_
  refine lv_icmp_lt (tgt := 15) hx hb dd_Xi_addAgent_8 (by decide) (fun h8 => ?_) (fun h8 => ?_)
  ·
    rw [nI_ltI (by omega) (by omega)] at h8
    refine lv_aload_n hx hb dd_Xi_addAgent_15 rfl (lv_at hl 0 rfl) ?_
    refine gf_Xi_33 E hM wx rfl dd_Xi_addAgent_16 ?_
    refine mw_new (C := "IdentityIssuer$Agent") (T := ff_Ag) (N := 6) (ci := 10) (fs := [.int (0), .null, .int (0), .int (0), .int (0), .int (0)]) hx hb E.t in_Ag tt_Ag ty_Ag E.o (E.t _ tw_Xi_135) (E.t _ tw_inst_Ag) (E.t _ tw_ini_Ag) E.K hM E.zz hS rfl (by decide +kernel) (by decide) (by decide) dd_Xi_addAgent_19 (fun q19 H hq19 hM hS => ?_)
    have hM : mw_at D mg_cl z (va_up M q19 (some (.inr (10, [.int (0), .null, .int (0), .int (0), .int (0), .int (0)])))) H := hM
    obtain ⟨M1, hM1⟩ : ∃ M9 : mw_M, M9 = va_up M q19 (some (.inr (10, [.int (0), .null, .int (0), .int (0), .int (0), .int (0)]))) := ⟨_, rfl⟩
    rw [← hM1] at hM
    have wx := mw_un hM1 hq19 wx
    have wa9 := mw_un hM1 hq19 wa9
    have w_q19 := mw_us hM1
    have hF := mw_fn hM1 hq19 hF
    have hag := hag.new hM1 hq19 (mw_st0 (mw_stZ E.Z) hM)
    refine lv_dup hx hb dd_Xi_addAgent_22 rfl ?_
    refine lv_iload_n hx hb dd_Xi_addAgent_23 rfl (lv_at hl 1 rfl) ?_
    refine lv_iload_n hx hb dd_Xi_addAgent_24 rfl (lv_at hl 2 rfl) ?_
    refine mw_I (As := [.int (i0), .int (s0)]) (rest := [.ref q19, .ref xa]) E (ag_new l D z (M1) i0 s0 w_q19) ky_Ag_init kv_Ag_init tw_Xi_286 hM hS rfl hl.1 rfl (Nat.le_of_ble_eq_true rfl) dd_Xi_addAgent_25 (by first | decide | exact ⟨by dsimp only; omega, by dsimp only; omega⟩) (by decide) (fun v M1 H locs hp hM hS => ?_)
    obtain ⟨rfl, kq, hkq, wq9, hk9, hF2⟩ := hp
    have hkq0 : M kq = none := Classical.byContradiction (fun n9 => hF.2 _ n9 hkq)
    have hF := hF.tr2 hF2 (fun q h => Or.inl (by show M q = none; rw [h]; exact hq19))
    have wx := hF.old wx0
    have wa9 := hF.old wa0
    have hag := hag0.old hk9.1 hF
    refine W.eq (g2 := F0 m 28 ls [.ref q19, .ref xa]) rfl ?_
    refine mw_V (As := [.ref q19]) (rest := []) E (la_add (y := q19) l D z (M1) hag (by omega) (els_ok.old2 hel hF) wq9 rfl (by decide +kernel) (by decide)) ky_AL_add kv_AL_add tw_Xi_189 hM hS wa9 rfl rfl rfl hl.1 rfl (Nat.le_of_ble_eq_true rfl) dd_Xi_addAgent_28 (by first | decide | exact ⟨by dsimp only; omega, by dsimp only; omega⟩) (by decide) (fun v M1 H locs hp hM hS => ?_)
    obtain ⟨rfl, ar', hL2, hF3, har⟩ := hp
    have wx := hF3.at wx (fun q => q.elim (mw_ne wx wa9 (fun q => by cases q)) (hag.nr wx))
    have wq9 := hF3.at wq9 (fun q => q.elim (mw_ne wq9 wa9 (fun q => by cases q)) (hag.nr wq9))
    obtain ⟨mok, wkq⟩ := hk9.cell
    have hk9 := hk9.fr hL2.1 hF3 (fun q => q.elim (fun q => (mw_neN wa0 hkq0) q.symm) (hag.nr wkq)) (fun y _ => y (hk9.zr rfl))
    have har : ar' = ar ∨ M ar' = none := har.imp id (fun y => Classical.byContradiction (fun n9 => hF.2 _ n9 y))
    have hF : mw_fr (fun q => q = xa ∨ q = ar) M M1 := ((mw_fr.rf (P := fun q => q = xa ∨ q = ar)).tr2 hF (fun q h => Or.inr h)).tr2 hF3 (fun q h => Or.inl h)
    obtain ⟨mo9, wa9⟩ := hL2.cell
    refine W.eq (g2 := F0 m 31 ls [.int (1)]) rfl ?_
    refine lv_pop hx hb dd_Xi_addAgent_31 rfl ?_
    refine lv_aload_n hx hb dd_Xi_addAgent_32 rfl (lv_at hl 0 rfl) ?_
    refine gf_Xi_33 E hM wx rfl dd_Xi_addAgent_33 ?_
    refine mw_V (As := []) (rest := []) E (la_size (k := ags.length + 1) l D z (M1) hL2 (by rw [List.length_append]; rfl)) ky_AL_size kv_AL_size tw_Xi_182 hM hS wa9 rfl rfl rfl hl.1 rfl (Nat.le_of_ble_eq_true rfl) dd_Xi_addAgent_36 (by first | decide | exact ⟨by dsimp only; omega, by dsimp only; omega⟩) (by decide) (fun v M1 H locs hp hM hS => ?_)
    obtain ⟨rfl, hq⟩ := hp
    have hq := hq.symm
    subst hq
    refine W.eq (g2 := F0 m 39 ls [.int (nI (ags.length + 1))]) rfl ?_
    refine lv_iconst (v := nI 1) hx hb dd_Xi_addAgent_39 (by decide) ?_
    refine lv_isub hx hb dd_Xi_addAgent_40 ?_
    refine mw_topi (y := nI ((ags.length + 1) - 1)) (pk_sub (by omega)) ?_
    refine mr_i E hr hk hM hS (by decide) (by decide) ?_ dd_Xi_addAgent_41
    exact ⟨by rw [Nat.add_sub_cancel], q19, kq, ar', hq19, hkq0, wq9, hk9, hL2, hF, har⟩
  ·
    rw [nI_ltI (by omega) (by omega)] at h8
    omega
theorem cc_Xi_attest_f (l : Launch) (D : va_G) (z : Nat) (M : mw_M) (x xb xi xk xe xa xw xl xr xt rn cu : Nat) (fo ck se : Int32) (t le de ic : Nat) (Ln Dn : Nat → Nat) (G : Nat → Nat → Nat) (ar i0 : Nat) (s0 : Int32) (ags : List Nat) (AI : Nat → Int32) (wx : M x = some (.inr (0, [.ref xb, .ref xi, .ref xk, .ref xe, .ref xa, .ref xw, .ref xl, .ref xr, .ref xt, .int (fo), .int (ck), .int (se), .ref rn, .ref cu]))) (hI : id_at D M xi t le de ic Ln Dn G) (hO : id_ok ic Ln Dn G) (hag : al_at D M xa ar ags) (hai : ∀ j y : Nat, ags[j]? = some y → ∃ k s0 f0 e0 g0, M y = some (.inr (10, [.int (AI j), .ref k, .int s0, .int f0, .int e0, .int g0]))) (hi0 : i0 < ic) (hW : ¬ at_wr Ln Dn G i0 s0) (hno : ∀ q : Nat, q < ags.length → AI q ≠ nI i0) (h3 : 3 ≤ ags.length) : mw_C l yy_Xi_attest bb_Xi_attest 4 (Option.some Jvm.ClassFile.FieldType.int) 4 86 0 0 D z M [.ref x, .int (nI i0), .int (s0)] (fun v M' => v = some (.int (-1003)) ∧ M' = M) := by
  refine mw_of (by decide) (Nat.le_of_ble_eq_true rfl) ?_
  intro p e s m below meth c ls E hr hk hnm hM hl
  have hx := E.x
  have hb := E.b
  have E : mw_E p m c bb_Xi_attest 4 s _ D z "IdentityIssuer" := E
  have hl : lv_has ls 4 [(0, .ref x), (1, .int (nI i0)), (2, .int (s0))] := hl
  have hS : va_S (mw_A z) s.heap s.heap [] := va_S.rf
  have hic := hO.1
  obtain ⟨o9, fl9, fd9, T9, wd9, -⟩ := id hI
  obtain ⟨moa, wa9⟩ := hag.cell
  have hle := hag.le
  refine lv_aload_n hx hb dd_Xi_attest_0 rfl (lv_at hl 0 rfl) ?_
  refine gf_Xi_19 E hM wx rfl dd_Xi_attest_1 ?_
  refine lv_iload_n hx hb dd_Xi_attest_4 rfl (lv_at hl 1 rfl) ?_
  refine mw_V (As := [.int (nI i0)]) (rest := []) E (cc_Id_isThere l D z (M) xi t le de ic (nI i0) wd9 (by omega)) ky_Id_isThere kv_Id_isThere tw_Xi_98 hM hS wd9 rfl rfl rfl hl.1 rfl (Nat.le_of_ble_eq_true rfl) dd_Xi_attest_5 (by first | decide | exact ⟨by dsimp only; omega, by dsimp only; omega⟩) (by decide) (fun v M1 H locs hp hM hS => ?_)
  obtain ⟨rfl, hq⟩ := hp
  have hq := hq.symm
  subst hq
  rw [xi_hasN hi0 (by omega)]
  refine W.eq (g2 := F0 m 8 ls [.int (zI true)]) rfl ?_
  refine lv_if_ne (tgt := 15) hx hb dd_Xi_attest_8 (by decide) (fun h8 => ?_) (fun h8 => ?_)
  ·
    refine lv_aload_n hx hb dd_Xi_attest_15 rfl (lv_at hl 0 rfl) ?_
    refine gf_Xi_19 E hM wx rfl dd_Xi_attest_16 ?_
    refine lv_iload_n hx hb dd_Xi_attest_19 rfl (lv_at hl 1 rfl) ?_
    refine mw_V (As := [.int (nI i0)]) (rest := []) E (cc_Id_mayBeHeld l D z (M) xi t le de ic Ln Dn G i0 hI hO hi0) ky_Id_mayBeHeld kv_Id_mayBeHeld tw_Xi_102 hM hS wd9 rfl rfl rfl hl.1 rfl (Nat.le_of_ble_eq_true rfl) dd_Xi_attest_20 (by first | decide | exact ⟨by dsimp only; omega, by dsimp only; omega⟩) (by decide) (fun v M1 H locs hp hM hS => ?_)
    obtain ⟨b1, rfl, hb1, hq⟩ := hp
    have hq := hq.symm
    subst hq
    refine W.eq (g2 := F0 m 23 ls [.int (zI b1)]) rfl ?_
    refine lv_if_eq (tgt := 36) hx hb dd_Xi_attest_23 (by decide) (fun h23 => ?_) (fun h23 => ?_)
    ·
      exact absurd (show at_wr Ln Dn G i0 s0 from Or.inl (fun q => absurd (hb1.mpr q) (by rw [zI_0.mp h23]; decide))) hW
    ·
      refine lv_iload_n hx hb dd_Xi_attest_26 rfl (lv_at hl 2 rfl) ?_
      refine lv_if_lt (tgt := 36) hx hb dd_Xi_attest_27 (by decide) (fun h27 => ?_) (fun h27 => ?_)
      ·
        exact absurd (show at_wr Ln Dn G i0 s0 from Or.inr (by unfold mo_out; rw [decide_eq_true (show s0 < nI 0 from h27), Bool.true_or])) hW
      ·
        refine lv_iload_n hx hb dd_Xi_attest_30 rfl (lv_at hl 2 rfl) ?_
        refine lv_ldc (v := 65535) hx hb E.o (E.t _ tw_Xi_108) dd_Xi_attest_31 ?_
        refine mw_topi (y := nI 65535) (by decide) ?_
        refine lv_icmp_le (tgt := 40) hx hb dd_Xi_attest_33 (by decide) (fun h33 => ?_) (fun h33 => ?_)
        ·
          refine lv_aload_n hx hb dd_Xi_attest_40 rfl (lv_at hl 0 rfl) ?_
          refine lv_iload_n hx hb dd_Xi_attest_41 rfl (lv_at hl 1 rfl) ?_
          refine mw_V (As := [.int (nI i0)]) (rest := []) E (cc_Xi_agentWith l D z (M) x xb xi xk xe xa xw xl xr xt rn cu fo ck se ar ags AI (nI i0) wx hag hai) ky_Xi_agentWith kv_Xi_agentWith tw_Xi_124 hM hS wx rfl rfl rfl hl.1 rfl (Nat.le_of_ble_eq_true rfl) dd_Xi_attest_42 (by first | decide | exact ⟨by dsimp only; omega, by dsimp only; omega⟩) (by decide) (fun v M1 H locs hp hM hS => ?_)
          obtain ⟨hc, hq⟩ := hp
          have hq := hq.symm
          subst hq
          rcases hc with ⟨j1, c1, c2, c3, rfl⟩ | ⟨c1, rfl⟩
          ·
            exact absurd c2 (hno j1 c1)
          ·
            refine W.eq (g2 := F0 m 45 ls [.int (-1)]) rfl ?_
            refine lv_istore_n (lv' := [(3, .int (-1)), (0, .ref x), (1, .int (nI i0)), (2, .int (s0))]) hx hb dd_Xi_attest_45 rfl hl (by decide) rfl (fun ls hl => ?_)
            refine lv_iload_n hx hb dd_Xi_attest_46 rfl (lv_at hl 0 rfl) ?_
            refine lv_iconst (v := -1) hx hb dd_Xi_attest_47 (by decide) ?_
            refine lv_icmp_ne (tgt := 58) hx hb dd_Xi_attest_48 (by decide) (fun h48 => ?_) (fun h48 => ?_)
            ·
              exact absurd rfl h48
            ·
              refine lv_aload_n hx hb dd_Xi_attest_51 rfl (lv_at hl 1 rfl) ?_
              refine lv_iload_n hx hb dd_Xi_attest_52 rfl (lv_at hl 2 rfl) ?_
              refine lv_iload_n hx hb dd_Xi_attest_53 rfl (lv_at hl 3 rfl) ?_
              refine mw_V (As := [.int (nI i0), .int (s0)]) (rest := []) E (cc_Xi_addAgent_f l D z (M) x xb xi xk xe xa xw xl xr xt rn cu fo ck se ar (nI i0) s0 ags wx hag h3) ky_Xi_addAgent kv_Xi_addAgent tw_Xi_128 hM hS wx rfl rfl rfl hl.1 rfl (Nat.le_of_ble_eq_true rfl) dd_Xi_attest_54 (by first | decide | exact ⟨by dsimp only; omega, by dsimp only; omega⟩) (by decide) (fun v M1 H locs hp hM hS => ?_)
              obtain ⟨rfl, hq⟩ := hp
              have hq := hq.symm
              subst hq
              refine W.eq (g2 := F0 m 57 ls [.int (-1003)]) rfl ?_
              refine mr_i E hr hk hM hS (by decide) (by decide) ?_ dd_Xi_attest_57
              exact ⟨rfl, rfl⟩
        ·
          exact absurd (show at_wr Ln Dn G i0 s0 from Or.inr (by unfold mo_out; rw [decide_eq_true (Int32.not_le.mp h33), Bool.or_true])) hW
  ·
    exact absurd h8 (by decide)
theorem cc_Xi_attest_n (l : Launch) (D : va_G) (z : Nat) (M : mw_M) (x xb xi xk xe xa xw xl xr xt rn cu : Nat) (fo ck se : Int32) (t le de ic : Nat) (Ln Dn : Nat → Nat) (G : Nat → Nat → Nat) (ar i0 : Nat) (s0 : Int32) (ags : List Nat) (AI : Nat → Int32) (wx : M x = some (.inr (0, [.ref xb, .ref xi, .ref xk, .ref xe, .ref xa, .ref xw, .ref xl, .ref xr, .ref xt, .int (fo), .int (ck), .int (se), .ref rn, .ref cu]))) (hI : id_at D M xi t le de ic Ln Dn G) (hO : id_ok ic Ln Dn G) (hag : al_at D M xa ar ags) (hai : ∀ j y : Nat, ags[j]? = some y → ∃ k s0 f0 e0 g0, M y = some (.inr (10, [.int (AI j), .ref k, .int s0, .int f0, .int e0, .int g0]))) (hi0 : i0 < ic) (hW : ¬ at_wr Ln Dn G i0 s0) (hno : ∀ q : Nat, q < ags.length → AI q ≠ nI i0) (hel : els_ok M ags) (h3 : ags.length < 3) : mw_C l yy_Xi_attest bb_Xi_attest 4 (Option.some Jvm.ClassFile.FieldType.int) 8 179 3 24 D z M [.ref x, .int (nI i0), .int (s0)] (fun v M' => v = some (.int (nI ags.length)) ∧ ∃ q kq ar', M q = none ∧ M kq = none ∧ M' q = some (.inr (10, [.int (nI i0), .ref kq, .int s0, .int 0, .int 0, .int 0])) ∧ al_at D M' kq (D.2 200 0) [] ∧ al_at D M' xa ar' (ags ++ [q]) ∧ mw_fr (fun q => q = xa ∨ q = ar) M M' ∧ (ar' = ar ∨ M ar' = none)) := by
  refine mw_of (by decide) (Nat.le_of_ble_eq_true rfl) ?_
  intro p e s m below meth c ls E hr hk hnm hM hl
  have hx := E.x
  have hb := E.b
  have E : mw_E p m c bb_Xi_attest 4 s _ D z "IdentityIssuer" := E
  have hl : lv_has ls 4 [(0, .ref x), (1, .int (nI i0)), (2, .int (s0))] := hl
  have hS : va_S (mw_A z) s.heap s.heap [] := va_S.rf
  have hic := hO.1
  obtain ⟨o9, fl9, fd9, T9, wd9, -⟩ := id hI
  obtain ⟨moa, wa9⟩ := hag.cell
  have hle := hag.le
  refine lv_aload_n hx hb dd_Xi_attest_0 rfl (lv_at hl 0 rfl) ?_
  refine gf_Xi_19 E hM wx rfl dd_Xi_attest_1 ?_
  refine lv_iload_n hx hb dd_Xi_attest_4 rfl (lv_at hl 1 rfl) ?_
  refine mw_V (As := [.int (nI i0)]) (rest := []) E (cc_Id_isThere l D z (M) xi t le de ic (nI i0) wd9 (by omega)) ky_Id_isThere kv_Id_isThere tw_Xi_98 hM hS wd9 rfl rfl rfl hl.1 rfl (Nat.le_of_ble_eq_true rfl) dd_Xi_attest_5 (by first | decide | exact ⟨by dsimp only; omega, by dsimp only; omega⟩) (by decide) (fun v M1 H locs hp hM hS => ?_)
  obtain ⟨rfl, hq⟩ := hp
  have hq := hq.symm
  subst hq
  rw [xi_hasN hi0 (by omega)]
  refine W.eq (g2 := F0 m 8 ls [.int (zI true)]) rfl ?_
  refine lv_if_ne (tgt := 15) hx hb dd_Xi_attest_8 (by decide) (fun h8 => ?_) (fun h8 => ?_)
  ·
    refine lv_aload_n hx hb dd_Xi_attest_15 rfl (lv_at hl 0 rfl) ?_
    refine gf_Xi_19 E hM wx rfl dd_Xi_attest_16 ?_
    refine lv_iload_n hx hb dd_Xi_attest_19 rfl (lv_at hl 1 rfl) ?_
    refine mw_V (As := [.int (nI i0)]) (rest := []) E (cc_Id_mayBeHeld l D z (M) xi t le de ic Ln Dn G i0 hI hO hi0) ky_Id_mayBeHeld kv_Id_mayBeHeld tw_Xi_102 hM hS wd9 rfl rfl rfl hl.1 rfl (Nat.le_of_ble_eq_true rfl) dd_Xi_attest_20 (by first | decide | exact ⟨by dsimp only; omega, by dsimp only; omega⟩) (by decide) (fun v M1 H locs hp hM hS => ?_)
    obtain ⟨b1, rfl, hb1, hq⟩ := hp
    have hq := hq.symm
    subst hq
    refine W.eq (g2 := F0 m 23 ls [.int (zI b1)]) rfl ?_
    refine lv_if_eq (tgt := 36) hx hb dd_Xi_attest_23 (by decide) (fun h23 => ?_) (fun h23 => ?_)
    ·
      exact absurd (show at_wr Ln Dn G i0 s0 from Or.inl (fun q => absurd (hb1.mpr q) (by rw [zI_0.mp h23]; decide))) hW
    ·
      refine lv_iload_n hx hb dd_Xi_attest_26 rfl (lv_at hl 2 rfl) ?_
      refine lv_if_lt (tgt := 36) hx hb dd_Xi_attest_27 (by decide) (fun h27 => ?_) (fun h27 => ?_)
      ·
        exact absurd (show at_wr Ln Dn G i0 s0 from Or.inr (by unfold mo_out; rw [decide_eq_true (show s0 < nI 0 from h27), Bool.true_or])) hW
      ·
        refine lv_iload_n hx hb dd_Xi_attest_30 rfl (lv_at hl 2 rfl) ?_
        refine lv_ldc (v := 65535) hx hb E.o (E.t _ tw_Xi_108) dd_Xi_attest_31 ?_
        refine mw_topi (y := nI 65535) (by decide) ?_
        refine lv_icmp_le (tgt := 40) hx hb dd_Xi_attest_33 (by decide) (fun h33 => ?_) (fun h33 => ?_)
        ·
          refine lv_aload_n hx hb dd_Xi_attest_40 rfl (lv_at hl 0 rfl) ?_
          refine lv_iload_n hx hb dd_Xi_attest_41 rfl (lv_at hl 1 rfl) ?_
          refine mw_V (As := [.int (nI i0)]) (rest := []) E (cc_Xi_agentWith l D z (M) x xb xi xk xe xa xw xl xr xt rn cu fo ck se ar ags AI (nI i0) wx hag hai) ky_Xi_agentWith kv_Xi_agentWith tw_Xi_124 hM hS wx rfl rfl rfl hl.1 rfl (Nat.le_of_ble_eq_true rfl) dd_Xi_attest_42 (by first | decide | exact ⟨by dsimp only; omega, by dsimp only; omega⟩) (by decide) (fun v M1 H locs hp hM hS => ?_)
          obtain ⟨hc, hq⟩ := hp
          have hq := hq.symm
          subst hq
          rcases hc with ⟨j1, c1, c2, c3, rfl⟩ | ⟨c1, rfl⟩
          ·
            exact absurd c2 (hno j1 c1)
          ·
            refine W.eq (g2 := F0 m 45 ls [.int (-1)]) rfl ?_
            refine lv_istore_n (lv' := [(3, .int (-1)), (0, .ref x), (1, .int (nI i0)), (2, .int (s0))]) hx hb dd_Xi_attest_45 rfl hl (by decide) rfl (fun ls hl => ?_)
            refine lv_iload_n hx hb dd_Xi_attest_46 rfl (lv_at hl 0 rfl) ?_
            refine lv_iconst (v := -1) hx hb dd_Xi_attest_47 (by decide) ?_
            refine lv_icmp_ne (tgt := 58) hx hb dd_Xi_attest_48 (by decide) (fun h48 => ?_) (fun h48 => ?_)
            ·
              exact absurd rfl h48
            ·
              refine lv_aload_n hx hb dd_Xi_attest_51 rfl (lv_at hl 1 rfl) ?_
              refine lv_iload_n hx hb dd_Xi_attest_52 rfl (lv_at hl 2 rfl) ?_
              refine lv_iload_n hx hb dd_Xi_attest_53 rfl (lv_at hl 3 rfl) ?_
              refine mw_V (As := [.int (nI i0), .int (s0)]) (rest := []) E (cc_Xi_addAgent l D z (M) x xb xi xk xe xa xw xl xr xt rn cu fo ck se ar (nI i0) s0 ags wx hag hel h3) ky_Xi_addAgent kv_Xi_addAgent tw_Xi_128 hM hS wx rfl rfl rfl hl.1 rfl (Nat.le_of_ble_eq_true rfl) dd_Xi_attest_54 (by first | decide | exact ⟨by dsimp only; omega, by dsimp only; omega⟩) (by decide) (fun v M1 H locs hp hM hS => ?_)
              obtain ⟨rfl, hN⟩ := hp
              refine W.eq (g2 := F0 m 57 ls [.int (nI ags.length)]) rfl ?_
              refine mr_i E hr hk hM hS (by decide) (by decide) ?_ dd_Xi_attest_57
              exact ⟨rfl, hN⟩
        ·
          exact absurd (show at_wr Ln Dn G i0 s0 from Or.inr (by unfold mo_out; rw [decide_eq_true (Int32.not_le.mp h33), Bool.or_true])) hW
  ·
    exact absurd h8 (by decide)
theorem cc_Xi_attest_a (l : Launch) (D : va_G) (z : Nat) (M : mw_M) (x xb xi xk xe xa xw xl xr xt rn cu : Nat) (fo ck se : Int32) (t le de ic : Nat) (Ln Dn : Nat → Nat) (G : Nat → Nat → Nat) (ar i0 : Nat) (s0 : Int32) (ags : List Nat) (AI : Nat → Int32) (j y kl kr : Nat) (a_s a_f a_e a_g : Int32) (L0 : List Nat) (wx : M x = some (.inr (0, [.ref xb, .ref xi, .ref xk, .ref xe, .ref xa, .ref xw, .ref xl, .ref xr, .ref xt, .int (fo), .int (ck), .int (se), .ref rn, .ref cu]))) (hI : id_at D M xi t le de ic Ln Dn G) (hO : id_ok ic Ln Dn G) (hag : al_at D M xa ar ags) (hai : ∀ j y : Nat, ags[j]? = some y → ∃ k s0 f0 e0 g0, M y = some (.inr (10, [.int (AI j), .ref k, .int s0, .int f0, .int e0, .int g0]))) (hi0 : i0 < ic) (hW : ¬ at_wr Ln Dn G i0 s0) (hj : ags[j]? = some y) (hji : AI j = nI i0) (hjm : ∀ q : Nat, q < j → AI q ≠ nI i0) (wy : M y = some (.inr (10, [.int (nI i0), .ref kl, .int (a_s), .int (a_f), .int (a_e), .int (a_g)]))) (hkl : al_at D M kl kr L0) : mw_C l yy_Xi_attest bb_Xi_attest 4 (Option.some Jvm.ClassFile.FieldType.int) 4 86 0 0 D z M [.ref x, .int (nI i0), .int (s0)] (fun v M' => v = some (.int (nI j)) ∧ M' y = some (.inr (10, [.int (nI i0), .ref kl, .int (s0), .int (nI 0), .int (nI 0), .int (nI 0)])) ∧ al_at D M' kl kr [] ∧ mw_fr (fun q => q = y ∨ q = kl ∨ q = kr) M M') := by
  refine mw_of (by decide) (Nat.le_of_ble_eq_true rfl) ?_
  intro p e s m below meth c ls E hr hk hnm hM hl
  have hx := E.x
  have hb := E.b
  have E : mw_E p m c bb_Xi_attest 4 s _ D z "IdentityIssuer" := E
  have hl : lv_has ls 4 [(0, .ref x), (1, .int (nI i0)), (2, .int (s0))] := hl
  have hS : va_S (mw_A z) s.heap s.heap [] := va_S.rf
  have hic := hO.1
  obtain ⟨o9, fl9, fd9, T9, wd9, -⟩ := id hI
  obtain ⟨moa, wa9⟩ := hag.cell
  have hle := hag.le
  refine lv_aload_n hx hb dd_Xi_attest_0 rfl (lv_at hl 0 rfl) ?_
  refine gf_Xi_19 E hM wx rfl dd_Xi_attest_1 ?_
  refine lv_iload_n hx hb dd_Xi_attest_4 rfl (lv_at hl 1 rfl) ?_
  refine mw_V (As := [.int (nI i0)]) (rest := []) E (cc_Id_isThere l D z (M) xi t le de ic (nI i0) wd9 (by omega)) ky_Id_isThere kv_Id_isThere tw_Xi_98 hM hS wd9 rfl rfl rfl hl.1 rfl (Nat.le_of_ble_eq_true rfl) dd_Xi_attest_5 (by first | decide | exact ⟨by dsimp only; omega, by dsimp only; omega⟩) (by decide) (fun v M1 H locs hp hM hS => ?_)
  obtain ⟨rfl, hq⟩ := hp
  have hq := hq.symm
  subst hq
  rw [xi_hasN hi0 (by omega)]
  refine W.eq (g2 := F0 m 8 ls [.int (zI true)]) rfl ?_
  refine lv_if_ne (tgt := 15) hx hb dd_Xi_attest_8 (by decide) (fun h8 => ?_) (fun h8 => ?_)
  ·
    refine lv_aload_n hx hb dd_Xi_attest_15 rfl (lv_at hl 0 rfl) ?_
    refine gf_Xi_19 E hM wx rfl dd_Xi_attest_16 ?_
    refine lv_iload_n hx hb dd_Xi_attest_19 rfl (lv_at hl 1 rfl) ?_
    refine mw_V (As := [.int (nI i0)]) (rest := []) E (cc_Id_mayBeHeld l D z (M) xi t le de ic Ln Dn G i0 hI hO hi0) ky_Id_mayBeHeld kv_Id_mayBeHeld tw_Xi_102 hM hS wd9 rfl rfl rfl hl.1 rfl (Nat.le_of_ble_eq_true rfl) dd_Xi_attest_20 (by first | decide | exact ⟨by dsimp only; omega, by dsimp only; omega⟩) (by decide) (fun v M1 H locs hp hM hS => ?_)
    obtain ⟨b1, rfl, hb1, hq⟩ := hp
    have hq := hq.symm
    subst hq
    refine W.eq (g2 := F0 m 23 ls [.int (zI b1)]) rfl ?_
    refine lv_if_eq (tgt := 36) hx hb dd_Xi_attest_23 (by decide) (fun h23 => ?_) (fun h23 => ?_)
    ·
      exact absurd (show at_wr Ln Dn G i0 s0 from Or.inl (fun q => absurd (hb1.mpr q) (by rw [zI_0.mp h23]; decide))) hW
    ·
      refine lv_iload_n hx hb dd_Xi_attest_26 rfl (lv_at hl 2 rfl) ?_
      refine lv_if_lt (tgt := 36) hx hb dd_Xi_attest_27 (by decide) (fun h27 => ?_) (fun h27 => ?_)
      ·
        exact absurd (show at_wr Ln Dn G i0 s0 from Or.inr (by unfold mo_out; rw [decide_eq_true (show s0 < nI 0 from h27), Bool.true_or])) hW
      ·
        refine lv_iload_n hx hb dd_Xi_attest_30 rfl (lv_at hl 2 rfl) ?_
        refine lv_ldc (v := 65535) hx hb E.o (E.t _ tw_Xi_108) dd_Xi_attest_31 ?_
        refine mw_topi (y := nI 65535) (by decide) ?_
        refine lv_icmp_le (tgt := 40) hx hb dd_Xi_attest_33 (by decide) (fun h33 => ?_) (fun h33 => ?_)
        ·
          refine lv_aload_n hx hb dd_Xi_attest_40 rfl (lv_at hl 0 rfl) ?_
          refine lv_iload_n hx hb dd_Xi_attest_41 rfl (lv_at hl 1 rfl) ?_
          refine mw_V (As := [.int (nI i0)]) (rest := []) E (cc_Xi_agentWith l D z (M) x xb xi xk xe xa xw xl xr xt rn cu fo ck se ar ags AI (nI i0) wx hag hai) ky_Xi_agentWith kv_Xi_agentWith tw_Xi_124 hM hS wx rfl rfl rfl hl.1 rfl (Nat.le_of_ble_eq_true rfl) dd_Xi_attest_42 (by first | decide | exact ⟨by dsimp only; omega, by dsimp only; omega⟩) (by decide) (fun v M1 H locs hp hM hS => ?_)
          obtain ⟨hc, hq⟩ := hp
          have hq := hq.symm
          subst hq
          rcases hc with ⟨j1, c1, c2, c3, rfl⟩ | ⟨c1, rfl⟩
          ·
            have hjj1 : j1 = j := by
              rcases Nat.lt_trichotomy j1 j with q | q | q
              · exact absurd c2 (hjm j1 q)
              · exact q
              · exact absurd hji (c3 j q)
            subst hjj1
            refine W.eq (g2 := F0 m 45 ls [.int (nI j1)]) rfl ?_
            refine lv_istore_n (lv' := [(3, .int (nI j1)), (0, .ref x), (1, .int (nI i0)), (2, .int (s0))]) hx hb dd_Xi_attest_45 rfl hl (by decide) rfl (fun ls hl => ?_)
            refine lv_iload_n hx hb dd_Xi_attest_46 rfl (lv_at hl 0 rfl) ?_
            refine lv_iconst (v := -1) hx hb dd_Xi_attest_47 (by decide) ?_
            refine lv_icmp_ne (tgt := 58) hx hb dd_Xi_attest_48 (by decide) (fun h48 => ?_) (fun h48 => ?_)
            ·
              refine lv_aload_n hx hb dd_Xi_attest_58 rfl (lv_at hl 1 rfl) ?_
              refine gf_Xi_33 E hM wx rfl dd_Xi_attest_59 ?_
              refine lv_iload_n hx hb dd_Xi_attest_62 rfl (lv_at hl 0 rfl) ?_
              refine mw_V (As := [.int (nI j1)]) (rest := []) E (la_get (y := y) l D z (M) hag (hj)) ky_AL_get kv_AL_get tw_Xi_131 hM hS wa9 rfl rfl rfl hl.1 rfl (Nat.le_of_ble_eq_true rfl) dd_Xi_attest_63 (by first | decide | exact ⟨by dsimp only; omega, by dsimp only; omega⟩) (by decide) (fun v M1 H locs hp hM hS => ?_)
              obtain ⟨rfl, hq⟩ := hp
              have hq := hq.symm
              subst hq
              refine W.eq (g2 := F0 m 66 ls [.ref y]) rfl ?_
              refine va_castY (C := "IdentityIssuer$Agent") hx hb E.o (E.t _ tw_Xi_135) (E.N.2.2.1 ("IdentityIssuer$Agent", "IdentityIssuer$Agent") (by decide)) (mw_recv E.K hM rfl wy) dd_Xi_attest_66 ?_
              refine lv_iload_n hx hb dd_Xi_attest_69 rfl (lv_at hl 3 rfl) ?_
              refine mw_V (As := [.int (s0)]) (rest := []) E (cc_Ag_attestAgain l D z (M) y kl kr (nI i0) a_s a_f a_e a_g s0 L0 wy hkl) ky_Ag_attestAgain kv_Ag_attestAgain tw_Xi_137 hM hS wy rfl rfl rfl hl.1 rfl (Nat.le_of_ble_eq_true rfl) dd_Xi_attest_70 (by first | decide | exact ⟨by dsimp only; omega, by dsimp only; omega⟩) (by decide) (fun v M1 H locs hp hM hS => ?_)
              obtain ⟨rfl, a1, a2, a3⟩ := hp
              refine W.eq (g2 := F0 m 73 ls []) rfl ?_
              refine lv_iload_n hx hb dd_Xi_attest_73 rfl (lv_at hl 0 rfl) ?_
              refine mr_i E hr hk hM hS (by decide) (by decide) ?_ dd_Xi_attest_74
              exact ⟨rfl, a1, a2, a3⟩
            ·
              exact absurd h48.symm (nI_nm1 (by omega))
          ·
            exact absurd hji (c1 j (List.getElem?_eq_some_iff.mp hj).1)
        ·
          exact absurd (show at_wr Ln Dn G i0 s0 from Or.inr (by unfold mo_out; rw [decide_eq_true (Int32.not_le.mp h33), Bool.or_true])) hW
  ·
    exact absurd h8 (by decide)
theorem cc_Xi_watch_y (l : Launch) (D : va_G) (z : Nat) (M : mw_M) (x xb xi xk xe xa xw xl xr xt rn cu : Nat) (fo ck se : Int32) (ar wr j y : Nat) (sel : Int32) (ags wts : List Nat) (vy : List Value) (wx : M x = some (.inr (0, [.ref xb, .ref xi, .ref xk, .ref xe, .ref xa, .ref xw, .ref xl, .ref xr, .ref xt, .int (fo), .int (ck), .int (se), .ref rn, .ref cu]))) (hag : al_at D M xa ar ags) (hj : ags[j]? = some y) (wy : M y = some (.inr (10, vy))) (hwt : al_at D M xw wr wts) (hel : els_ok M wts) (h4 : wts.length < 4) (hxx : xa ≠ xw) : mw_C l yy_Xi_watch bb_Xi_watch 3 (Option.some Jvm.ClassFile.FieldType.int) 7 157 4 26 D z M [.ref x, .int (nI j), .int (sel)] (fun v M' => v = some (.int (nI wts.length)) ∧ ∃ q d cl wr', M q = none ∧ M d = none ∧ M cl = none ∧ M' q = some (.inr (12, [.ref y, .int sel, .ref d, .int 0])) ∧ M' d = some (.inr (5, [.ref cl, .int (0), .int (0), .int (0)])) ∧ al_at D M' cl (D.2 200 0) [] ∧ al_at D M' xw wr' (wts ++ [q]) ∧ mw_fr (fun q => q = xw ∨ q = wr) M M' ∧ (wr' = wr ∨ M wr' = none)) := by
  refine mw_of (by decide) (Nat.le_of_ble_eq_true rfl) ?_
  intro p e s m below meth c ls E hr hk hnm hM hl
  have hx := E.x
  have hb := E.b
  have E : mw_E p m c bb_Xi_watch 3 s _ D z "IdentityIssuer" := E
  have hl : lv_has ls 3 [(0, .ref x), (1, .int (nI j)), (2, .int (sel))] := hl
  have hS : va_S (mw_A z) s.heap s.heap [] := va_S.rf
  have hF : mw_fr (fun q => M q = none) M M := mw_fr.rf
  obtain ⟨moa, wa9⟩ := hag.cell
  have hjl : j < ags.length := (List.getElem?_eq_some_iff.mp hj).1
  obtain ⟨mow, ww9⟩ := hwt.cell
  have hwl := hwt.le
  have wx0 := wx
  have ww0 := ww9
  have hwt0 := hwt
  refine lv_aload_n hx hb dd_Xi_watch_0 rfl (lv_at hl 0 rfl) ?_
  refine lv_iload_n hx hb dd_Xi_watch_1 rfl (lv_at hl 1 rfl) ?_
  refine mw_V (As := [.int (nI j)]) (rest := []) E (cc_Xi_isAgent l D z (M) x xb xi xk xe xa xw xl xr xt rn cu fo ck se ar ags.length moa (nI j) wx wa9 (by have := hag.le; omega)) ky_Xi_isAgent kv_Xi_isAgent tw_Xi_140 hM hS wx rfl rfl rfl hl.1 rfl (Nat.le_of_ble_eq_true rfl) dd_Xi_watch_2 (by first | decide | exact ⟨by dsimp only; omega, by dsimp only; omega⟩) (by decide) (fun v M1 H locs hp hM hS => ?_)
  obtain ⟨rfl, hq⟩ := hp
  have hq := hq.symm
  subst hq
  refine W.eq (g2 := F0 m 5 ls [.int (zI (xi_has ags.length (nI j)))]) rfl ?_
  refine lv_if_ne (tgt := 12) hx hb dd_Xi_watch_5 (by decide) (fun h5 => ?_) (fun h5 => ?_)
  ·
    refine lv_aload_n hx hb dd_Xi_watch_12 rfl (lv_at hl 0 rfl) ?_
    refine gf_Xi_37 E hM wx rfl dd_Xi_watch_13 ?_
    refine mw_V (As := []) (rest := []) E (la_size (k := wts.length) l D z (M) hwt (rfl)) ky_AL_size kv_AL_size tw_Xi_182 hM hS ww9 rfl rfl rfl hl.1 rfl (Nat.le_of_ble_eq_true rfl) dd_Xi_watch_16 (by first | decide | exact ⟨by dsimp only; omega, by dsimp only; omega⟩) (by decide) (fun v M1 H locs hp hM hS => ?_)
    obtain ⟨rfl, hq⟩ := hp
    have hq := hq.symm
    subst hq
    refine W.eq (g2 := F0 m 19 ls [.int (nI wts.length)]) rfl ?_
    refine lv_iconst (v := nI 4) hx hb dd_Xi_watch_19 (by decide) ?_
    refine lv_icmp_lt (tgt := 27) hx hb dd_Xi_watch_20 (by decide) (fun h20 => ?_) (fun h20 => ?_)
    ·
      rw [nI_ltI (by omega) (by omega)] at h20
      refine lv_aload_n hx hb dd_Xi_watch_27 rfl (lv_at hl 0 rfl) ?_
      refine gf_Xi_37 E hM wx rfl dd_Xi_watch_28 ?_
      refine mw_new (C := "IdentityIssuer$Watcher") (T := ff_Wa) (N := 4) (ci := 12) (fs := [.null, .int (0), .null, .int (0)]) hx hb E.t in_Wa tt_Wa ty_Wa E.o (E.t _ tw_Xi_185) (E.t _ tw_inst_Wa) (E.t _ tw_ini_Wa) E.K hM E.zz hS rfl (by decide +kernel) (by decide) (by decide) dd_Xi_watch_31 (fun q31 H hq31 hM hS => ?_)
      have hM : mw_at D mg_cl z (va_up M q31 (some (.inr (12, [.null, .int (0), .null, .int (0)])))) H := hM
      obtain ⟨M1, hM1⟩ : ∃ M9 : mw_M, M9 = va_up M q31 (some (.inr (12, [.null, .int (0), .null, .int (0)]))) := ⟨_, rfl⟩
      rw [← hM1] at hM
      have wx := mw_un hM1 hq31 wx
      have wa9 := mw_un hM1 hq31 wa9
      have ww9 := mw_un hM1 hq31 ww9
      have wy := mw_un hM1 hq31 wy
      have w_q31 := mw_us hM1
      have hF := mw_fn hM1 hq31 hF
      have hag := hag.new hM1 hq31 (mw_st0 (mw_stZ E.Z) hM)
      have hwt := hwt.new hM1 hq31 (mw_st0 (mw_stZ E.Z) hM)
      refine lv_dup hx hb dd_Xi_watch_34 rfl ?_
      refine lv_aload_n hx hb dd_Xi_watch_35 rfl (lv_at hl 0 rfl) ?_
      refine gf_Xi_33 E hM wx rfl dd_Xi_watch_36 ?_
      refine lv_iload_n hx hb dd_Xi_watch_39 rfl (lv_at hl 1 rfl) ?_
      refine mw_V (As := [.int (nI j)]) (rest := [.ref q31, .ref q31, .ref xw]) E (la_get (y := y) l D z (M1) hag (hj)) ky_AL_get kv_AL_get tw_Xi_131 hM hS wa9 rfl rfl rfl hl.1 rfl (Nat.le_of_ble_eq_true rfl) dd_Xi_watch_40 (by first | decide | exact ⟨by dsimp only; omega, by dsimp only; omega⟩) (by decide) (fun v M1 H locs hp hM hS => ?_)
      obtain ⟨rfl, hq⟩ := hp
      have hq := hq.symm
      subst hq
      refine W.eq (g2 := F0 m 43 ls [.ref y, .ref q31, .ref q31, .ref xw]) rfl ?_
      refine va_castY (C := "IdentityIssuer$Agent") hx hb E.o (E.t _ tw_Xi_135) (E.N.2.2.1 ("IdentityIssuer$Agent", "IdentityIssuer$Agent") (by decide)) (mw_recv E.K hM rfl wy) dd_Xi_watch_43 ?_
      refine lv_iload_n hx hb dd_Xi_watch_46 rfl (lv_at hl 2 rfl) ?_
      refine mw_I (As := [.ref y, .int (sel)]) (rest := [.ref q31, .ref xw]) E (wa_new (w_a := y) l D z (M1) sel w_q31) ky_Wa_init kv_Wa_init tw_Xi_187 hM hS rfl hl.1 rfl (Nat.le_of_ble_eq_true rfl) dd_Xi_watch_47 (by first | decide | exact ⟨by dsimp only; omega, by dsimp only; omega⟩) (by decide) (fun v M1 H locs hp hM hS => ?_)
      obtain ⟨rfl, d9, cl9, hd9, hcl9, wq9, wd9, hk9, hF2⟩ := hp
      have hd0 : M d9 = none := Classical.byContradiction (fun n9 => hF.2 _ n9 hd9)
      have hcl0 : M cl9 = none := Classical.byContradiction (fun n9 => hF.2 _ n9 hcl9)
      have hF := hF.tr2 hF2 (fun q h => Or.inl (by show M q = none; rw [h]; exact hq31))
      have wx := hF.old wx0
      have ww9 := hF.old ww0
      have hwt := hwt0.old hk9.1 hF
      refine W.eq (g2 := F0 m 50 ls [.ref q31, .ref xw]) rfl ?_
      refine mw_V (As := [.ref q31]) (rest := []) E (la_add (y := q31) l D z (M1) hwt (by omega) (els_ok.old2 hel hF) wq9 rfl (by decide +kernel) (by decide)) ky_AL_add kv_AL_add tw_Xi_189 hM hS ww9 rfl rfl rfl hl.1 rfl (Nat.le_of_ble_eq_true rfl) dd_Xi_watch_50 (by first | decide | exact ⟨by dsimp only; omega, by dsimp only; omega⟩) (by decide) (fun v M1 H locs hp hM hS => ?_)
      obtain ⟨rfl, wr', hL2, hF3, har⟩ := hp
      have wx := hF3.at wx (fun q => q.elim (mw_ne wx ww9 (fun q => by cases q)) (hwt.nr wx))
      have wq9 := hF3.at wq9 (fun q => q.elim (mw_ne wq9 ww9 (fun q => by cases q)) (hwt.nr wq9))
      have wd9 := hF3.at wd9 (fun q => q.elim (mw_ne wd9 ww9 (fun q => by cases q)) (hwt.nr wd9))
      obtain ⟨mok, wkq⟩ := hk9.cell
      have hk9 := hk9.fr hL2.1 hF3 (fun q => q.elim (fun q => (mw_neN ww0 hcl0) q.symm) (hwt.nr wkq)) (fun y _ => y (hk9.zr rfl))
      have har : wr' = wr ∨ M wr' = none := har.imp id (fun y => Classical.byContradiction (fun n9 => hF.2 _ n9 y))
      have hF : mw_fr (fun q => q = xw ∨ q = wr) M M1 := ((mw_fr.rf (P := fun q => q = xw ∨ q = wr)).tr2 hF (fun q h => Or.inr h)).tr2 hF3 (fun q h => Or.inl h)
      obtain ⟨mo9, ww9⟩ := hL2.cell
      refine W.eq (g2 := F0 m 53 ls [.int (1)]) rfl ?_
      refine lv_pop hx hb dd_Xi_watch_53 rfl ?_
      refine lv_aload_n hx hb dd_Xi_watch_54 rfl (lv_at hl 0 rfl) ?_
      refine gf_Xi_37 E hM wx rfl dd_Xi_watch_55 ?_
      refine mw_V (As := []) (rest := []) E (la_size (k := wts.length + 1) l D z (M1) hL2 (by rw [List.length_append]; rfl)) ky_AL_size kv_AL_size tw_Xi_182 hM hS ww9 rfl rfl rfl hl.1 rfl (Nat.le_of_ble_eq_true rfl) dd_Xi_watch_58 (by first | decide | exact ⟨by dsimp only; omega, by dsimp only; omega⟩) (by decide) (fun v M1 H locs hp hM hS => ?_)
      obtain ⟨rfl, hq⟩ := hp
      have hq := hq.symm
      subst hq
      refine W.eq (g2 := F0 m 61 ls [.int (nI (wts.length + 1))]) rfl ?_
      refine lv_iconst (v := nI 1) hx hb dd_Xi_watch_61 (by decide) ?_
      refine lv_isub hx hb dd_Xi_watch_62 ?_
      refine mw_topi (y := nI ((wts.length + 1) - 1)) (pk_sub (by omega)) ?_
      refine mr_i E hr hk hM hS (by decide) (by decide) ?_ dd_Xi_watch_63
      exact ⟨by rw [Nat.add_sub_cancel], q31, d9, cl9, wr', hq31, hd0, hcl0, wq9, wd9, hk9, hL2, hF, har⟩
    ·
      rw [nI_ltI (by omega) (by omega)] at h20
      omega
  ·
    exact absurd (show zI (xi_has ags.length (nI j)) = 0 from h5) (by rw [xi_hasN hjl (by have := hag.le; omega)]; decide)
