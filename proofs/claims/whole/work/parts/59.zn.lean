/-! the class: id -/
theorem cc_Xi_numberOfText_e (l : Launch) (D : va_G) (z : Nat) (M : mw_M) (x xb xi xk xe xa xw xl xr xt rn cu : Nat) (fo ck se : Int32) (r : Nat) (f : Nat → Int32) (k : Nat) (g : Nat → Nat) (e0 : Nat) (wx : M x = some (.inr (0, [.ref xb, .ref xi, .ref xk, .ref xe, .ref xa, .ref xw, .ref xl, .ref xr, .ref xt, .int (fo), .int (ck), .int (se), .ref rn, .ref cu]))) (wb : M xb = some (.inr (1, [.ref r, .int (nI k)]))) (wr : M r = some (.inl (D.1 100, 100, .inl f))) (hk0 : k ≤ 100) (hg : ∀ j : Nat, j < k → f j = nI (g j) ∧ g j < 256) (herr : ie_err g 0 k = some e0) (he0 : e0 ≤ 100) : mw_C l yy_Xi_numberOfText bb_Xi_numberOfText 3 (Option.some Jvm.ClassFile.FieldType.int) 6 133 0 0 D z M [.ref x] (fun v M' => v = some (.int (-1 - nI e0)) ∧ M' = M) := by
  refine mw_of (by decide) (Nat.le_of_ble_eq_true rfl) ?_
  intro p e s m below meth c ls E hr hk hnm hM hl
  have hx := E.x
  have hb := E.b
  have E : mw_E p m c bb_Xi_numberOfText 3 s _ D z "IdentityIssuer" := E
  have hl : lv_has ls 3 [(0, .ref x)] := hl
  have hS : va_S (mw_A z) s.heap s.heap [] := va_S.rf
  refine lv_aload_n hx hb dd_Xi_numberOfText_0 rfl (lv_at hl 0 rfl) ?_
  refine gf_Xi_10 E hM wx rfl dd_Xi_numberOfText_1 ?_
  refine lv_iconst (v := nI 0) hx hb dd_Xi_numberOfText_4 (by decide) ?_
  refine lv_aload_n hx hb dd_Xi_numberOfText_5 rfl (lv_at hl 0 rfl) ?_
  refine gf_Xi_10 E hM wx rfl dd_Xi_numberOfText_6 ?_
  refine mw_V (As := []) (rest := [.int (nI 0), .ref xb]) E (cc_By_length l D z (M) xb r f k wb wr hk0) ky_By_length kv_By_length tw_Xi_85 hM hS wb rfl rfl rfl hl.1 rfl (Nat.le_of_ble_eq_true rfl) dd_Xi_numberOfText_9 (by first | decide | exact ⟨by dsimp only; omega, by dsimp only; omega⟩) (by decide) (fun v M1 H locs hp hM hS => ?_)
  obtain ⟨rfl, hq⟩ := hp
  have hq := hq.symm
  subst hq
  refine W.eq (g2 := F0 m 12 ls [.int (nI k), .int (nI 0), .ref xb]) rfl ?_
  refine mw_topi (y := nI (0 + k)) (congrArg nI (Nat.zero_add _).symm) ?_
  refine mw_S (As := [.ref xb, .int (nI 0), .int (nI (0 + k))]) (rest := []) E (cc_Id_firstError l D z (M) xb r f k g 0 k wb wr hk0 hg (by omega)) ky_Id_firstError kv_Id_firstError tw_Xi_272 hM hS rfl hl.1 rfl (Nat.le_of_ble_eq_true rfl) dd_Xi_numberOfText_12 (by first | decide | exact ⟨by dsimp only; omega, by dsimp only; omega⟩) (by decide) (fun v M1 H locs hp hM hS => ?_)
  obtain ⟨rfl, hq⟩ := hp
  have hq := hq.symm
  subst hq
  rw [herr]
  refine W.eq (g2 := F0 m 15 ls [.int (nI (0 + e0))]) rfl ?_
  refine mw_topi (y := nI e0) (congrArg nI (Nat.zero_add _)) ?_
  refine lv_istore_n (lv' := [(1, .int (nI e0)), (0, .ref x)]) hx hb dd_Xi_numberOfText_15 rfl hl (by decide) rfl (fun ls hl => ?_)
  refine lv_iload_n hx hb dd_Xi_numberOfText_16 rfl (lv_at hl 0 rfl) ?_
  refine lv_iconst (v := -1) hx hb dd_Xi_numberOfText_17 (by decide) ?_
  refine lv_icmp_eq (tgt := 25) hx hb dd_Xi_numberOfText_18 (by decide) (fun h18 => ?_) (fun h18 => ?_)
  ·
    exact absurd h18.symm (nI_nm1 (by omega))
  ·
    refine lv_iconst (v := -1) hx hb dd_Xi_numberOfText_21 (by decide) ?_
    refine lv_iload_n hx hb dd_Xi_numberOfText_22 rfl (lv_at hl 0 rfl) ?_
    refine lv_isub hx hb dd_Xi_numberOfText_23 ?_
    refine mr_i E hr hk hM hS (by decide) (by decide) ?_ dd_Xi_numberOfText_24
    exact ⟨rfl, rfl⟩
theorem cc_Xi_numberOfText (l : Launch) (D : va_G) (z : Nat) (M : mw_M) (x xb xi xk xe xa xw xl xr xt rn cu : Nat) (fo ck se : Int32) (r : Nat) (f : Nat → Int32) (k : Nat) (g : Nat → Nat) (t le de ic : Nat) (Ln Dn : Nat → Nat) (G : Nat → Nat → Nat) (wx : M x = some (.inr (0, [.ref xb, .ref xi, .ref xk, .ref xe, .ref xa, .ref xw, .ref xl, .ref xr, .ref xt, .int (fo), .int (ck), .int (se), .ref rn, .ref cu]))) (wb : M xb = some (.inr (1, [.ref r, .int (nI k)]))) (wr : M r = some (.inl (D.1 100, 100, .inl f))) (hk0 : k ≤ 100) (hg : ∀ j : Nat, j < k → f j = nI (g j) ∧ g j < 256) (hI : id_at D M xi t le de ic Ln Dn G) (hO : id_ok ic Ln Dn G) (herr : ie_err g 0 k = none) (hrb : ∀ j : Nat, j < 12 → t + 1 + j ≠ r) (hlr : le ≠ r) (hdr : de ≠ r) : mw_C l yy_Xi_numberOfText bb_Xi_numberOfText 3 (Option.some Jvm.ClassFile.FieldType.int) 6 133 0 0 D z M [.ref x] (fun v M' => mw_fr (fun q => q = xi ∨ q = le ∨ q = de ∨ (ic < 12 ∧ q = t + 1 + ic)) M M' ∧ ((∃ i : Nat, i < ic ∧ id_same k g Ln G i ∧ (∀ j : Nat, j < i → ¬ id_same k g Ln G j) ∧ v = some (.int (nI i)) ∧ id_at D M' xi t le de ic Ln Dn G) ∨ ((∀ j : Nat, j < ic → ¬ id_same k g Ln G j) ∧ ic = 12 ∧ v = some (.int (-1003)) ∧ id_at D M' xi t le de ic Ln Dn G) ∨ ((∀ j : Nat, j < ic → ¬ id_same k g Ln G j) ∧ ic < 12 ∧ v = some (.int (nI ic)) ∧ id_at D M' xi t le de (ic + 1) (fun j => if j = ic then k else Ln j) (fun j => if j = ic then ie_de g 9 k else Dn j) (fun j => if j = ic then g else G j)))) := by
  refine mw_of (by decide) (Nat.le_of_ble_eq_true rfl) ?_
  intro p e s m below meth c ls E hr hk hnm hM hl
  have hx := E.x
  have hb := E.b
  have E : mw_E p m c bb_Xi_numberOfText 3 s _ D z "IdentityIssuer" := E
  have hl : lv_has ls 3 [(0, .ref x)] := hl
  have hS : va_S (mw_A z) s.heap s.heap [] := va_S.rf
  have hF : mw_fr (fun q => q = xi ∨ q = le ∨ q = de ∨ (ic < 12 ∧ q = t + 1 + ic)) M M := mw_fr.rf
  have hic := hO.1
  have hok := ie_ok herr
  obtain ⟨o9, fl9, fd9, T9, wd9, -⟩ := id hI
  refine lv_aload_n hx hb dd_Xi_numberOfText_0 rfl (lv_at hl 0 rfl) ?_
  refine gf_Xi_10 E hM wx rfl dd_Xi_numberOfText_1 ?_
  refine lv_iconst (v := nI 0) hx hb dd_Xi_numberOfText_4 (by decide) ?_
  refine lv_aload_n hx hb dd_Xi_numberOfText_5 rfl (lv_at hl 0 rfl) ?_
  refine gf_Xi_10 E hM wx rfl dd_Xi_numberOfText_6 ?_
  refine mw_V (As := []) (rest := [.int (nI 0), .ref xb]) E (cc_By_length l D z (M) xb r f k wb wr hk0) ky_By_length kv_By_length tw_Xi_85 hM hS wb rfl rfl rfl hl.1 rfl (Nat.le_of_ble_eq_true rfl) dd_Xi_numberOfText_9 (by first | decide | exact ⟨by dsimp only; omega, by dsimp only; omega⟩) (by decide) (fun v M1 H locs hp hM hS => ?_)
  obtain ⟨rfl, hq⟩ := hp
  have hq := hq.symm
  subst hq
  refine W.eq (g2 := F0 m 12 ls [.int (nI k), .int (nI 0), .ref xb]) rfl ?_
  refine mw_topi (y := nI (0 + k)) (congrArg nI (Nat.zero_add _).symm) ?_
  refine mw_S (As := [.ref xb, .int (nI 0), .int (nI (0 + k))]) (rest := []) E (cc_Id_firstError l D z (M) xb r f k g 0 k wb wr hk0 hg (by omega)) ky_Id_firstError kv_Id_firstError tw_Xi_272 hM hS rfl hl.1 rfl (Nat.le_of_ble_eq_true rfl) dd_Xi_numberOfText_12 (by first | decide | exact ⟨by dsimp only; omega, by dsimp only; omega⟩) (by decide) (fun v M1 H locs hp hM hS => ?_)
  obtain ⟨rfl, hq⟩ := hp
  have hq := hq.symm
  subst hq
  rw [herr]
  refine W.eq (g2 := F0 m 15 ls [.int (-1)]) rfl ?_
  refine lv_istore_n (lv' := [(1, .int (-1)), (0, .ref x)]) hx hb dd_Xi_numberOfText_15 rfl hl (by decide) rfl (fun ls hl => ?_)
  refine lv_iload_n hx hb dd_Xi_numberOfText_16 rfl (lv_at hl 0 rfl) ?_
  refine lv_iconst (v := -1) hx hb dd_Xi_numberOfText_17 (by decide) ?_
  refine lv_icmp_eq (tgt := 25) hx hb dd_Xi_numberOfText_18 (by decide) (fun h18 => ?_) (fun h18 => ?_)
  ·
    refine lv_aload_n hx hb dd_Xi_numberOfText_25 rfl (lv_at hl 1 rfl) ?_
    refine gf_Xi_19 E hM wx rfl dd_Xi_numberOfText_26 ?_
    refine lv_aload_n hx hb dd_Xi_numberOfText_29 rfl (lv_at hl 1 rfl) ?_
    refine gf_Xi_10 E hM wx rfl dd_Xi_numberOfText_30 ?_
    refine mw_V (As := [.ref xb]) (rest := []) E (cc_Id_find l D z (M) xi t le de ic Ln Dn G xb r f k g hI hO wb wr hk0 hg) ky_Id_find kv_Id_find tw_Xi_276 hM hS wd9 rfl rfl rfl hl.1 rfl (Nat.le_of_ble_eq_true rfl) dd_Xi_numberOfText_33 (by first | decide | exact ⟨by dsimp only; omega, by dsimp only; omega⟩) (by decide) (fun v M1 H locs hp hM hS => ?_)
    obtain ⟨hc, hq⟩ := hp
    have hq := hq.symm
    subst hq
    rcases hc with ⟨i0, h1, h2, h3, rfl⟩ | ⟨h1, rfl⟩
    ·
      refine W.eq (g2 := F0 m 36 ls [.int (nI i0)]) rfl ?_
      refine lv_istore_n (lv' := [(2, .int (nI i0)), (1, .int (-1)), (0, .ref x)]) hx hb dd_Xi_numberOfText_36 rfl hl (by decide) rfl (fun ls hl => ?_)
      refine lv_iload_n hx hb dd_Xi_numberOfText_37 rfl (lv_at hl 0 rfl) ?_
      refine lv_iconst (v := -1) hx hb dd_Xi_numberOfText_38 (by decide) ?_
      refine lv_icmp_eq (tgt := 44) hx hb dd_Xi_numberOfText_39 (by decide) (fun h39 => ?_) (fun h39 => ?_)
      ·
        exact absurd h39.symm (nI_nm1 (by omega))
      ·
        refine lv_iload_n hx hb dd_Xi_numberOfText_42 rfl (lv_at hl 0 rfl) ?_
        refine mr_i E hr hk hM hS (by decide) (by decide) ?_ dd_Xi_numberOfText_43
        exact ⟨hF, Or.inl ⟨i0, h1, h2, h3, rfl, hI⟩⟩
    ·
      refine W.eq (g2 := F0 m 36 ls [.int (-1)]) rfl ?_
      refine lv_istore_n (lv' := [(2, .int (-1)), (1, .int (-1)), (0, .ref x)]) hx hb dd_Xi_numberOfText_36 rfl hl (by decide) rfl (fun ls hl => ?_)
      refine lv_iload_n hx hb dd_Xi_numberOfText_37 rfl (lv_at hl 0 rfl) ?_
      refine lv_iconst (v := -1) hx hb dd_Xi_numberOfText_38 (by decide) ?_
      refine lv_icmp_eq (tgt := 44) hx hb dd_Xi_numberOfText_39 (by decide) (fun h39 => ?_) (fun h39 => ?_)
      ·
        refine lv_aload_n hx hb dd_Xi_numberOfText_44 rfl (lv_at hl 2 rfl) ?_
        refine gf_Xi_19 E hM wx rfl dd_Xi_numberOfText_45 ?_
        refine mw_V (As := []) (rest := []) E (cc_Id_isFull l D z (M) xi t le de ic wd9 (by omega)) ky_Id_isFull kv_Id_isFull tw_Xi_280 hM hS wd9 rfl rfl rfl hl.1 rfl (Nat.le_of_ble_eq_true rfl) dd_Xi_numberOfText_48 (by first | decide | exact ⟨by dsimp only; omega, by dsimp only; omega⟩) (by decide) (fun v M1 H locs hp hM hS => ?_)
        obtain ⟨rfl, hq⟩ := hp
        have hq := hq.symm
        subst hq
        refine W.eq (g2 := F0 m 51 ls [.int (zI (decide (12 ≤ ic)))]) rfl ?_
        refine lv_if_eq (tgt := 60) hx hb dd_Xi_numberOfText_51 (by decide) (fun h51 => ?_) (fun h51 => ?_)
        ·
          have h51 : ¬ 12 ≤ ic := of_decide_eq_false (zI_0.mp h51)
          refine lv_aload_n hx hb dd_Xi_numberOfText_60 rfl (lv_at hl 2 rfl) ?_
          refine gf_Xi_19 E hM wx rfl dd_Xi_numberOfText_61 ?_
          refine lv_aload_n hx hb dd_Xi_numberOfText_64 rfl (lv_at hl 2 rfl) ?_
          refine gf_Xi_10 E hM wx rfl dd_Xi_numberOfText_65 ?_
          refine mw_V (As := [.ref xb]) (rest := []) E (cc_Id_add l D z (M) xi t le de ic Ln Dn G xb r f k g hI hO wb wr hk0 hg (by omega) hok.2.1 hok.2.2.1 hrb hlr hdr) ky_Id_add kv_Id_add tw_Xi_281 hM hS wd9 rfl rfl rfl hl.1 rfl (Nat.le_of_ble_eq_true rfl) dd_Xi_numberOfText_68 (by first | decide | exact ⟨by dsimp only; omega, by dsimp only; omega⟩) (by decide) (fun v M1 H locs hp hM hS => ?_)
          obtain ⟨rfl, hI2, hF⟩ := hp
          have hF : mw_fr (fun q => q = xi ∨ q = le ∨ q = de ∨ (ic < 12 ∧ q = t + 1 + ic)) M M1 := hF.mono (fun q h => h.imp id (fun h => h.imp id (fun h => h.imp id (fun h => ⟨by omega, h⟩))))
          refine W.eq (g2 := F0 m 71 ls [.int (nI ic)]) rfl ?_
          refine mr_i E hr hk hM hS (by decide) (by decide) ?_ dd_Xi_numberOfText_71
          exact ⟨hF, Or.inr (Or.inr ⟨h1, by omega, rfl, hI2⟩)⟩
        ·
          have h51 : 12 ≤ ic := of_decide_eq_true (Bool.of_not_eq_false (fun q => h51 (zI_0.mpr q)))
          refine lv_sipush (v := -1003) hx hb dd_Xi_numberOfText_54 (by decide) ?_
          refine lv_goto (tgt := 71) hx hb dd_Xi_numberOfText_57 (by decide) ?_
          refine mr_i E hr hk hM hS (by decide) (by decide) ?_ dd_Xi_numberOfText_71
          exact ⟨hF, Or.inr (Or.inl ⟨h1, by omega, rfl, hI⟩)⟩
      ·
        exact absurd rfl h39
  ·
    exact absurd rfl h18
theorem cc_Xi_id_e (l : Launch) (D : va_G) (z : Nat) (M : mw_M) (x xb xi xk xe xa xw xl xr xt rn cu : Nat) (fo ck se : Int32) (r : Nat) (f : Nat → Int32) (k : Nat) (g : Nat → Nat) (e0 : Nat) (wx : M x = some (.inr (0, [.ref xb, .ref xi, .ref xk, .ref xe, .ref xa, .ref xw, .ref xl, .ref xr, .ref xt, .int (fo), .int (ck), .int (se), .ref rn, .ref cu]))) (wb : M xb = some (.inr (1, [.ref r, .int (nI k)]))) (wr : M r = some (.inl (D.1 100, 100, .inl f))) (hk0 : k ≤ 100) (hg : ∀ j : Nat, j < k → f j = nI (g j) ∧ g j < 256) (herr : ie_err g 0 k = some e0) (he0 : e0 ≤ 100) : mw_C l yy_Xi_id bb_Xi_id 2 (Option.some Jvm.ClassFile.FieldType.int) 7 155 0 0 D z M [.ref x] (fun v M' => v = some (.int (-1 - nI e0)) ∧ M' xb = some (.inr (1, [.ref r, .int (nI 0)])) ∧ mw_fr (fun q => q = xb) M M') := by
  refine mw_of (by decide) (Nat.le_of_ble_eq_true rfl) ?_
  intro p e s m below meth c ls E hr hk hnm hM hl
  have hx := E.x
  have hb := E.b
  have E : mw_E p m c bb_Xi_id 2 s _ D z "IdentityIssuer" := E
  have hl : lv_has ls 2 [(0, .ref x)] := hl
  have hS : va_S (mw_A z) s.heap s.heap [] := va_S.rf
  refine lv_aload_n hx hb dd_Xi_id_0 rfl (lv_at hl 0 rfl) ?_
  refine mw_V (As := []) (rest := []) E (cc_Xi_numberOfText_e l D z (M) x xb xi xk xe xa xw xl xr xt rn cu fo ck se r f k g e0 wx wb wr hk0 hg herr he0) ky_Xi_numberOfText kv_Xi_numberOfText tw_Xi_92 hM hS wx rfl rfl rfl hl.1 rfl (Nat.le_of_ble_eq_true rfl) dd_Xi_id_1 (by first | decide | exact ⟨by dsimp only; omega, by dsimp only; omega⟩) (by decide) (fun v M1 H locs hp hM hS => ?_)
  obtain ⟨rfl, hq⟩ := hp
  have hq := hq.symm
  subst hq
  refine W.eq (g2 := F0 m 4 ls [.int (-1 - nI e0)]) rfl ?_
  refine lv_istore_n (lv' := [(1, .int (-1 - nI e0)), (0, .ref x)]) hx hb dd_Xi_id_4 rfl hl (by decide) rfl (fun ls hl => ?_)
  refine lv_aload_n hx hb dd_Xi_id_5 rfl (lv_at hl 1 rfl) ?_
  refine gf_Xi_10 E hM wx rfl dd_Xi_id_6 ?_
  refine mw_V (As := []) (rest := []) E (cc_By_clear l D z (M) xb r f k wb wr hk0) ky_By_clear kv_By_clear tw_Xi_95 hM hS wb rfl rfl rfl hl.1 rfl (Nat.le_of_ble_eq_true rfl) dd_Xi_id_9 (by first | decide | exact ⟨by dsimp only; omega, by dsimp only; omega⟩) (by decide) (fun v M1 H locs hp hM hS => ?_)
  obtain ⟨rfl, wb2, hF2⟩ := hp
  refine W.eq (g2 := F0 m 12 ls []) rfl ?_
  refine lv_iload_n hx hb dd_Xi_id_12 rfl (lv_at hl 0 rfl) ?_
  refine mr_i E hr hk hM hS (by decide) (by decide) ?_ dd_Xi_id_13
  exact ⟨rfl, wb2, hF2⟩
theorem id_at.fr {P : Nat → Prop} {D : va_G} {M M1 : mw_M} {d t le de ic : Nat} {Ln Dn : Nat → Nat} {G : Nat → Nat → Nat} (h : id_at D M d t le de ic Ln Dn G) (hF : mw_fr P M M1) (h1 : ¬ P d) (h2 : ¬ P t) (h3 : ¬ P le) (h4 : ¬ P de) (h5 : ∀ j : Nat, j < 12 → ¬ P (t + 1 + j)) : id_at D M1 d t le de ic Ln Dn G := by
  obtain ⟨o, fl, fd, T, a1, a2, a3, a4, a5, a6, a7⟩ := h
  exact ⟨o, fl, fd, T, hF.at a1 h1, hF.at a2 h2, a3, hF.at a4 h3, hF.at a5 h4, fun j hj => hF.at (a6 j hj) (h5 j hj), a7⟩
theorem id_at.fr1 {D : va_G} {M M1 : mw_M} {b ci d t le de ic : Nat} {Ln Dn : Nat → Nat} {G : Nat → Nat → Nat} {vs : List Value} (h : id_at D M d t le de ic Ln Dn G) (hF : mw_fr (fun q => q = b) M M1) (wb : M b = some (.inr (ci, vs))) (hc : ci ≠ 2) : id_at D M1 d t le de ic Ln Dn G := by
  obtain ⟨o, fl, fd, T, a1, a2, a3, a4, a5, a6, a7⟩ := id h
  exact h.fr hF (mw_ne a1 wb (fun q => by cases q; exact hc rfl)) (mw_ne a2 wb (fun q => by cases q)) (mw_ne a4 wb (fun q => by cases q)) (mw_ne a5 wb (fun q => by cases q)) (fun j hj => mw_ne (a6 j hj) wb (fun q => by cases q))
theorem cc_Xi_id (l : Launch) (D : va_G) (z : Nat) (M : mw_M) (x xb xi xk xe xa xw xl xr xt rn cu : Nat) (fo ck se : Int32) (r : Nat) (f : Nat → Int32) (k : Nat) (g : Nat → Nat) (t le de ic : Nat) (Ln Dn : Nat → Nat) (G : Nat → Nat → Nat) (wx : M x = some (.inr (0, [.ref xb, .ref xi, .ref xk, .ref xe, .ref xa, .ref xw, .ref xl, .ref xr, .ref xt, .int (fo), .int (ck), .int (se), .ref rn, .ref cu]))) (wb : M xb = some (.inr (1, [.ref r, .int (nI k)]))) (wr : M r = some (.inl (D.1 100, 100, .inl f))) (hk0 : k ≤ 100) (hg : ∀ j : Nat, j < k → f j = nI (g j) ∧ g j < 256) (hI : id_at D M xi t le de ic Ln Dn G) (hO : id_ok ic Ln Dn G) (herr : ie_err g 0 k = none) (hrb : ∀ j : Nat, j < 12 → t + 1 + j ≠ r) (hlr : le ≠ r) (hdr : de ≠ r) : mw_C l yy_Xi_id bb_Xi_id 2 (Option.some Jvm.ClassFile.FieldType.int) 7 155 0 0 D z M [.ref x] (fun v M' => M' xb = some (.inr (1, [.ref r, .int (nI 0)])) ∧ mw_fr (fun q => q = xb ∨ q = xi ∨ q = le ∨ q = de ∨ (ic < 12 ∧ q = t + 1 + ic)) M M' ∧ ((∃ i : Nat, i < ic ∧ id_same k g Ln G i ∧ (∀ j : Nat, j < i → ¬ id_same k g Ln G j) ∧ v = some (.int (nI i)) ∧ id_at D M' xi t le de ic Ln Dn G) ∨ ((∀ j : Nat, j < ic → ¬ id_same k g Ln G j) ∧ ic = 12 ∧ v = some (.int (-1003)) ∧ id_at D M' xi t le de ic Ln Dn G) ∨ ((∀ j : Nat, j < ic → ¬ id_same k g Ln G j) ∧ ic < 12 ∧ v = some (.int (nI ic)) ∧ id_at D M' xi t le de (ic + 1) (fun j => if j = ic then k else Ln j) (fun j => if j = ic then ie_de g 9 k else Dn j) (fun j => if j = ic then g else G j)))) := by
  refine mw_of (by decide) (Nat.le_of_ble_eq_true rfl) ?_
  intro p e s m below meth c ls E hr hk hnm hM hl
  have hx := E.x
  have hb := E.b
  have E : mw_E p m c bb_Xi_id 2 s _ D z "IdentityIssuer" := E
  have hl : lv_has ls 2 [(0, .ref x)] := hl
  have hS : va_S (mw_A z) s.heap s.heap [] := va_S.rf
  obtain ⟨o9, fl9, fd9, T9, wd9, wt9, -, wl9, we9, wr9, -⟩ := id hI
  have hic := hO.1
  refine lv_aload_n hx hb dd_Xi_id_0 rfl (lv_at hl 0 rfl) ?_
  refine mw_V (As := []) (rest := []) E (cc_Xi_numberOfText l D z (M) x xb xi xk xe xa xw xl xr xt rn cu fo ck se r f k g t le de ic Ln Dn G wx wb wr hk0 hg hI hO herr hrb hlr hdr) ky_Xi_numberOfText kv_Xi_numberOfText tw_Xi_92 hM hS wx rfl rfl rfl hl.1 rfl (Nat.le_of_ble_eq_true rfl) dd_Xi_id_1 (by first | decide | exact ⟨by dsimp only; omega, by dsimp only; omega⟩) (by decide) (fun v M1 H locs hp hM hS => ?_)
  obtain ⟨hF, hc⟩ := hp
  have wx := hF.at wx (fun q => q.elim (mw_ne wx wd9 (fun q => by cases q)) (fun q => q.elim (mw_ne wx wl9 (fun q => by cases q)) (fun q => q.elim (mw_ne wx we9 (fun q => by cases q)) (fun q => (mw_ne wx (wr9 ic q.1) (fun q => by cases q)) q.2))))
  have wb := hF.at wb (fun q => q.elim (mw_ne wb wd9 (fun q => by cases q)) (fun q => q.elim (mw_ne wb wl9 (fun q => by cases q)) (fun q => q.elim (mw_ne wb we9 (fun q => by cases q)) (fun q => (mw_ne wb (wr9 ic q.1) (fun q => by cases q)) q.2))))
  have wr := hF.at wr (fun q => q.elim (mw_ne wr wd9 (fun q => by cases q)) (fun q => q.elim (Ne.symm hlr) (fun q => q.elim (Ne.symm hdr) (fun q => (hrb ic q.1) q.2.symm))))
  rcases hc with ⟨i0, h1, h2, h3, rfl, h4⟩ | ⟨h1, h2, rfl, h4⟩ | ⟨h1, h2, rfl, h4⟩
  ·
    refine W.eq (g2 := F0 m 4 ls [.int (nI i0)]) rfl ?_
    refine lv_istore_n (lv' := [(1, .int (nI i0)), (0, .ref x)]) hx hb dd_Xi_id_4 rfl hl (by decide) rfl (fun ls hl => ?_)
    refine lv_aload_n hx hb dd_Xi_id_5 rfl (lv_at hl 1 rfl) ?_
    refine gf_Xi_10 E hM wx rfl dd_Xi_id_6 ?_
    refine mw_V (As := []) (rest := []) E (cc_By_clear l D z (M1) xb r f k wb wr hk0) ky_By_clear kv_By_clear tw_Xi_95 hM hS wb rfl rfl rfl hl.1 rfl (Nat.le_of_ble_eq_true rfl) dd_Xi_id_9 (by first | decide | exact ⟨by dsimp only; omega, by dsimp only; omega⟩) (by decide) (fun v M1 H locs hp hM hS => ?_)
    obtain ⟨rfl, wb2, hF2⟩ := hp
    have hI2 := h4.fr1 hF2 (ci := 1) wb (by decide)
    have hF : mw_fr (fun q => q = xb ∨ q = xi ∨ q = le ∨ q = de ∨ (ic < 12 ∧ q = t + 1 + ic)) M M1 := (hF.mono (fun q h => Or.inr h)).tr2 hF2 (fun q h => Or.inl (Or.inl h))
    refine W.eq (g2 := F0 m 12 ls []) rfl ?_
    refine lv_iload_n hx hb dd_Xi_id_12 rfl (lv_at hl 0 rfl) ?_
    refine mr_i E hr hk hM hS (by decide) (by decide) ?_ dd_Xi_id_13
    exact ⟨wb2, hF, Or.inl ⟨i0, h1, h2, h3, rfl, hI2⟩⟩
  ·
    refine W.eq (g2 := F0 m 4 ls [.int (-1003)]) rfl ?_
    refine lv_istore_n (lv' := [(1, .int (-1003)), (0, .ref x)]) hx hb dd_Xi_id_4 rfl hl (by decide) rfl (fun ls hl => ?_)
    refine lv_aload_n hx hb dd_Xi_id_5 rfl (lv_at hl 1 rfl) ?_
    refine gf_Xi_10 E hM wx rfl dd_Xi_id_6 ?_
    refine mw_V (As := []) (rest := []) E (cc_By_clear l D z (M1) xb r f k wb wr hk0) ky_By_clear kv_By_clear tw_Xi_95 hM hS wb rfl rfl rfl hl.1 rfl (Nat.le_of_ble_eq_true rfl) dd_Xi_id_9 (by first | decide | exact ⟨by dsimp only; omega, by dsimp only; omega⟩) (by decide) (fun v M1 H locs hp hM hS => ?_)
    obtain ⟨rfl, wb2, hF2⟩ := hp
    have hI2 := h4.fr1 hF2 (ci := 1) wb (by decide)
    have hF : mw_fr (fun q => q = xb ∨ q = xi ∨ q = le ∨ q = de ∨ (ic < 12 ∧ q = t + 1 + ic)) M M1 := (hF.mono (fun q h => Or.inr h)).tr2 hF2 (fun q h => Or.inl (Or.inl h))
    refine W.eq (g2 := F0 m 12 ls []) rfl ?_
    refine lv_iload_n hx hb dd_Xi_id_12 rfl (lv_at hl 0 rfl) ?_
    refine mr_i E hr hk hM hS (by decide) (by decide) ?_ dd_Xi_id_13
    exact ⟨wb2, hF, Or.inr (Or.inl ⟨h1, h2, rfl, hI2⟩)⟩
  ·
    refine W.eq (g2 := F0 m 4 ls [.int (nI ic)]) rfl ?_
    refine lv_istore_n (lv' := [(1, .int (nI ic)), (0, .ref x)]) hx hb dd_Xi_id_4 rfl hl (by decide) rfl (fun ls hl => ?_)
    refine lv_aload_n hx hb dd_Xi_id_5 rfl (lv_at hl 1 rfl) ?_
    refine gf_Xi_10 E hM wx rfl dd_Xi_id_6 ?_
    refine mw_V (As := []) (rest := []) E (cc_By_clear l D z (M1) xb r f k wb wr hk0) ky_By_clear kv_By_clear tw_Xi_95 hM hS wb rfl rfl rfl hl.1 rfl (Nat.le_of_ble_eq_true rfl) dd_Xi_id_9 (by first | decide | exact ⟨by dsimp only; omega, by dsimp only; omega⟩) (by decide) (fun v M1 H locs hp hM hS => ?_)
    obtain ⟨rfl, wb2, hF2⟩ := hp
    have hI2 := h4.fr1 hF2 (ci := 1) wb (by decide)
    have hF : mw_fr (fun q => q = xb ∨ q = xi ∨ q = le ∨ q = de ∨ (ic < 12 ∧ q = t + 1 + ic)) M M1 := (hF.mono (fun q h => Or.inr h)).tr2 hF2 (fun q h => Or.inl (Or.inl h))
    refine W.eq (g2 := F0 m 12 ls []) rfl ?_
    refine lv_iload_n hx hb dd_Xi_id_12 rfl (lv_at hl 0 rfl) ?_
    refine mr_i E hr hk hM hS (by decide) (by decide) ?_ dd_Xi_id_13
    exact ⟨wb2, hF, Or.inr (Or.inr ⟨h1, h2, rfl, hI2⟩)⟩
