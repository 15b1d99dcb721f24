/-! the class: svid, sync -/
theorem cc_Xi_svid_y (l : Launch) (D : va_G) (z : Nat) (M : mw_M) (x xb xi xk xe xa xw xl xr xt rn cu : Nat) (fo ck se : Int32) (cl cr j n : Nat) (r_f r_e r_g : Int32) (ss : List Nat) (EF CF : Nat → Nat → Int32) (ent ca ce : Nat → Nat) (wh : Nat) (wx : M x = some (.inr (0, [.ref xb, .ref xi, .ref xk, .ref xe, .ref xa, .ref xw, .ref xl, .ref xr, .ref xt, .int (fo), .int (ck), .int (se), .ref rn, .ref cu]))) (wl : M xl = some (.inr (5, [.ref cl, .int (r_f), .int (r_e), .int (r_g)]))) (hcl : al_at D M cl cr (ss.map ca)) (hj : ss[j]? = some n) (hn : ct_is M EF CF ent ca ce n) (hwh : wh < 5) : mw_C l yy_Xi_svid bb_Xi_svid 4 (Option.some Jvm.ClassFile.FieldType.int) 4 85 0 0 D z M [.ref x, .int (nI j), .int (nI wh)] (fun v M' => v = some (.int (if wh = 0 then EF (ce n) 0 else if wh = 1 then nI n else if wh = 2 then CF n 2 else if wh = 3 then CF n 3 else CF n 4)) ∧ M' = M) := by
  refine mw_of (by decide) (Nat.le_of_ble_eq_true rfl) ?_
  intro p e s m below meth c ls E hr hk hnm hM hl
  have hx := E.x
  have hb := E.b
  have E : mw_E p m c bb_Xi_svid 4 s _ D z "IdentityIssuer" := E
  have hl : lv_has ls 4 [(0, .ref x), (1, .int (nI j)), (2, .int (nI wh))] := hl
  have hS : va_S (mw_A z) s.heap s.heap [] := va_S.rf
  obtain ⟨moc, wc9⟩ := hcl.cell
  have hle := hcl.le
  have hjl : j < ss.length := (List.getElem?_eq_some_iff.mp hj).1
  rw [List.length_map] at hle wc9
  refine lv_aload_n hx hb dd_Xi_svid_0 rfl (lv_at hl 0 rfl) ?_
  refine gf_Xi_43 E hM wx rfl dd_Xi_svid_1 ?_
  refine lv_iload_n hx hb dd_Xi_svid_4 rfl (lv_at hl 1 rfl) ?_
  refine mw_V (As := [.int (nI j)]) (rest := []) E (cc_Rs_hasCertificate l D z (M) xl cl cr ss.length r_f r_e r_g moc (nI j) wl wc9 (by omega)) ky_Rs_hasCertificate kv_Rs_hasCertificate tw_Xi_211 hM hS wl rfl rfl rfl hl.1 rfl (Nat.le_of_ble_eq_true rfl) dd_Xi_svid_5 (by first | decide | exact ⟨by dsimp only; omega, by dsimp only; omega⟩) (by decide) (fun v M1 H locs hp hM hS => ?_)
  obtain ⟨rfl, hq⟩ := hp
  have hq := hq.symm
  subst hq
  rw [xi_hasN hjl (by omega)]
  refine W.eq (g2 := F0 m 8 ls [.int (zI true)]) rfl ?_
  refine lv_if_ne (tgt := 15) hx hb dd_Xi_svid_8 (by decide) (fun h8 => ?_) (fun h8 => ?_)
  ·
    refine lv_aload_n hx hb dd_Xi_svid_15 rfl (lv_at hl 0 rfl) ?_
    refine gf_Xi_43 E hM wx rfl dd_Xi_svid_16 ?_
    refine lv_iload_n hx hb dd_Xi_svid_19 rfl (lv_at hl 1 rfl) ?_
    refine mw_V (As := [.int (nI j)]) (rest := []) E (cc_Rs_certificate l D z (M) xl cl cr r_f r_e r_g ss j n EF CF ent ca ce wl hcl hj hn) ky_Rs_certificate kv_Rs_certificate tw_Xi_214 hM hS wl rfl rfl rfl hl.1 rfl (Nat.le_of_ble_eq_true rfl) dd_Xi_svid_20 (by first | decide | exact ⟨by dsimp only; omega, by dsimp only; omega⟩) (by decide) (fun v M1 H locs hp hM hS => ?_)
    obtain ⟨rfl, hq⟩ := hp
    have hq := hq.symm
    subst hq
    have wn : M (ca n) = some (.inr (11, [.ref (ent (ce n)), .int (nI n), .int (CF n 2), .int (CF n 3), .int (CF n 4)])) := (hn).1
    have we : M (ent (ce n)) = some (.inr (9, [.int (EF (ce n) 0), .int (EF (ce n) 1), .int (EF (ce n) 2), .int (EF (ce n) 3), .int (EF (ce n) 4), .int (EF (ce n) 5)])) := (hn).2
    refine W.eq (g2 := F0 m 23 ls [.ref (ca n)]) rfl ?_
    refine lv_astore_n (lv' := [(3, .ref (ca n)), (0, .ref x), (1, .int (nI j)), (2, .int (nI wh))]) hx hb dd_Xi_svid_23 rfl hl (by decide) rfl (fun ls hl => ?_)
    refine lv_iload_n hx hb dd_Xi_svid_24 rfl (lv_at hl 3 rfl) ?_
    rcases (show wh = 0 ∨ wh = 1 ∨ wh = 2 ∨ wh = 3 ∨ wh = 4 by omega) with rfl | rfl | rfl | rfl | rfl
    ·
      refine lv_tableIn (off := 35) (tgt := 60) hx hb dd_Xi_svid_25 (by decide) (by decide) (by decide) (by decide) ?_
      refine lv_aload_n hx hb dd_Xi_svid_60 rfl (lv_at hl 0 rfl) ?_
      refine gf_Xi_218 E hM wn rfl dd_Xi_svid_61 ?_
      refine gf_Xi_224 E hM we rfl dd_Xi_svid_64 ?_
      refine mr_i E hr hk hM hS (by decide) (by decide) ?_ dd_Xi_svid_67
      exact ⟨rfl, rfl⟩
    ·
      refine lv_tableIn (off := 43) (tgt := 68) hx hb dd_Xi_svid_25 (by decide) (by decide) (by decide) (by decide) ?_
      refine lv_aload_n hx hb dd_Xi_svid_68 rfl (lv_at hl 0 rfl) ?_
      refine gf_Xi_229 E hM wn rfl dd_Xi_svid_69 ?_
      refine mr_i E hr hk hM hS (by decide) (by decide) ?_ dd_Xi_svid_72
      exact ⟨rfl, rfl⟩
    ·
      refine lv_tableIn (off := 48) (tgt := 73) hx hb dd_Xi_svid_25 (by decide) (by decide) (by decide) (by decide) ?_
      refine lv_aload_n hx hb dd_Xi_svid_73 rfl (lv_at hl 0 rfl) ?_
      refine gf_Xi_232 E hM wn rfl dd_Xi_svid_74 ?_
      refine mr_i E hr hk hM hS (by decide) (by decide) ?_ dd_Xi_svid_77
      exact ⟨rfl, rfl⟩
    ·
      refine lv_tableIn (off := 53) (tgt := 78) hx hb dd_Xi_svid_25 (by decide) (by decide) (by decide) (by decide) ?_
      refine lv_aload_n hx hb dd_Xi_svid_78 rfl (lv_at hl 0 rfl) ?_
      refine gf_Xi_235 E hM wn rfl dd_Xi_svid_79 ?_
      refine mr_i E hr hk hM hS (by decide) (by decide) ?_ dd_Xi_svid_82
      exact ⟨rfl, rfl⟩
    ·
      refine lv_tableIn (off := 58) (tgt := 83) hx hb dd_Xi_svid_25 (by decide) (by decide) (by decide) (by decide) ?_
      refine lv_aload_n hx hb dd_Xi_svid_83 rfl (lv_at hl 0 rfl) ?_
      refine gf_Xi_238 E hM wn rfl dd_Xi_svid_84 ?_
      refine mr_i E hr hk hM hS (by decide) (by decide) ?_ dd_Xi_svid_87
      exact ⟨rfl, rfl⟩
  ·
    exact absurd h8 (by decide)
theorem cc_Xi_svid_o (l : Launch) (D : va_G) (z : Nat) (M : mw_M) (x xb xi xk xe xa xw xl xr xt rn cu : Nat) (fo ck se : Int32) (cl cr j n : Nat) (r_f r_e r_g : Int32) (ss : List Nat) (EF CF : Nat → Nat → Int32) (ent ca ce : Nat → Nat) (wh : Int32) (wx : M x = some (.inr (0, [.ref xb, .ref xi, .ref xk, .ref xe, .ref xa, .ref xw, .ref xl, .ref xr, .ref xt, .int (fo), .int (ck), .int (se), .ref rn, .ref cu]))) (wl : M xl = some (.inr (5, [.ref cl, .int (r_f), .int (r_e), .int (r_g)]))) (hcl : al_at D M cl cr (ss.map ca)) (hj : ss[j]? = some n) (hn : ct_is M EF CF ent ca ce n) (hwh : xi_has 5 wh = false) : mw_C l yy_Xi_svid bb_Xi_svid 4 (Option.some Jvm.ClassFile.FieldType.int) 4 85 0 0 D z M [.ref x, .int (nI j), .int (wh)] (fun v M' => v = some (.int (-1001)) ∧ M' = M) := by
  refine mw_of (by decide) (Nat.le_of_ble_eq_true rfl) ?_
  intro p e s m below meth c ls E hr hk hnm hM hl
  have hx := E.x
  have hb := E.b
  have E : mw_E p m c bb_Xi_svid 4 s _ D z "IdentityIssuer" := E
  have hl : lv_has ls 4 [(0, .ref x), (1, .int (nI j)), (2, .int (wh))] := hl
  have hS : va_S (mw_A z) s.heap s.heap [] := va_S.rf
  obtain ⟨moc, wc9⟩ := hcl.cell
  have hle := hcl.le
  have hjl : j < ss.length := (List.getElem?_eq_some_iff.mp hj).1
  rw [List.length_map] at hle wc9
  refine lv_aload_n hx hb dd_Xi_svid_0 rfl (lv_at hl 0 rfl) ?_
  refine gf_Xi_43 E hM wx rfl dd_Xi_svid_1 ?_
  refine lv_iload_n hx hb dd_Xi_svid_4 rfl (lv_at hl 1 rfl) ?_
  refine mw_V (As := [.int (nI j)]) (rest := []) E (cc_Rs_hasCertificate l D z (M) xl cl cr ss.length r_f r_e r_g moc (nI j) wl wc9 (by omega)) ky_Rs_hasCertificate kv_Rs_hasCertificate tw_Xi_211 hM hS wl rfl rfl rfl hl.1 rfl (Nat.le_of_ble_eq_true rfl) dd_Xi_svid_5 (by first | decide | exact ⟨by dsimp only; omega, by dsimp only; omega⟩) (by decide) (fun v M1 H locs hp hM hS => ?_)
  obtain ⟨rfl, hq⟩ := hp
  have hq := hq.symm
  subst hq
  rw [xi_hasN hjl (by omega)]
  refine W.eq (g2 := F0 m 8 ls [.int (zI true)]) rfl ?_
  refine lv_if_ne (tgt := 15) hx hb dd_Xi_svid_8 (by decide) (fun h8 => ?_) (fun h8 => ?_)
  ·
    refine lv_aload_n hx hb dd_Xi_svid_15 rfl (lv_at hl 0 rfl) ?_
    refine gf_Xi_43 E hM wx rfl dd_Xi_svid_16 ?_
    refine lv_iload_n hx hb dd_Xi_svid_19 rfl (lv_at hl 1 rfl) ?_
    refine mw_V (As := [.int (nI j)]) (rest := []) E (cc_Rs_certificate l D z (M) xl cl cr r_f r_e r_g ss j n EF CF ent ca ce wl hcl hj hn) ky_Rs_certificate kv_Rs_certificate tw_Xi_214 hM hS wl rfl rfl rfl hl.1 rfl (Nat.le_of_ble_eq_true rfl) dd_Xi_svid_20 (by first | decide | exact ⟨by dsimp only; omega, by dsimp only; omega⟩) (by decide) (fun v M1 H locs hp hM hS => ?_)
    obtain ⟨rfl, hq⟩ := hp
    have hq := hq.symm
    subst hq
    have wn : M (ca n) = some (.inr (11, [.ref (ent (ce n)), .int (nI n), .int (CF n 2), .int (CF n 3), .int (CF n 4)])) := (hn).1
    have we : M (ent (ce n)) = some (.inr (9, [.int (EF (ce n) 0), .int (EF (ce n) 1), .int (EF (ce n) 2), .int (EF (ce n) 3), .int (EF (ce n) 4), .int (EF (ce n) 5)])) := (hn).2
    refine W.eq (g2 := F0 m 23 ls [.ref (ca n)]) rfl ?_
    refine lv_astore_n (lv' := [(3, .ref (ca n)), (0, .ref x), (1, .int (nI j)), (2, .int (wh))]) hx hb dd_Xi_svid_23 rfl hl (by decide) rfl (fun ls hl => ?_)
    refine lv_iload_n hx hb dd_Xi_svid_24 rfl (lv_at hl 3 rfl) ?_
    have h5 : wh.toInt < 0 ∨ 4 < wh.toInt := by
      simp only [xi_has, Bool.and_eq_false_iff, decide_eq_false_iff_not] at hwh
      omega
    refine lv_tableOut (tgt := 88) hx hb dd_Xi_svid_25 h5 (by decide) ?_
    refine lv_sipush (v := -1001) hx hb dd_Xi_svid_88 (by decide) ?_
    refine mr_i E hr hk hM hS (by decide) (by decide) ?_ dd_Xi_svid_91
    exact ⟨rfl, rfl⟩
  ·
    exact absurd h8 (by decide)
set_option maxHeartbeats 4000000 in
set_option maxRecDepth 100000 in
theorem cc_Xi_sync_x (l : Launch) (D : va_G) (z : Nat) (M : mw_M) (x xb xi xk xe xa xw xl xr xt rn cu : Nat) (fo : Int32) (cl ns : Nat) (kr9 lf kc ka : Nat) (pr : Int32) (f : Nat → Int32) (g : Nat → Nat) (el er mk y kl kr rr : Nat) (a_i a_s a_f a_e a_g : Int32) (tn : Nat → Nat) (es ss L0 : List Nat) (EF CF : Nat → Nat → Int32) (ent ca ce : Nat → Nat) (ar j : Nat) (ags : List Nat) (wx : M x = some (.inr (0, [.ref xb, .ref xi, .ref xk, .ref xe, .ref xa, .ref xw, .ref xl, .ref xr, .ref xt, .int (fo), .int (nI cl), .int (nI ns), .ref rn, .ref cu]))) (wk : M xk = some (.inr (8, [.int (nI lf), .ref kr9, .int (nI kc), .int (nI ka), .int (pr)]))) (wr9 : M kr9 = some (.inl (D.1 100, 4, .inl f))) (hg : ∀ j, j < 4 → f j = nI (g j) ∧ g j < 2 ^ 20) (hlf : lf < 2 ^ 20) (hkc : kc < 2 ^ 20) (hka : ka < 2 ^ 20) (hes : es_at D M xe el er mk es EF ent) (wy : M y = some (.inr (10, [.int (a_i), .ref kl, .int (a_s), .int (a_f), .int (a_e), .int (a_g)]))) (hkl : al_at D M kl kr (ss.map ca)) (hss : ∀ n : Nat, n ∈ ss → ct_is M EF CF ent ca ce n) (hrn : al_at D M rn rr L0) (htn : ∀ e : Nat, e ∈ es → EF e 4 = nI (tn e) ∧ tn e < 2 ^ 20) (hel : es.length ≤ 12) (hsl : ss.length ≤ 12) (hsn : ∀ n : Nat, n ∈ ss → n ≤ ns) (hcl : cl < 2 ^ 20) (hns : ns < 2 ^ 20) (hen : el ≠ rn) (hkn : kl ≠ rn) (hrr1 : er = rr → er = D.2 200 0) (hrr2 : kr = rr → kr = D.2 200 0) (hag : al_at D M xa ar ags) (hj : ags[j]? = some y) (hx9 : 0 < es.countP (fun e => ru_f2 EF (ru_set EF es a_i a_s) e && (ss.find? (fh_p EF CF ce (EF e 0) (nI cl))).isNone) ∧ ky_good kc lf g (nI ka) cl = false) : mw_C l yy_Xi_sync bb_Xi_sync 5 (Option.some Jvm.ClassFile.FieldType.int) 5 113 0 0 D z M [.ref x, .int (nI j)] (fun v M' => v = some (.int (-1005)) ∧ M' = M) := by
  refine mw_of (by decide) (Nat.le_of_ble_eq_true rfl) ?_
  intro p e s m below meth c ls E hr hk hnm hM hl
  have hx := E.x
  have hb := E.b
  have E : mw_E p m c bb_Xi_sync 5 s _ D z "IdentityIssuer" := E
  have hl : lv_has ls 5 [(0, .ref x), (1, .int (nI j))] := hl
  have hS : va_S (mw_A z) s.heap s.heap [] := va_S.rf
  obtain ⟨moa, wa9⟩ := hag.cell
  have hjl : j < ags.length := (List.getElem?_eq_some_iff.mp hj).1
  have we9 := hes.1
  obtain ⟨rc, hrc⟩ : ∃ r9 : Int32, r9 = (ru_set EF es a_i a_s) := ⟨_, rfl⟩
  rw [← hrc] at hx9
  refine lv_aload_n hx hb dd_Xi_sync_0 rfl (lv_at hl 0 rfl) ?_
  refine lv_iload_n hx hb dd_Xi_sync_1 rfl (lv_at hl 1 rfl) ?_
  refine mw_V (As := [.int (nI j)]) (rest := []) E (cc_Xi_isAgent l D z (M) x xb xi xk xe xa xw xl xr xt rn cu fo (nI cl) (nI ns) ar ags.length moa (nI j) wx wa9 (by have := hag.le; omega)) ky_Xi_isAgent kv_Xi_isAgent tw_Xi_140 hM hS wx rfl rfl rfl hl.1 rfl (Nat.le_of_ble_eq_true rfl) dd_Xi_sync_2 (by first | decide | exact ⟨by dsimp only; omega, by dsimp only; omega⟩) (by decide) (fun v M1 H locs hp hM hS => ?_)
  obtain ⟨rfl, hq⟩ := hp
  have hq := hq.symm
  subst hq
  refine W.eq (g2 := F0 m 5 ls [.int (zI (xi_has ags.length (nI j)))]) rfl ?_
  refine lv_if_ne (tgt := 12) hx hb dd_Xi_sync_5 (by decide) (fun h5 => ?_) (fun h5 => ?_)
  ·
    refine lv_aload_n hx hb dd_Xi_sync_12 rfl (lv_at hl 0 rfl) ?_
    refine gf_Xi_33 E hM wx rfl dd_Xi_sync_13 ?_
    refine lv_iload_n hx hb dd_Xi_sync_16 rfl (lv_at hl 1 rfl) ?_
    refine mw_V (As := [.int (nI j)]) (rest := []) E (la_get (y := y) l D z (M) hag (hj)) ky_AL_get kv_AL_get tw_Xi_131 hM hS wa9 rfl rfl rfl hl.1 rfl (Nat.le_of_ble_eq_true rfl) dd_Xi_sync_17 (by first | decide | exact ⟨by dsimp only; omega, by dsimp only; omega⟩) (by decide) (fun v M1 H locs hp hM hS => ?_)
    obtain ⟨rfl, hq⟩ := hp
    have hq := hq.symm
    subst hq
    refine W.eq (g2 := F0 m 20 ls [.ref y]) rfl ?_
    refine va_castY (C := "IdentityIssuer$Agent") hx hb E.o (E.t _ tw_Xi_135) (E.N.2.2.1 ("IdentityIssuer$Agent", "IdentityIssuer$Agent") (by decide)) (mw_recv E.K hM rfl wy) dd_Xi_sync_20 ?_
    refine lv_astore_n (lv' := [(2, .ref y), (0, .ref x), (1, .int (nI j))]) hx hb dd_Xi_sync_23 rfl hl (by decide) rfl (fun ls hl => ?_)
    refine lv_aload_n hx hb dd_Xi_sync_24 rfl (lv_at hl 1 rfl) ?_
    refine gf_Xi_26 E hM wx rfl dd_Xi_sync_25 ?_
    refine lv_aload_n hx hb dd_Xi_sync_28 rfl (lv_at hl 0 rfl) ?_
    refine mw_V (As := [.ref y]) (rest := []) E (ce_reach l D z (M) hes (by omega) wy) ky_Es_reachOf kv_Es_reachOf tw_Xi_143 hM hS we9 rfl rfl rfl hl.1 rfl (Nat.le_of_ble_eq_true rfl) dd_Xi_sync_29 (by first | decide | exact ⟨by dsimp only; omega, by dsimp only; omega⟩) (by decide) (fun v M1 H locs hp hM hS => ?_)
    obtain ⟨rfl, hq⟩ := hp
    have hq := hq.symm
    subst hq
    refine W.eq (g2 := F0 m 32 ls [.int ((ru_set EF es a_i a_s))]) rfl ?_
    refine mw_topi (y := rc) (hrc.symm) ?_
    refine lv_istore_n (lv' := [(3, .int (rc)), (2, .ref y), (0, .ref x), (1, .int (nI j))]) hx hb dd_Xi_sync_32 rfl hl (by decide) rfl (fun ls hl => ?_)
    refine lv_aload_n hx hb dd_Xi_sync_33 rfl (lv_at hl 2 rfl) ?_
    refine lv_aload_n hx hb dd_Xi_sync_34 rfl (lv_at hl 1 rfl) ?_
    refine lv_iload_n hx hb dd_Xi_sync_35 rfl (lv_at hl 0 rfl) ?_
    refine mw_V (As := [.ref y, .int (rc)]) (rest := []) E (cc_Xi_countDue l D z (M) x xb xi xk xe xa xw xl xr xt rn cu fo (nI cl) (nI ns) el er mk y kl kr a_i a_s a_f a_e a_g rc es ss EF CF ent ca ce wx hes wy hkl hss (by omega)) ky_Xi_countDue kv_Xi_countDue tw_Xi_147 hM hS wx rfl rfl rfl hl.1 rfl (Nat.le_of_ble_eq_true rfl) dd_Xi_sync_36 (by first | decide | exact ⟨by dsimp only; omega, by dsimp only; omega⟩) (by decide) (fun v M1 H locs hp hM hS => ?_)
    obtain ⟨rfl, hq⟩ := hp
    have hq := hq.symm
    subst hq
    refine W.eq (g2 := F0 m 39 ls [.int (nI (es.countP (fun e => ru_f2 EF rc e && (ss.find? (fh_p EF CF ce (EF e 0) (nI cl))).isNone)))]) rfl ?_
    obtain ⟨n0, hn0⟩ : ∃ n9 : Nat, n9 = es.countP (fun e => ru_f2 EF rc e && (ss.find? (fh_p EF CF ce (EF e 0) (nI cl))).isNone) := ⟨_, rfl⟩
    refine mw_topi (y := nI n0) (congrArg nI hn0.symm) ?_
    have hn12 : n0 ≤ 12 := by rw [hn0]; exact Nat.le_trans List.countP_le_length hel
    refine lv_istore (lv' := [(4, .int (nI n0)), (3, .int (rc)), (2, .ref y), (0, .ref x), (1, .int (nI j))]) hx hb dd_Xi_sync_39 hl (by decide) rfl (fun ls hl => ?_)
    refine lv_iload hx hb dd_Xi_sync_41 (lv_at hl 0 rfl) ?_
    refine lv_if_le (tgt := 71) hx hb dd_Xi_sync_43 (by decide) (fun h43 => ?_) (fun h43 => ?_)
    ·
      exact absurd (nI_le0 (by omega) h43) (by rw [hn0]; omega)
    ·
      refine lv_aload_n hx hb dd_Xi_sync_46 rfl (lv_at hl 3 rfl) ?_
      refine gf_Xi_81 E hM wx rfl dd_Xi_sync_47 ?_
      refine lv_aload_n hx hb dd_Xi_sync_50 rfl (lv_at hl 3 rfl) ?_
      refine gf_Xi_81 E hM wx rfl dd_Xi_sync_51 ?_
      refine mw_V (As := []) (rest := [.ref xk]) E (cc_Ky_active l D z (M) xk kr9 lf kc (nI ka) pr f g wk wr9 hg hlf hkc) ky_Ky_active kv_Ky_active tw_Xi_151 hM hS wk rfl rfl rfl hl.1 rfl (Nat.le_of_ble_eq_true rfl) dd_Xi_sync_54 (by first | decide | exact ⟨by dsimp only; omega, by dsimp only; omega⟩) (by decide) (fun v M1 H locs hp hM hS => ?_)
      obtain ⟨rfl, hq⟩ := hp
      have hq := hq.symm
      subst hq
      refine W.eq (g2 := F0 m 57 ls [.int (nI ka), .ref xk]) rfl ?_
      refine lv_aload_n hx hb dd_Xi_sync_57 rfl (lv_at hl 3 rfl) ?_
      refine gf_Xi_154 E hM wx rfl dd_Xi_sync_58 ?_
      refine mw_V (As := [.int (nI ka), .int (nI cl)]) (rest := []) E (cc_Ky_isGood l D z (M) xk kr9 lf kc (nI ka) pr f g (nI ka) cl wk wr9 hg hlf hkc hcl) ky_Ky_isGood kv_Ky_isGood tw_Xi_157 hM hS wk rfl rfl rfl hl.1 rfl (Nat.le_of_ble_eq_true rfl) dd_Xi_sync_61 (by first | decide | exact ⟨by dsimp only; omega, by dsimp only; omega⟩) (by decide) (fun v M1 H locs hp hM hS => ?_)
      obtain ⟨rfl, hq⟩ := hp
      have hq := hq.symm
      subst hq
      refine W.eq (g2 := F0 m 64 ls [.int (zI (ky_good kc lf g (nI ka) cl))]) rfl ?_
      refine lv_if_ne (tgt := 71) hx hb dd_Xi_sync_64 (by decide) (fun h64 => ?_) (fun h64 => ?_)
      ·
        exact absurd (zI_0.mpr hx9.2) h64
      ·
        refine lv_sipush (v := -1005) hx hb dd_Xi_sync_67 (by decide) ?_
        refine mr_i E hr hk hM hS (by decide) (by decide) ?_ dd_Xi_sync_70
        exact ⟨rfl, rfl⟩
  ·
    exact absurd (show zI (xi_has ags.length (nI j)) = 0 from h5) (by rw [xi_hasN hjl (by have := hag.le; omega)]; decide)
set_option maxHeartbeats 4000000 in
set_option maxRecDepth 100000 in
theorem cc_Xi_sync_y (l : Launch) (D : va_G) (z : Nat) (M : mw_M) (x xb xi xk xe xa xw xl xr xt rn cu : Nat) (fo : Int32) (cl ns : Nat) (kr9 lf kc ka : Nat) (pr : Int32) (f : Nat → Int32) (g : Nat → Nat) (el er mk y kl kr rr : Nat) (a_i a_s a_f a_e a_g : Int32) (tn : Nat → Nat) (es ss L0 : List Nat) (EF CF : Nat → Nat → Int32) (ent ca ce : Nat → Nat) (ar j : Nat) (ags : List Nat) (wx : M x = some (.inr (0, [.ref xb, .ref xi, .ref xk, .ref xe, .ref xa, .ref xw, .ref xl, .ref xr, .ref xt, .int (fo), .int (nI cl), .int (nI ns), .ref rn, .ref cu]))) (wk : M xk = some (.inr (8, [.int (nI lf), .ref kr9, .int (nI kc), .int (nI ka), .int (pr)]))) (wr9 : M kr9 = some (.inl (D.1 100, 4, .inl f))) (hg : ∀ j, j < 4 → f j = nI (g j) ∧ g j < 2 ^ 20) (hlf : lf < 2 ^ 20) (hkc : kc < 2 ^ 20) (hka : ka < 2 ^ 20) (hes : es_at D M xe el er mk es EF ent) (wy : M y = some (.inr (10, [.int (a_i), .ref kl, .int (a_s), .int (a_f), .int (a_e), .int (a_g)]))) (hkl : al_at D M kl kr (ss.map ca)) (hss : ∀ n : Nat, n ∈ ss → ct_is M EF CF ent ca ce n) (hrn : al_at D M rn rr L0) (htn : ∀ e : Nat, e ∈ es → EF e 4 = nI (tn e) ∧ tn e < 2 ^ 20) (hel : es.length ≤ 12) (hsl : ss.length ≤ 12) (hsn : ∀ n : Nat, n ∈ ss → n ≤ ns) (hcl : cl < 2 ^ 20) (hns : ns < 2 ^ 20) (hen : el ≠ rn) (hkn : kl ≠ rn) (hrr1 : er = rr → er = D.2 200 0) (hrr2 : kr = rr → kr = D.2 200 0) (hag : al_at D M xa ar ags) (hj : ags[j]? = some y) (hok : es.countP (fun e => ru_f2 EF (ru_set EF es a_i a_s) e && (ss.find? (fh_p EF CF ce (EF e 0) (nI cl))).isNone) = 0 ∨ ky_good kc lf g (nI ka) cl = true) : mw_C l yy_Xi_sync bb_Xi_sync 5 (Option.some Jvm.ClassFile.FieldType.int) 9 204 36 420 D z M [.ref x, .int (nI j)] (fun v M' => v = some (.int (nI (es.countP (fun e => ru_f2 EF (ru_set EF es a_i a_s) e && (ss.find? (fh_p EF CF ce (EF e 0) (nI cl))).isNone)))) ∧ ∃ ns1 L1 CF1 ca1 ce1 r1 k1, rn_go (ru_f2 EF (ru_set EF es a_i a_s)) (fun e => ss.find? (fh_p EF CF ce (EF e 0) (nI cl))) es ns = (ns1, L1) ∧ al_at D M' kl k1 (L1.map ca1) ∧ al_at D M' rn r1 (L1.map ca1) ∧ (∀ n : Nat, n ≤ ns → ca1 n = ca n ∧ ce1 n = ce n ∧ CF1 n = CF n) ∧ (∀ n : Nat, ns < n → n ≤ ns1 → ct_is M' EF CF1 ent ca1 ce1 n ∧ CF1 n 2 = nI ka ∧ CF1 n 3 = nI cl ∧ CF1 n 4 = nI (min (cl + tn (ce1 n)) (g (ka % 4) + lf)) ∧ (rn_N (ru_f2 EF (ru_set EF es a_i a_s)) (fun e => ss.find? (fh_p EF CF ce (EF e 0) (nI cl))) es)[n - ns - 1]? = some (ce1 n)) ∧ (∀ n : Nat, n ∈ L1 → ct_is M' EF CF1 ent ca1 ce1 n ∧ n ≤ ns1) ∧ M' x = some (.inr (0, [.ref xb, .ref xi, .ref xk, .ref xe, .ref xa, .ref xw, .ref xl, .ref xr, .ref xt, .int (fo), .int (nI cl), .int (nI ns1), .ref rn, .ref cu])) ∧ M' y = some (.inr (10, [.int (a_i), .ref kl, .int (a_s), .int (nI (ky_first kc lf g cl)), .int (nI kc), .int (fo)])) ∧ mw_fr (fun q => q = x ∨ q = rn ∨ q = rr ∨ q = kl ∨ q = kr ∨ q = y) M M' ∧ (r1 = rr ∨ M r1 = none) ∧ (k1 = kr ∨ M k1 = none) ∧ ns ≤ ns1 ∧ ns1 ≤ ns + 12 ∧ (r1 = k1 → r1 = D.2 200 0)) := by
  refine mw_of (by decide) (Nat.le_of_ble_eq_true rfl) ?_
  intro p e s m below meth c ls E hr hk hnm hM hl
  have hx := E.x
  have hb := E.b
  have E : mw_E p m c bb_Xi_sync 5 s _ D z "IdentityIssuer" := E
  have hl : lv_has ls 5 [(0, .ref x), (1, .int (nI j))] := hl
  have hS : va_S (mw_A z) s.heap s.heap [] := va_S.rf
  have hF : mw_fr (fun q => q = x ∨ q = rn ∨ q = rr ∨ q = kl ∨ q = kr ∨ q = y) M M := mw_fr.rf
  obtain ⟨moa, wa9⟩ := hag.cell
  have hjl : j < ags.length := (List.getElem?_eq_some_iff.mp hj).1
  have we9 := hes.1
  obtain ⟨rc, hrc⟩ : ∃ r9 : Int32, r9 = (ru_set EF es a_i a_s) := ⟨_, rfl⟩
  rw [← hrc] at hok
  refine lv_aload_n hx hb dd_Xi_sync_0 rfl (lv_at hl 0 rfl) ?_
  refine lv_iload_n hx hb dd_Xi_sync_1 rfl (lv_at hl 1 rfl) ?_
  refine mw_V (As := [.int (nI j)]) (rest := []) E (cc_Xi_isAgent l D z (M) x xb xi xk xe xa xw xl xr xt rn cu fo (nI cl) (nI ns) ar ags.length moa (nI j) wx wa9 (by have := hag.le; omega)) ky_Xi_isAgent kv_Xi_isAgent tw_Xi_140 hM hS wx rfl rfl rfl hl.1 rfl (Nat.le_of_ble_eq_true rfl) dd_Xi_sync_2 (by first | decide | exact ⟨by dsimp only; omega, by dsimp only; omega⟩) (by decide) (fun v M1 H locs hp hM hS => ?_)
  obtain ⟨rfl, hq⟩ := hp
  have hq := hq.symm
  subst hq
  refine W.eq (g2 := F0 m 5 ls [.int (zI (xi_has ags.length (nI j)))]) rfl ?_
  refine lv_if_ne (tgt := 12) hx hb dd_Xi_sync_5 (by decide) (fun h5 => ?_) (fun h5 => ?_)
  ·
    refine lv_aload_n hx hb dd_Xi_sync_12 rfl (lv_at hl 0 rfl) ?_
    refine gf_Xi_33 E hM wx rfl dd_Xi_sync_13 ?_
    refine lv_iload_n hx hb dd_Xi_sync_16 rfl (lv_at hl 1 rfl) ?_
    refine mw_V (As := [.int (nI j)]) (rest := []) E (la_get (y := y) l D z (M) hag (hj)) ky_AL_get kv_AL_get tw_Xi_131 hM hS wa9 rfl rfl rfl hl.1 rfl (Nat.le_of_ble_eq_true rfl) dd_Xi_sync_17 (by first | decide | exact ⟨by dsimp only; omega, by dsimp only; omega⟩) (by decide) (fun v M1 H locs hp hM hS => ?_)
    obtain ⟨rfl, hq⟩ := hp
    have hq := hq.symm
    subst hq
    refine W.eq (g2 := F0 m 20 ls [.ref y]) rfl ?_
    refine va_castY (C := "IdentityIssuer$Agent") hx hb E.o (E.t _ tw_Xi_135) (E.N.2.2.1 ("IdentityIssuer$Agent", "IdentityIssuer$Agent") (by decide)) (mw_recv E.K hM rfl wy) dd_Xi_sync_20 ?_
    refine lv_astore_n (lv' := [(2, .ref y), (0, .ref x), (1, .int (nI j))]) hx hb dd_Xi_sync_23 rfl hl (by decide) rfl (fun ls hl => ?_)
    refine lv_aload_n hx hb dd_Xi_sync_24 rfl (lv_at hl 1 rfl) ?_
    refine gf_Xi_26 E hM wx rfl dd_Xi_sync_25 ?_
    refine lv_aload_n hx hb dd_Xi_sync_28 rfl (lv_at hl 0 rfl) ?_
    refine mw_V (As := [.ref y]) (rest := []) E (ce_reach l D z (M) hes (by omega) wy) ky_Es_reachOf kv_Es_reachOf tw_Xi_143 hM hS we9 rfl rfl rfl hl.1 rfl (Nat.le_of_ble_eq_true rfl) dd_Xi_sync_29 (by first | decide | exact ⟨by dsimp only; omega, by dsimp only; omega⟩) (by decide) (fun v M1 H locs hp hM hS => ?_)
    obtain ⟨rfl, hq⟩ := hp
    have hq := hq.symm
    subst hq
    refine W.eq (g2 := F0 m 32 ls [.int ((ru_set EF es a_i a_s))]) rfl ?_
    refine mw_topi (y := rc) (hrc.symm) ?_
    refine lv_istore_n (lv' := [(3, .int (rc)), (2, .ref y), (0, .ref x), (1, .int (nI j))]) hx hb dd_Xi_sync_32 rfl hl (by decide) rfl (fun ls hl => ?_)
    refine lv_aload_n hx hb dd_Xi_sync_33 rfl (lv_at hl 2 rfl) ?_
    refine lv_aload_n hx hb dd_Xi_sync_34 rfl (lv_at hl 1 rfl) ?_
    refine lv_iload_n hx hb dd_Xi_sync_35 rfl (lv_at hl 0 rfl) ?_
    refine mw_V (As := [.ref y, .int (rc)]) (rest := []) E (cc_Xi_countDue l D z (M) x xb xi xk xe xa xw xl xr xt rn cu fo (nI cl) (nI ns) el er mk y kl kr a_i a_s a_f a_e a_g rc es ss EF CF ent ca ce wx hes wy hkl hss (by omega)) ky_Xi_countDue kv_Xi_countDue tw_Xi_147 hM hS wx rfl rfl rfl hl.1 rfl (Nat.le_of_ble_eq_true rfl) dd_Xi_sync_36 (by first | decide | exact ⟨by dsimp only; omega, by dsimp only; omega⟩) (by decide) (fun v M1 H locs hp hM hS => ?_)
    obtain ⟨rfl, hq⟩ := hp
    have hq := hq.symm
    subst hq
    refine W.eq (g2 := F0 m 39 ls [.int (nI (es.countP (fun e => ru_f2 EF rc e && (ss.find? (fh_p EF CF ce (EF e 0) (nI cl))).isNone)))]) rfl ?_
    obtain ⟨n0, hn0⟩ : ∃ n9 : Nat, n9 = es.countP (fun e => ru_f2 EF rc e && (ss.find? (fh_p EF CF ce (EF e 0) (nI cl))).isNone) := ⟨_, rfl⟩
    refine mw_topi (y := nI n0) (congrArg nI hn0.symm) ?_
    have hn12 : n0 ≤ 12 := by rw [hn0]; exact Nat.le_trans List.countP_le_length hel
    refine lv_istore (lv' := [(4, .int (nI n0)), (3, .int (rc)), (2, .ref y), (0, .ref x), (1, .int (nI j))]) hx hb dd_Xi_sync_39 hl (by decide) rfl (fun ls hl => ?_)
    have join71 : ∀ (hT9 : True) (H : Heap) (locs : List Loc) (ls : Array Slot), True → mw_at D mg_cl z M H → va_S (mw_A z) s.heap H locs → lv_has ls 5 [(4, .int (nI n0)), (3, .int (rc)), (2, .ref y), (0, .ref x), (1, .int (nI j))] → W p l e ({ frames := 9, cells := 36, slots := 420, locals := 204 } : Room) s m ([.ref x, .int (nI j)] : List Value).toArray below meth c H locs (0) (0) (MQ below (mw_Q D z (fun v M' => v = some (.int (nI (es.countP (fun e => ru_f2 EF (ru_set EF es a_i a_s) e && (ss.find? (fh_p EF CF ce (EF e 0) (nI cl))).isNone)))) ∧ ∃ ns1 L1 CF1 ca1 ce1 r1 k1, rn_go (ru_f2 EF (ru_set EF es a_i a_s)) (fun e => ss.find? (fh_p EF CF ce (EF e 0) (nI cl))) es ns = (ns1, L1) ∧ al_at D M' kl k1 (L1.map ca1) ∧ al_at D M' rn r1 (L1.map ca1) ∧ (∀ n : Nat, n ≤ ns → ca1 n = ca n ∧ ce1 n = ce n ∧ CF1 n = CF n) ∧ (∀ n : Nat, ns < n → n ≤ ns1 → ct_is M' EF CF1 ent ca1 ce1 n ∧ CF1 n 2 = nI ka ∧ CF1 n 3 = nI cl ∧ CF1 n 4 = nI (min (cl + tn (ce1 n)) (g (ka % 4) + lf)) ∧ (rn_N (ru_f2 EF (ru_set EF es a_i a_s)) (fun e => ss.find? (fh_p EF CF ce (EF e 0) (nI cl))) es)[n - ns - 1]? = some (ce1 n)) ∧ (∀ n : Nat, n ∈ L1 → ct_is M' EF CF1 ent ca1 ce1 n ∧ n ≤ ns1) ∧ M' x = some (.inr (0, [.ref xb, .ref xi, .ref xk, .ref xe, .ref xa, .ref xw, .ref xl, .ref xr, .ref xt, .int (fo), .int (nI cl), .int (nI ns1), .ref rn, .ref cu])) ∧ M' y = some (.inr (10, [.int (a_i), .ref kl, .int (a_s), .int (nI (ky_first kc lf g cl)), .int (nI kc), .int (fo)])) ∧ mw_fr (fun q => q = x ∨ q = rn ∨ q = rr ∨ q = kl ∨ q = kr ∨ q = y) M M' ∧ (r1 = rr ∨ M r1 = none) ∧ (k1 = kr ∨ M k1 = none) ∧ ns ≤ ns1 ∧ ns1 ≤ ns + 12 ∧ (r1 = k1 → r1 = D.2 200 0))) ([.ref x, .int (nI j)] : List Value).toArray s 36 420 (mw_A z)) (F0 m 71 ls []) := by
      intro hT9 H locs ls hT hM hS hl
      refine lv_aload_n hx hb dd_Xi_sync_71 rfl (lv_at hl 3 rfl) ?_
      refine lv_aload_n hx hb dd_Xi_sync_72 rfl (lv_at hl 2 rfl) ?_
      refine lv_iload_n hx hb dd_Xi_sync_73 rfl (lv_at hl 1 rfl) ?_
      refine mw_V (As := [.ref y, .int (rc)]) (rest := []) E (cc_Xi_renew l D z (M) x xb xi xk xe xa xw xl xr xt rn cu fo cl ns kr9 lf kc ka pr f g el er mk y kl kr rr a_i a_s a_f a_e a_g rc tn es ss L0 EF CF ent ca ce wx wk wr9 hg hlf hkc hka hes wy hkl hss hrn htn hel hsl hsn hcl hns hen hkn hrr1 hrr2) ky_Xi_renew kv_Xi_renew tw_Xi_161 hM hS wx rfl rfl rfl hl.1 rfl (Nat.le_of_ble_eq_true rfl) dd_Xi_sync_74 (by first | decide | exact ⟨by dsimp only; omega, by dsimp only; omega⟩) (by decide) (fun v M1 H locs hp hM hS => ?_)
      obtain ⟨rfl, ns1, L1, CF1, ca1, ce1, r1, k1, hgo, hL2, hrn2, hag2, hnew, hL1, wx2, hF2, har, har2, hn1, hn2, hrk⟩ := hp
      obtain ⟨mon, wn9⟩ := hrn.cell
      obtain ⟨mok, wk9⟩ := hkl.cell
      have wy := hF2.at wy (fun q => q.elim (mw_ne wy wx (fun q => by cases q)) (fun q => q.elim (mw_ne wy wn9 (fun q => by cases q)) (fun q => q.elim (hrn.nr wy) (fun q => q.elim (mw_ne wy wk9 (fun q => by cases q)) (hkl.nr wy)))))
      have wk := hF2.at wk (fun q => q.elim (mw_ne wk wx (fun q => by cases q)) (fun q => q.elim (mw_ne wk wn9 (fun q => by cases q)) (fun q => q.elim (hrn.nr wk) (fun q => q.elim (mw_ne wk wk9 (fun q => by cases q)) (hkl.nr wk)))))
      have wr9 := hF2.at wr9 (fun q => q.elim (mw_ne wr9 wx (fun q => by cases q)) (fun q => q.elim (mw_ne wr9 wn9 (fun q => by cases q)) (fun q => q.elim (hrn.nri wr9) (fun q => q.elim (mw_ne wr9 wk9 (fun q => by cases q)) (hkl.nri wr9)))))
      have wx := wx2
      have hF := hF.tr2 hF2 (fun q h => Or.inl (h.imp id (fun h => h.imp id (fun h => h.imp id (fun h => h.imp id Or.inl)))))
      refine W.eq (g2 := F0 m 77 ls []) rfl ?_
      refine lv_aload_n hx hb dd_Xi_sync_77 rfl (lv_at hl 2 rfl) ?_
      refine lv_aload_n hx hb dd_Xi_sync_78 rfl (lv_at hl 3 rfl) ?_
      refine gf_Xi_81 E hM wx rfl dd_Xi_sync_79 ?_
      refine lv_aload_n hx hb dd_Xi_sync_82 rfl (lv_at hl 3 rfl) ?_
      refine gf_Xi_154 E hM wx rfl dd_Xi_sync_83 ?_
      refine mw_V (As := [.int (nI cl)]) (rest := [.ref y]) E (cc_Ky_firstGood l D z (M1) xk kr9 lf kc (nI ka) pr f g cl wk wr9 hg hlf hkc hcl) ky_Ky_firstGood kv_Ky_firstGood tw_Xi_165 hM hS wk rfl rfl rfl hl.1 rfl (Nat.le_of_ble_eq_true rfl) dd_Xi_sync_86 (by first | decide | exact ⟨by dsimp only; omega, by dsimp only; omega⟩) (by decide) (fun v M1 H locs hp hM hS => ?_)
      obtain ⟨rfl, hq⟩ := hp
      have hq := hq.symm
      subst hq
      refine W.eq (g2 := F0 m 89 ls [.int (nI (ky_first kc lf g cl)), .ref y]) rfl ?_
      refine lv_aload_n hx hb dd_Xi_sync_89 rfl (lv_at hl 3 rfl) ?_
      refine gf_Xi_81 E hM wx rfl dd_Xi_sync_90 ?_
      refine mw_V (As := []) (rest := [.int (nI (ky_first kc lf g cl)), .ref y]) E (cc_Ky_count l D z (M1) xk kr9 lf kc (nI ka) pr f g wk wr9 hg hlf hkc) ky_Ky_count kv_Ky_count tw_Xi_168 hM hS wk rfl rfl rfl hl.1 rfl (Nat.le_of_ble_eq_true rfl) dd_Xi_sync_93 (by first | decide | exact ⟨by dsimp only; omega, by dsimp only; omega⟩) (by decide) (fun v M1 H locs hp hM hS => ?_)
      obtain ⟨rfl, hq⟩ := hp
      have hq := hq.symm
      subst hq
      refine W.eq (g2 := F0 m 96 ls [.int (nI kc), .int (nI (ky_first kc lf g cl)), .ref y]) rfl ?_
      refine lv_aload_n hx hb dd_Xi_sync_96 rfl (lv_at hl 3 rfl) ?_
      refine gf_Xi_120 E hM wx rfl dd_Xi_sync_97 ?_
      refine mw_V (As := [.int (nI (ky_first kc lf g cl)), .int (nI kc), .int (fo)]) (rest := []) E (cc_Ag_keepBundles l D z (M1) y kl a_i a_s a_f a_e a_g (nI (ky_first kc lf g cl)) (nI kc) fo wy) ky_Ag_keepBundles kv_Ag_keepBundles tw_Xi_171 hM hS wy rfl rfl rfl hl.1 rfl (Nat.le_of_ble_eq_true rfl) dd_Xi_sync_100 (by first | decide | exact ⟨by dsimp only; omega, by dsimp only; omega⟩) (by decide) (fun v M1 H locs hp hM hS => ?_)
      obtain ⟨rfl, wy2, hF3⟩ := hp
      have z1 := mw_st0 (mw_stZ E.Z) hM
      have hL1 := fun (n : Nat) (hn : n ∈ L1) => And.intro ((hL1 n hn).1.fr hF3 (fun q ci vs w0 hc => mw_ne w0 wy (fun e9 => by cases e9; exact absurd hc (by decide)))) (hL1 n hn).2
      have hnew := fun (n : Nat) (h1 : ns < n) (h2 : n ≤ ns1) => And.intro ((hnew n h1 h2).1.fr hF3 (fun q ci vs w0 hc => mw_ne w0 wy (fun e9 => by cases e9; exact absurd hc (by decide)))) (hnew n h1 h2).2
      obtain ⟨mo8, wk8⟩ := hL2.cell
      obtain ⟨mo7, wn8⟩ := hrn2.cell
      have hL2 := hL2.fr z1 hF3 (mw_ne wk8 wy (fun q => by cases q)) (fun _ => (hL2.nr wy).symm)
      have hrn2 := hrn2.fr z1 hF3 (mw_ne wn8 wy (fun q => by cases q)) (fun _ => (hrn2.nr wy).symm)
      have wx := hF3.at wx (mw_ne wx wy (fun q => by cases q))
      have hF := hF.tr2 hF3 (fun q h => Or.inl (Or.inr (Or.inr (Or.inr (Or.inr (Or.inr h))))))
      refine W.eq (g2 := F0 m 103 ls []) rfl ?_
      refine lv_iload hx hb dd_Xi_sync_103 (lv_at hl 0 rfl) ?_
      refine mr_i E hr hk hM hS (by decide) (by decide) ?_ dd_Xi_sync_105
      rw [hrc] at hgo hnew hn0
      exact ⟨by rw [hn0], ns1, L1, CF1, ca1, ce1, r1, k1, hgo, hL2, hrn2, hag2, hnew, hL1, wx, wy2, hF, har, har2, hn1, hn2, hrk⟩
    refine lv_iload hx hb dd_Xi_sync_41 (lv_at hl 0 rfl) ?_
    refine lv_if_le (tgt := 71) hx hb dd_Xi_sync_43 (by decide) (fun h43 => ?_) (fun h43 => ?_)
    ·
      exact join71 trivial H locs ls trivial hM hS (lv_sub hl [0, 1, 2, 3, 4] rfl)
    ·
      refine lv_aload_n hx hb dd_Xi_sync_46 rfl (lv_at hl 3 rfl) ?_
      refine gf_Xi_81 E hM wx rfl dd_Xi_sync_47 ?_
      refine lv_aload_n hx hb dd_Xi_sync_50 rfl (lv_at hl 3 rfl) ?_
      refine gf_Xi_81 E hM wx rfl dd_Xi_sync_51 ?_
      refine mw_V (As := []) (rest := [.ref xk]) E (cc_Ky_active l D z (M) xk kr9 lf kc (nI ka) pr f g wk wr9 hg hlf hkc) ky_Ky_active kv_Ky_active tw_Xi_151 hM hS wk rfl rfl rfl hl.1 rfl (Nat.le_of_ble_eq_true rfl) dd_Xi_sync_54 (by first | decide | exact ⟨by dsimp only; omega, by dsimp only; omega⟩) (by decide) (fun v M1 H locs hp hM hS => ?_)
      obtain ⟨rfl, hq⟩ := hp
      have hq := hq.symm
      subst hq
      refine W.eq (g2 := F0 m 57 ls [.int (nI ka), .ref xk]) rfl ?_
      refine lv_aload_n hx hb dd_Xi_sync_57 rfl (lv_at hl 3 rfl) ?_
      refine gf_Xi_154 E hM wx rfl dd_Xi_sync_58 ?_
      refine mw_V (As := [.int (nI ka), .int (nI cl)]) (rest := []) E (cc_Ky_isGood l D z (M) xk kr9 lf kc (nI ka) pr f g (nI ka) cl wk wr9 hg hlf hkc hcl) ky_Ky_isGood kv_Ky_isGood tw_Xi_157 hM hS wk rfl rfl rfl hl.1 rfl (Nat.le_of_ble_eq_true rfl) dd_Xi_sync_61 (by first | decide | exact ⟨by dsimp only; omega, by dsimp only; omega⟩) (by decide) (fun v M1 H locs hp hM hS => ?_)
      obtain ⟨rfl, hq⟩ := hp
      have hq := hq.symm
      subst hq
      refine W.eq (g2 := F0 m 64 ls [.int (zI (ky_good kc lf g (nI ka) cl))]) rfl ?_
      refine lv_if_ne (tgt := 71) hx hb dd_Xi_sync_64 (by decide) (fun h64 => ?_) (fun h64 => ?_)
      ·
        exact join71 trivial H locs ls trivial hM hS (lv_sub hl [0, 1, 2, 3, 4] rfl)
      ·
        exact absurd (hok.elim (fun q => absurd (nI_nle0 (by omega) h43) (by rw [hn0, q]; decide)) id) (by rw [zI_0.mp h64]; decide)
  ·
    exact absurd (show zI (xi_has ags.length (nI j)) = 0 from h5) (by rw [xi_hasN hjl (by have := hag.le; omega)]; decide)
