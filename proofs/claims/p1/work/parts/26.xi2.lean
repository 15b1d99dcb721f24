/-! calls that are refused at once; put; foreign -/
theorem cc_Xi_entry_m (l : Launch) (D : va_G) (z : Nat) (M : mw_M) (x xb xi xk xe xa xw xl xr xt rn cu : Nat) (fo ck se : Int32) (t le de ic : Nat) (i j s0 t0 f0 : Int32) (wx : M x = some (.inr (0, [.ref xb, .ref xi, .ref xk, .ref xe, .ref xa, .ref xw, .ref xl, .ref xr, .ref xt, .int (fo), .int (ck), .int (se), .ref rn, .ref cu]))) (wd : M xi = some (.inr (2, [.ref t, .ref le, .ref de, .int (nI ic)]))) (hic : ic < 2 ^ 31) (hm : xi_has ic i = false ∨ xi_has ic j = false) : mw_C l yy_Xi_entry bb_Xi_entry 6 (Option.some Jvm.ClassFile.FieldType.int) 1 21 0 0 D z M [.ref x, .int (i), .int (j), .int (s0), .int (t0), .int (f0)] (fun v M' => v = some (.int (-1001)) ∧ M' = M) := by
  refine mw_of (by decide) (Nat.le_of_ble_eq_true rfl) ?_
  intro p e s m below meth c ls E hr hk hnm hM hl
  have hx := E.x
  have hb := E.b
  have E : mw_E p m c bb_Xi_entry 6 s _ D z "IdentityIssuer" := E
  have hl : lv_has ls 6 [(0, .ref x), (1, .int (i)), (2, .int (j)), (3, .int (s0)), (4, .int (t0)), (5, .int (f0))] := hl
  have hS : va_S (mw_A z) s.heap s.heap [] := va_S.rf
  refine lv_aload_n hx hb dd_Xi_entry_0 rfl (lv_at hl 0 rfl) ?_
  refine gf_Xi_19 E hM wx rfl dd_Xi_entry_1 ?_
  refine lv_iload_n hx hb dd_Xi_entry_4 rfl (lv_at hl 1 rfl) ?_
  refine mw_V (As := [.int (i)]) (rest := []) E (cc_Id_isThere l D z M xi t le de ic i wd hic) ky_Id_isThere kv_Id_isThere tw_Xi_98 hM hS wd rfl rfl rfl hl.1 rfl (Nat.le_of_ble_eq_true rfl) dd_Xi_entry_5 (by decide) (by decide) (fun v M1 H locs hp hM hS => ?_)
  obtain ⟨rfl, hq⟩ := hp
  have hq := hq.symm
  subst hq
  refine W.eq (g2 := F0 m 8 ls [.int (zI (xi_has ic i))]) rfl ?_
  refine lv_if_eq (tgt := 22) hx hb dd_Xi_entry_8 (by decide) (fun h8 => ?_) (fun h8 => ?_)
  ·
    have h8 := zI_0.mp h8
    refine lv_sipush (v := -1001) hx hb dd_Xi_entry_22 (by decide) ?_
    refine mr_i E hr hk hM hS (by decide) (by decide) ?_ dd_Xi_entry_25
    exact ⟨rfl, rfl⟩
  ·
    have h8 : xi_has ic i = true := Bool.of_not_eq_false (fun q => h8 (zI_0.mpr q))
    refine lv_aload_n hx hb dd_Xi_entry_11 rfl (lv_at hl 0 rfl) ?_
    refine gf_Xi_19 E hM wx rfl dd_Xi_entry_12 ?_
    refine lv_iload_n hx hb dd_Xi_entry_15 rfl (lv_at hl 2 rfl) ?_
    refine mw_V (As := [.int (j)]) (rest := []) E (cc_Id_isThere l D z M xi t le de ic j wd hic) ky_Id_isThere kv_Id_isThere tw_Xi_98 hM hS wd rfl rfl rfl hl.1 rfl (Nat.le_of_ble_eq_true rfl) dd_Xi_entry_16 (by decide) (by decide) (fun v M1 H locs hp hM hS => ?_)
    obtain ⟨rfl, hq⟩ := hp
    have hq := hq.symm
    subst hq
    refine W.eq (g2 := F0 m 19 ls [.int (zI (xi_has ic j))]) rfl ?_
    refine lv_if_ne (tgt := 26) hx hb dd_Xi_entry_19 (by decide) (fun h19 => ?_) (fun h19 => ?_)
    ·
      exact absurd hm (fun q => q.elim (fun q => absurd (h8.symm.trans q) (by decide)) (fun q => h19 (zI_0.mpr q)))
    ·
      refine lv_sipush (v := -1001) hx hb dd_Xi_entry_22 (by decide) ?_
      refine mr_i E hr hk hM hS (by decide) (by decide) ?_ dd_Xi_entry_25
      exact ⟨rfl, rfl⟩
theorem cc_Xi_attest_m (l : Launch) (D : va_G) (z : Nat) (M : mw_M) (x xb xi xk xe xa xw xl xr xt rn cu : Nat) (fo ck se : Int32) (t le de ic : Nat) (i s0 : Int32) (wx : M x = some (.inr (0, [.ref xb, .ref xi, .ref xk, .ref xe, .ref xa, .ref xw, .ref xl, .ref xr, .ref xt, .int (fo), .int (ck), .int (se), .ref rn, .ref cu]))) (wd : M xi = some (.inr (2, [.ref t, .ref le, .ref de, .int (nI ic)]))) (hic : ic < 2 ^ 31) (hm : xi_has ic i = false) : mw_C l yy_Xi_attest bb_Xi_attest 4 (Option.some Jvm.ClassFile.FieldType.int) 1 21 0 0 D z M [.ref x, .int (i), .int (s0)] (fun v M' => v = some (.int (-1001)) ∧ M' = M) := by
  refine mw_of (by decide) (Nat.le_of_ble_eq_true rfl) ?_
  intro p e s m below meth c ls E hr hk hnm hM hl
  have hx := E.x
  have hb := E.b
  have E : mw_E p m c bb_Xi_attest 4 s _ D z "IdentityIssuer" := E
  have hl : lv_has ls 4 [(0, .ref x), (1, .int (i)), (2, .int (s0))] := hl
  have hS : va_S (mw_A z) s.heap s.heap [] := va_S.rf
  refine lv_aload_n hx hb dd_Xi_attest_0 rfl (lv_at hl 0 rfl) ?_
  refine gf_Xi_19 E hM wx rfl dd_Xi_attest_1 ?_
  refine lv_iload_n hx hb dd_Xi_attest_4 rfl (lv_at hl 1 rfl) ?_
  refine mw_V (As := [.int (i)]) (rest := []) E (cc_Id_isThere l D z M xi t le de ic i wd hic) ky_Id_isThere kv_Id_isThere tw_Xi_98 hM hS wd rfl rfl rfl hl.1 rfl (Nat.le_of_ble_eq_true rfl) dd_Xi_attest_5 (by decide) (by decide) (fun v M1 H locs hp hM hS => ?_)
  obtain ⟨rfl, hq⟩ := hp
  have hq := hq.symm
  subst hq
  refine W.eq (g2 := F0 m 8 ls [.int (zI (xi_has ic i))]) rfl ?_
  refine lv_if_ne (tgt := 15) hx hb dd_Xi_attest_8 (by decide) (fun h8 => ?_) (fun h8 => ?_)
  ·
    exact absurd (zI_0.mpr hm) h8
  ·
    refine lv_sipush (v := -1001) hx hb dd_Xi_attest_11 (by decide) ?_
    refine mr_i E hr hk hM hS (by decide) (by decide) ?_ dd_Xi_attest_14
    exact ⟨rfl, rfl⟩
theorem cc_Xi_sync_m (l : Launch) (D : va_G) (z : Nat) (M : mw_M) (x xb xi xk xe xa xw xl xr xt rn cu : Nat) (fo ck se : Int32) (ar k : Nat) (mo i  : Int32) (wx : M x = some (.inr (0, [.ref xb, .ref xi, .ref xk, .ref xe, .ref xa, .ref xw, .ref xl, .ref xr, .ref xt, .int (fo), .int (ck), .int (se), .ref rn, .ref cu]))) (wc : M xa = some (.inr (4, [.ref ar, .int (nI k), .int (mo)]))) (hk0 : k < 2 ^ 31) (hm : xi_has k i = false) : mw_C l yy_Xi_sync bb_Xi_sync 5 (Option.some Jvm.ClassFile.FieldType.int) 2 41 0 0 D z M [.ref x, .int (i)] (fun v M' => v = some (.int (-1001)) ∧ M' = M) := by
  refine mw_of (by decide) (Nat.le_of_ble_eq_true rfl) ?_
  intro p e s m below meth c ls E hr hk hnm hM hl
  have hx := E.x
  have hb := E.b
  have E : mw_E p m c bb_Xi_sync 5 s _ D z "IdentityIssuer" := E
  have hl : lv_has ls 5 [(0, .ref x), (1, .int (i))] := hl
  have hS : va_S (mw_A z) s.heap s.heap [] := va_S.rf
  refine lv_aload_n hx hb dd_Xi_sync_0 rfl (lv_at hl 0 rfl) ?_
  refine lv_iload_n hx hb dd_Xi_sync_1 rfl (lv_at hl 1 rfl) ?_
  refine mw_V (As := [.int (i)]) (rest := []) E (cc_Xi_isAgent l D z M x xb xi xk xe xa xw xl xr xt rn cu fo ck se ar k mo i wx wc hk0) ky_Xi_isAgent kv_Xi_isAgent tw_Xi_140 hM hS wx rfl rfl rfl hl.1 rfl (Nat.le_of_ble_eq_true rfl) dd_Xi_sync_2 (by decide) (by decide) (fun v M1 H locs hp hM hS => ?_)
  obtain ⟨rfl, hq⟩ := hp
  have hq := hq.symm
  subst hq
  refine W.eq (g2 := F0 m 5 ls [.int (zI (xi_has k i))]) rfl ?_
  refine lv_if_ne (tgt := 12) hx hb dd_Xi_sync_5 (by decide) (fun h5 => ?_) (fun h5 => ?_)
  ·
    exact absurd (zI_0.mpr hm) h5
  ·
    refine lv_sipush (v := -1001) hx hb dd_Xi_sync_8 (by decide) ?_
    refine mr_i E hr hk hM hS (by decide) (by decide) ?_ dd_Xi_sync_11
    exact ⟨rfl, rfl⟩
theorem cc_Xi_fetch_m (l : Launch) (D : va_G) (z : Nat) (M : mw_M) (x xb xi xk xe xa xw xl xr xt rn cu : Nat) (fo ck se : Int32) (ar k : Nat) (mo i s0 : Int32) (wx : M x = some (.inr (0, [.ref xb, .ref xi, .ref xk, .ref xe, .ref xa, .ref xw, .ref xl, .ref xr, .ref xt, .int (fo), .int (ck), .int (se), .ref rn, .ref cu]))) (wc : M xa = some (.inr (4, [.ref ar, .int (nI k), .int (mo)]))) (hk0 : k < 2 ^ 31) (hm : xi_has k i = false) : mw_C l yy_Xi_fetch bb_Xi_fetch 3 (Option.some Jvm.ClassFile.FieldType.int) 2 41 0 0 D z M [.ref x, .int (i), .int (s0)] (fun v M' => v = some (.int (-1001)) ∧ M' = M) := by
  refine mw_of (by decide) (Nat.le_of_ble_eq_true rfl) ?_
  intro p e s m below meth c ls E hr hk hnm hM hl
  have hx := E.x
  have hb := E.b
  have E : mw_E p m c bb_Xi_fetch 3 s _ D z "IdentityIssuer" := E
  have hl : lv_has ls 3 [(0, .ref x), (1, .int (i)), (2, .int (s0))] := hl
  have hS : va_S (mw_A z) s.heap s.heap [] := va_S.rf
  refine lv_aload_n hx hb dd_Xi_fetch_0 rfl (lv_at hl 0 rfl) ?_
  refine lv_iload_n hx hb dd_Xi_fetch_1 rfl (lv_at hl 1 rfl) ?_
  refine mw_V (As := [.int (i)]) (rest := []) E (cc_Xi_isAgent l D z M x xb xi xk xe xa xw xl xr xt rn cu fo ck se ar k mo i wx wc hk0) ky_Xi_isAgent kv_Xi_isAgent tw_Xi_140 hM hS wx rfl rfl rfl hl.1 rfl (Nat.le_of_ble_eq_true rfl) dd_Xi_fetch_2 (by decide) (by decide) (fun v M1 H locs hp hM hS => ?_)
  obtain ⟨rfl, hq⟩ := hp
  have hq := hq.symm
  subst hq
  refine W.eq (g2 := F0 m 5 ls [.int (zI (xi_has k i))]) rfl ?_
  refine lv_if_ne (tgt := 12) hx hb dd_Xi_fetch_5 (by decide) (fun h5 => ?_) (fun h5 => ?_)
  ·
    exact absurd (zI_0.mpr hm) h5
  ·
    refine lv_sipush (v := -1001) hx hb dd_Xi_fetch_8 (by decide) ?_
    refine mr_i E hr hk hM hS (by decide) (by decide) ?_ dd_Xi_fetch_11
    exact ⟨rfl, rfl⟩
theorem cc_Xi_watch_m (l : Launch) (D : va_G) (z : Nat) (M : mw_M) (x xb xi xk xe xa xw xl xr xt rn cu : Nat) (fo ck se : Int32) (ar k : Nat) (mo i s0 : Int32) (wx : M x = some (.inr (0, [.ref xb, .ref xi, .ref xk, .ref xe, .ref xa, .ref xw, .ref xl, .ref xr, .ref xt, .int (fo), .int (ck), .int (se), .ref rn, .ref cu]))) (wc : M xa = some (.inr (4, [.ref ar, .int (nI k), .int (mo)]))) (hk0 : k < 2 ^ 31) (hm : xi_has k i = false) : mw_C l yy_Xi_watch bb_Xi_watch 3 (Option.some Jvm.ClassFile.FieldType.int) 2 41 0 0 D z M [.ref x, .int (i), .int (s0)] (fun v M' => v = some (.int (-1001)) ∧ M' = M) := by
  refine mw_of (by decide) (Nat.le_of_ble_eq_true rfl) ?_
  intro p e s m below meth c ls E hr hk hnm hM hl
  have hx := E.x
  have hb := E.b
  have E : mw_E p m c bb_Xi_watch 3 s _ D z "IdentityIssuer" := E
  have hl : lv_has ls 3 [(0, .ref x), (1, .int (i)), (2, .int (s0))] := hl
  have hS : va_S (mw_A z) s.heap s.heap [] := va_S.rf
  refine lv_aload_n hx hb dd_Xi_watch_0 rfl (lv_at hl 0 rfl) ?_
  refine lv_iload_n hx hb dd_Xi_watch_1 rfl (lv_at hl 1 rfl) ?_
  refine mw_V (As := [.int (i)]) (rest := []) E (cc_Xi_isAgent l D z M x xb xi xk xe xa xw xl xr xt rn cu fo ck se ar k mo i wx wc hk0) ky_Xi_isAgent kv_Xi_isAgent tw_Xi_140 hM hS wx rfl rfl rfl hl.1 rfl (Nat.le_of_ble_eq_true rfl) dd_Xi_watch_2 (by decide) (by decide) (fun v M1 H locs hp hM hS => ?_)
  obtain ⟨rfl, hq⟩ := hp
  have hq := hq.symm
  subst hq
  refine W.eq (g2 := F0 m 5 ls [.int (zI (xi_has k i))]) rfl ?_
  refine lv_if_ne (tgt := 12) hx hb dd_Xi_watch_5 (by decide) (fun h5 => ?_) (fun h5 => ?_)
  ·
    exact absurd (zI_0.mpr hm) h5
  ·
    refine lv_sipush (v := -1001) hx hb dd_Xi_watch_8 (by decide) ?_
    refine mr_i E hr hk hM hS (by decide) (by decide) ?_ dd_Xi_watch_11
    exact ⟨rfl, rfl⟩
theorem cc_Xi_poll_m (l : Launch) (D : va_G) (z : Nat) (M : mw_M) (x xb xi xk xe xa xw xl xr xt rn cu : Nat) (fo ck se : Int32) (ar k : Nat) (mo i : Int32) (wx : M x = some (.inr (0, [.ref xb, .ref xi, .ref xk, .ref xe, .ref xa, .ref xw, .ref xl, .ref xr, .ref xt, .int (fo), .int (ck), .int (se), .ref rn, .ref cu]))) (wc : M xw = some (.inr (4, [.ref ar, .int (nI k), .int (mo)]))) (hk0 : k < 2 ^ 31) (hm : xi_has k i = false) : mw_C l yy_Xi_poll bb_Xi_poll 3 (Option.some Jvm.ClassFile.FieldType.int) 1 20 0 0 D z M [.ref x, .int (i)] (fun v M' => v = some (.int (-1001)) ∧ M' = M) := by
  refine mw_of (by decide) (Nat.le_of_ble_eq_true rfl) ?_
  intro p e s m below meth c ls E hr hk hnm hM hl
  have hx := E.x
  have hb := E.b
  have E : mw_E p m c bb_Xi_poll 3 s _ D z "IdentityIssuer" := E
  have hl : lv_has ls 3 [(0, .ref x), (1, .int (i))] := hl
  have hS : va_S (mw_A z) s.heap s.heap [] := va_S.rf
  refine lv_iload_n hx hb dd_Xi_poll_0 rfl (lv_at hl 1 rfl) ?_
  refine lv_if_lt (tgt := 15) hx hb dd_Xi_poll_1 (by decide) (fun h1 => ?_) (fun h1 => ?_)
  ·
    refine lv_sipush (v := -1001) hx hb dd_Xi_poll_15 (by decide) ?_
    refine mr_i E hr hk hM hS (by decide) (by decide) ?_ dd_Xi_poll_18
    exact ⟨rfl, rfl⟩
  ·
    refine lv_iload_n hx hb dd_Xi_poll_4 rfl (lv_at hl 1 rfl) ?_
    refine lv_aload_n hx hb dd_Xi_poll_5 rfl (lv_at hl 0 rfl) ?_
    refine gf_Xi_37 E hM wx rfl dd_Xi_poll_6 ?_
    refine mw_V (As := []) (rest := [.int (i)]) E (cc_AL_size l D z (M) xw ar (k) mo wc (by omega)) ky_AL_size kv_AL_size tw_Xi_182 hM hS wc rfl rfl rfl hl.1 rfl (Nat.le_of_ble_eq_true rfl) dd_Xi_poll_9 (by decide) (by decide) (fun v M1 H locs hp hM hS => ?_)
    obtain ⟨rfl, hq⟩ := hp
    have hq := hq.symm
    subst hq
    refine W.eq (g2 := F0 m 12 ls [.int (nI k), .int (i)]) rfl ?_
    refine lv_icmp_lt (tgt := 19) hx hb dd_Xi_poll_12 (by decide) (fun h12 => ?_) (fun h12 => ?_)
    ·
      exact absurd (hm.symm.trans (xi_has_in (by omega) h1 (fun q => Int32.lt_irrefl (Int32.lt_of_lt_of_le h12 q)))) (by decide)
    ·
      refine lv_sipush (v := -1001) hx hb dd_Xi_poll_15 (by decide) ?_
      refine mr_i E hr hk hM hS (by decide) (by decide) ?_ dd_Xi_poll_18
      exact ⟨rfl, rfl⟩
theorem cc_Xi_svid_m (l : Launch) (D : va_G) (z : Nat) (M : mw_M) (x xb xi xk xe xa xw xl xr xt rn cu : Nat) (fo ck se : Int32) (ce ar k : Nat) (fk ke fn mo i s0 : Int32) (wx : M x = some (.inr (0, [.ref xb, .ref xi, .ref xk, .ref xe, .ref xa, .ref xw, .ref xl, .ref xr, .ref xt, .int (fo), .int (ck), .int (se), .ref rn, .ref cu]))) (wl : M xl = some (.inr (5, [.ref ce, .int fk, .int ke, .int fn]))) (wc : M ce = some (.inr (4, [.ref ar, .int (nI k), .int (mo)]))) (hk0 : k < 2 ^ 31) (hm : xi_has k i = false) : mw_C l yy_Xi_svid bb_Xi_svid 4 (Option.some Jvm.ClassFile.FieldType.int) 2 41 0 0 D z M [.ref x, .int (i), .int (s0)] (fun v M' => v = some (.int (-1001)) ∧ M' = M) := by
  refine mw_of (by decide) (Nat.le_of_ble_eq_true rfl) ?_
  intro p e s m below meth c ls E hr hk hnm hM hl
  have hx := E.x
  have hb := E.b
  have E : mw_E p m c bb_Xi_svid 4 s _ D z "IdentityIssuer" := E
  have hl : lv_has ls 4 [(0, .ref x), (1, .int (i)), (2, .int (s0))] := hl
  have hS : va_S (mw_A z) s.heap s.heap [] := va_S.rf
  refine lv_aload_n hx hb dd_Xi_svid_0 rfl (lv_at hl 0 rfl) ?_
  refine gf_Xi_43 E hM wx rfl dd_Xi_svid_1 ?_
  refine lv_iload_n hx hb dd_Xi_svid_4 rfl (lv_at hl 1 rfl) ?_
  refine mw_V (As := [.int (i)]) (rest := []) E (cc_Rs_hasCertificate l D z M xl ce ar k fk ke fn mo i wl wc hk0) ky_Rs_hasCertificate kv_Rs_hasCertificate tw_Xi_211 hM hS wl rfl rfl rfl hl.1 rfl (Nat.le_of_ble_eq_true rfl) dd_Xi_svid_5 (by decide) (by decide) (fun v M1 H locs hp hM hS => ?_)
  obtain ⟨rfl, hq⟩ := hp
  have hq := hq.symm
  subst hq
  refine W.eq (g2 := F0 m 8 ls [.int (zI (xi_has k i))]) rfl ?_
  refine lv_if_ne (tgt := 15) hx hb dd_Xi_svid_8 (by decide) (fun h8 => ?_) (fun h8 => ?_)
  ·
    exact absurd (zI_0.mpr hm) h8
  ·
    refine lv_sipush (v := -1001) hx hb dd_Xi_svid_11 (by decide) ?_
    refine mr_i E hr hk hM hS (by decide) (by decide) ?_ dd_Xi_svid_14
    exact ⟨rfl, rfl⟩
theorem cc_Xi_written_m (l : Launch) (D : va_G) (z : Nat) (M : mw_M) (x xb xi xk xe xa xw xl xr xt rn cu : Nat) (fo ck se : Int32) (ce ar k : Nat) (fk ke fn mo i s0 : Int32) (wx : M x = some (.inr (0, [.ref xb, .ref xi, .ref xk, .ref xe, .ref xa, .ref xw, .ref xl, .ref xr, .ref xt, .int (fo), .int (ck), .int (se), .ref rn, .ref cu]))) (wl : M xl = some (.inr (5, [.ref ce, .int fk, .int ke, .int fn]))) (wc : M ce = some (.inr (4, [.ref ar, .int (nI k), .int (mo)]))) (hk0 : k < 2 ^ 31) (hm : xi_has k i = false) : mw_C l yy_Xi_written bb_Xi_written 4 (Option.some Jvm.ClassFile.FieldType.int) 2 41 0 0 D z M [.ref x, .int (i), .int (s0)] (fun v M' => v = some (.int (-1001)) ∧ M' = M) := by
  refine mw_of (by decide) (Nat.le_of_ble_eq_true rfl) ?_
  intro p e s m below meth c ls E hr hk hnm hM hl
  have hx := E.x
  have hb := E.b
  have E : mw_E p m c bb_Xi_written 4 s _ D z "IdentityIssuer" := E
  have hl : lv_has ls 4 [(0, .ref x), (1, .int (i)), (2, .int (s0))] := hl
  have hS : va_S (mw_A z) s.heap s.heap [] := va_S.rf
  refine lv_aload_n hx hb dd_Xi_written_0 rfl (lv_at hl 0 rfl) ?_
  refine gf_Xi_43 E hM wx rfl dd_Xi_written_1 ?_
  refine lv_iload_n hx hb dd_Xi_written_4 rfl (lv_at hl 1 rfl) ?_
  refine mw_V (As := [.int (i)]) (rest := []) E (cc_Rs_hasCertificate l D z M xl ce ar k fk ke fn mo i wl wc hk0) ky_Rs_hasCertificate kv_Rs_hasCertificate tw_Xi_211 hM hS wl rfl rfl rfl hl.1 rfl (Nat.le_of_ble_eq_true rfl) dd_Xi_written_5 (by decide) (by decide) (fun v M1 H locs hp hM hS => ?_)
  obtain ⟨rfl, hq⟩ := hp
  have hq := hq.symm
  subst hq
  refine W.eq (g2 := F0 m 8 ls [.int (zI (xi_has k i))]) rfl ?_
  refine lv_if_ne (tgt := 15) hx hb dd_Xi_written_8 (by decide) (fun h8 => ?_) (fun h8 => ?_)
  ·
    exact absurd (zI_0.mpr hm) h8
  ·
    refine lv_sipush (v := -1001) hx hb dd_Xi_written_11 (by decide) ?_
    refine mr_i E hr hk hM hS (by decide) (by decide) ?_ dd_Xi_written_14
    exact ⟨rfl, rfl⟩
theorem cc_Es_drop_0 (l : Launch) (D : va_G) (z : Nat) (M : mw_M) (d el ar : Nat) (mk mo i : Int32) (wd : M d = some (.inr (3, [.ref el, .int (mk)]))) (wc : M el = some (.inr (4, [.ref ar, .int (nI 0), .int (mo)]))) : mw_C l yy_Es_drop bb_Es_drop 3 (Option.some Jvm.ClassFile.FieldType.boolean) 1 20 0 0 D z M [.ref d, .int (i)] (fun v M' => v = some (.int 0) ∧ M' = M) := by
  refine mw_of (by decide) (Nat.le_of_ble_eq_true rfl) ?_
  intro p e s m below meth c ls E hr hk hnm hM hl
  have hx := E.x
  have hb := E.b
  have E : mw_E p m c bb_Es_drop 3 s _ D z "IdentityIssuer$Entries" := E
  have hl : lv_has ls 3 [(0, .ref d), (1, .int (i))] := hl
  have hS : va_S (mw_A z) s.heap s.heap [] := va_S.rf
  refine lv_iconst (v := nI 0) hx hb dd_Es_drop_0 (by decide) ?_
  refine lv_istore_n (lv' := [(2, .int (nI 0)), (0, .ref d), (1, .int (i))]) hx hb dd_Es_drop_1 rfl hl (by decide) rfl (fun ls hl => ?_)
  refine lv_iload_n hx hb dd_Es_drop_2 rfl (lv_at hl 0 rfl) ?_
  refine lv_aload_n hx hb dd_Es_drop_3 rfl (lv_at hl 1 rfl) ?_
  refine gf_Es_12 E hM wd rfl dd_Es_drop_4 ?_
  refine mw_V (As := []) (rest := [.int (nI 0)]) E (cc_AL_size l D z (M) el ar (0) mo wc (by decide)) ky_AL_size kv_AL_size tw_Es_18 hM hS wc rfl rfl rfl hl.1 rfl (Nat.le_of_ble_eq_true rfl) dd_Es_drop_7 (by decide) (by decide) (fun v M1 H locs hp hM hS => ?_)
  obtain ⟨rfl, hq⟩ := hp
  have hq := hq.symm
  subst hq
  refine W.eq (g2 := F0 m 10 ls [.int (nI 0), .int (nI 0)]) rfl ?_
  refine lv_icmp_ge (tgt := 48) hx hb dd_Es_drop_10 (by decide) (fun h10 => ?_) (fun h10 => ?_)
  ·
    rw [nI_leI (by omega) (by omega)] at h10
    refine lv_iconst (v := nI 0) hx hb dd_Es_drop_48 (by decide) ?_
    refine mr_z E hr hk hM hS (by decide) (by decide) (rfl) ?_ dd_Es_drop_49
    exact ⟨rfl, rfl⟩
  ·
    rw [nI_leI (by omega) (by omega)] at h10
    omega
theorem cc_Xi_remove_0 (l : Launch) (D : va_G) (z : Nat) (M : mw_M) (x xb xi xk xe xa xw xl xr xt rn cu : Nat) (fo ck se : Int32) (el ar : Nat) (mk mo i : Int32) (wx : M x = some (.inr (0, [.ref xb, .ref xi, .ref xk, .ref xe, .ref xa, .ref xw, .ref xl, .ref xr, .ref xt, .int (fo), .int (ck), .int (se), .ref rn, .ref cu]))) (wd : M xe = some (.inr (3, [.ref el, .int (mk)]))) (wc : M el = some (.inr (4, [.ref ar, .int (nI 0), .int (mo)]))) : mw_C l yy_Xi_remove bb_Xi_remove 2 (Option.some Jvm.ClassFile.FieldType.boolean) 2 42 0 0 D z M [.ref x, .int (i)] (fun v M' => v = some (.int 0) ∧ M' = M) := by
  refine mw_of (by decide) (Nat.le_of_ble_eq_true rfl) ?_
  intro p e s m below meth c ls E hr hk hnm hM hl
  have hx := E.x
  have hb := E.b
  have E : mw_E p m c bb_Xi_remove 2 s _ D z "IdentityIssuer" := E
  have hl : lv_has ls 2 [(0, .ref x), (1, .int (i))] := hl
  have hS : va_S (mw_A z) s.heap s.heap [] := va_S.rf
  refine lv_aload_n hx hb dd_Xi_remove_0 rfl (lv_at hl 0 rfl) ?_
  refine gf_Xi_26 E hM wx rfl dd_Xi_remove_1 ?_
  refine lv_iload_n hx hb dd_Xi_remove_4 rfl (lv_at hl 1 rfl) ?_
  refine mw_V (As := [.int (i)]) (rest := []) E (cc_Es_drop_0 l D z M xe el ar mk mo i wd wc) ky_Es_drop kv_Es_drop tw_Xi_117 hM hS wd rfl rfl rfl hl.1 rfl (Nat.le_of_ble_eq_true rfl) dd_Xi_remove_5 (by decide) (by decide) (fun v M1 H locs hp hM hS => ?_)
  obtain ⟨rfl, hq⟩ := hp
  have hq := hq.symm
  subst hq
  refine W.eq (g2 := F0 m 8 ls [.int (0)]) rfl ?_
  refine mr_z E hr hk hM hS (by decide) (by decide) (rfl) ?_ dd_Xi_remove_8
  exact ⟨rfl, rfl⟩
theorem fo_in {i : Int32} (h1 : ¬ i < 0) (h2 : ¬ nI 4 ≤ i) : xi_has 4 i = true := xi_has_in (by decide) h1 h2
theorem cc_Xi_foreign (l : Launch) (D : va_G) (z : Nat) (M : mw_M) (x xb xi xk xe xa xw xl xr xt rn cu : Nat) (fo ck se : Int32) (i : Int32) (b0 : Bool) (wx : M x = some (.inr (0, [.ref xb, .ref xi, .ref xk, .ref xe, .ref xa, .ref xw, .ref xl, .ref xr, .ref xt, .int (fo), .int (ck), .int (se), .ref rn, .ref cu]))) : mw_C l yy_Xi_foreign bb_Xi_foreign 3 (Option.some Jvm.ClassFile.FieldType.boolean) 0 0 0 0 D z M [.ref x, .int (i), .int (zI b0)] (fun v M' => (xi_has 4 i = false ∨ (fo >>> (i &&& 31)) &&& nI 1 = zI b0 → v = some (.int 0) ∧ M' = M) ∧ (xi_has 4 i = true ∧ ¬ (fo >>> (i &&& 31)) &&& nI 1 = zI b0 → v = some (.int 1) ∧ M' x = some (.inr (0, [.ref xb, .ref xi, .ref xk, .ref xe, .ref xa, .ref xw, .ref xl, .ref xr, .ref xt, .int (fo ^^^ (nI 1 <<< (i &&& 31))), .int (ck), .int (se), .ref rn, .ref cu]))) ∧ mw_fr (fun q => q = x) M M') := by
  refine mw_of (by decide) (Nat.le_of_ble_eq_true rfl) ?_
  intro p e s m below meth c ls E hr hk hnm hM hl
  have hx := E.x
  have hb := E.b
  have E : mw_E p m c bb_Xi_foreign 3 s _ D z "IdentityIssuer" := E
  have hl : lv_has ls 3 [(0, .ref x), (1, .int (i)), (2, .int (zI b0))] := hl
  have hS : va_S (mw_A z) s.heap s.heap [] := va_S.rf
  have hF : mw_fr (fun q => q = x) M M := mw_fr.rf
  refine lv_iload_n hx hb dd_Xi_foreign_0 rfl (lv_at hl 1 rfl) ?_
  refine lv_if_lt (tgt := 29) hx hb dd_Xi_foreign_1 (by decide) (fun h1 => ?_) (fun h1 => ?_)
  ·
    refine lv_iconst (v := nI 0) hx hb dd_Xi_foreign_29 (by decide) ?_
    refine mr_z E hr hk hM hS (by decide) (by decide) (rfl) ?_ dd_Xi_foreign_30
    exact ⟨fun _ => ⟨rfl, rfl⟩, fun q => absurd (q.1.symm.trans (xi_has_neg h1)) (by decide), hF⟩
  ·
    refine lv_iload_n hx hb dd_Xi_foreign_4 rfl (lv_at hl 1 rfl) ?_
    refine lv_iconst (v := nI 4) hx hb dd_Xi_foreign_5 (by decide) ?_
    refine lv_icmp_ge (tgt := 29) hx hb dd_Xi_foreign_6 (by decide) (fun h6 => ?_) (fun h6 => ?_)
    ·
      refine lv_iconst (v := nI 0) hx hb dd_Xi_foreign_29 (by decide) ?_
      refine mr_z E hr hk hM hS (by decide) (by decide) (rfl) ?_ dd_Xi_foreign_30
      exact ⟨fun _ => ⟨rfl, rfl⟩, fun q => absurd (q.1.symm.trans (xi_has_ge (by decide) h6)) (by decide), hF⟩
    ·
      refine lv_aload_n hx hb dd_Xi_foreign_9 rfl (lv_at hl 0 rfl) ?_
      refine gf_Xi_120 E hM wx rfl dd_Xi_foreign_10 ?_
      refine lv_iload_n hx hb dd_Xi_foreign_13 rfl (lv_at hl 1 rfl) ?_
      refine lv_ishr hx hb dd_Xi_foreign_14 ?_
      refine lv_iconst (v := nI 1) hx hb dd_Xi_foreign_15 (by decide) ?_
      refine lv_iand hx hb dd_Xi_foreign_16 ?_
      refine lv_iload_n hx hb dd_Xi_foreign_17 rfl (lv_at hl 2 rfl) ?_
      refine lv_if_eq (tgt := 25) hx hb dd_Xi_foreign_18 (by decide) (fun h18 => ?_) (fun h18 => ?_)
      ·
        have hb0 : zI b0 = nI 0 := h18
        refine lv_iconst (v := nI 0) hx hb dd_Xi_foreign_25 (by decide) ?_
        refine lv_icmp_ne (tgt := 31) hx hb dd_Xi_foreign_26 (by decide) (fun h26 => ?_) (fun h26 => ?_)
        ·
          refine lv_aload_n hx hb dd_Xi_foreign_31 rfl (lv_at hl 0 rfl) ?_
          refine lv_dup hx hb dd_Xi_foreign_32 rfl ?_
          refine gf_Xi_120 E hM wx rfl dd_Xi_foreign_33 ?_
          refine lv_iconst (v := nI 1) hx hb dd_Xi_foreign_36 (by decide) ?_
          refine lv_iload_n hx hb dd_Xi_foreign_37 rfl (lv_at hl 1 rfl) ?_
          refine lv_ishl hx hb dd_Xi_foreign_38 ?_
          refine lv_ixor hx hb dd_Xi_foreign_39 ?_
          refine pf_Xi_120 E hM hS wx (Nat.le_of_ble_eq_true rfl) dd_Xi_foreign_40 (fun H locs hM hS => ?_)
          have hM : mw_at D mg_cl z (va_up M x (some (.inr (0, [.ref xb, .ref xi, .ref xk, .ref xe, .ref xa, .ref xw, .ref xl, .ref xr, .ref xt, .int (fo ^^^ ((nI 1) <<< (i &&& 31))), .int (ck), .int (se), .ref rn, .ref cu])))) H := hM
          obtain ⟨M1, hM1⟩ : ∃ M9 : mw_M, M9 = va_up M x (some (.inr (0, [.ref xb, .ref xi, .ref xk, .ref xe, .ref xa, .ref xw, .ref xl, .ref xr, .ref xt, .int (fo ^^^ ((nI 1) <<< (i &&& 31))), .int (ck), .int (se), .ref rn, .ref cu]))) := ⟨_, rfl⟩
          rw [← hM1] at hM
          have wx := mw_us hM1
          have hF := mw_fu hM1 hF (rfl)
          refine lv_iconst (v := nI 1) hx hb dd_Xi_foreign_43 (by decide) ?_
          refine mr_z E hr hk hM hS (by decide) (by decide) (rfl) ?_ dd_Xi_foreign_44
          exact ⟨fun q => q.elim (fun q => absurd (q.symm.trans (fo_in h1 h6)) (by decide)) (fun q => absurd (q.trans hb0) h26), fun _ => ⟨rfl, wx⟩, hF⟩
        ·
          refine lv_iconst (v := nI 0) hx hb dd_Xi_foreign_29 (by decide) ?_
          refine mr_z E hr hk hM hS (by decide) (by decide) (rfl) ?_ dd_Xi_foreign_30
          exact ⟨fun _ => ⟨rfl, rfl⟩, fun q => absurd (h26.trans hb0.symm) q.2, hF⟩
      ·
        have hb0 : zI b0 = nI 1 := zI_t (Bool.of_not_eq_false (fun q => h18 (zI_0.mpr q)))
        refine lv_iconst (v := nI 1) hx hb dd_Xi_foreign_21 (by decide) ?_
        refine lv_goto (tgt := 26) hx hb dd_Xi_foreign_22 (by decide) ?_
        refine lv_icmp_ne (tgt := 31) hx hb dd_Xi_foreign_26 (by decide) (fun h26 => ?_) (fun h26 => ?_)
        ·
          refine lv_aload_n hx hb dd_Xi_foreign_31 rfl (lv_at hl 0 rfl) ?_
          refine lv_dup hx hb dd_Xi_foreign_32 rfl ?_
          refine gf_Xi_120 E hM wx rfl dd_Xi_foreign_33 ?_
          refine lv_iconst (v := nI 1) hx hb dd_Xi_foreign_36 (by decide) ?_
          refine lv_iload_n hx hb dd_Xi_foreign_37 rfl (lv_at hl 1 rfl) ?_
          refine lv_ishl hx hb dd_Xi_foreign_38 ?_
          refine lv_ixor hx hb dd_Xi_foreign_39 ?_
          refine pf_Xi_120 E hM hS wx (Nat.le_of_ble_eq_true rfl) dd_Xi_foreign_40 (fun H locs hM hS => ?_)
          have hM : mw_at D mg_cl z (va_up M x (some (.inr (0, [.ref xb, .ref xi, .ref xk, .ref xe, .ref xa, .ref xw, .ref xl, .ref xr, .ref xt, .int (fo ^^^ ((nI 1) <<< (i &&& 31))), .int (ck), .int (se), .ref rn, .ref cu])))) H := hM
          obtain ⟨M1, hM1⟩ : ∃ M9 : mw_M, M9 = va_up M x (some (.inr (0, [.ref xb, .ref xi, .ref xk, .ref xe, .ref xa, .ref xw, .ref xl, .ref xr, .ref xt, .int (fo ^^^ ((nI 1) <<< (i &&& 31))), .int (ck), .int (se), .ref rn, .ref cu]))) := ⟨_, rfl⟩
          rw [← hM1] at hM
          have wx := mw_us hM1
          have hF := mw_fu hM1 hF (rfl)
          refine lv_iconst (v := nI 1) hx hb dd_Xi_foreign_43 (by decide) ?_
          refine mr_z E hr hk hM hS (by decide) (by decide) (rfl) ?_ dd_Xi_foreign_44
          exact ⟨fun q => q.elim (fun q => absurd (q.symm.trans (fo_in h1 h6)) (by decide)) (fun q => absurd (q.trans hb0) h26), fun _ => ⟨rfl, wx⟩, hF⟩
        ·
          refine lv_iconst (v := nI 0) hx hb dd_Xi_foreign_29 (by decide) ?_
          refine mr_z E hr hk hM hS (by decide) (by decide) (rfl) ?_ dd_Xi_foreign_30
          exact ⟨fun _ => ⟨rfl, rfl⟩, fun q => absurd (h26.trans hb0.symm) q.2, hF⟩
