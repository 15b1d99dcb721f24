/-! the class: fetch, watch, poll -/
theorem xi_hasN {j k : Nat} (h : j < k) (hk : k < 2 ^ 31) : xi_has k (nI j) = true := xi_has_in hk (nI_pos (by omega)) (nI_ge h hk)
theorem cc_Xi_fetch_y (l : Launch) (D : va_G) (z : Nat) (M : mw_M) (x xb xi xk xe xa xw xl xr xt rn cu : Nat) (fo ck se : Int32) (ar j y cl cr kl kr : Nat) (r_f r_e r_g : Int32) (a_i a_s a_f a_e a_g : Int32) (sel : Int32) (ags L0 ss : List Nat) (EF CF : Nat → Nat → Int32) (ent ca ce : Nat → Nat) (wx : M x = some (.inr (0, [.ref xb, .ref xi, .ref xk, .ref xe, .ref xa, .ref xw, .ref xl, .ref xr, .ref xt, .int (fo), .int (ck), .int (se), .ref rn, .ref cu]))) (hag : al_at D M xa ar ags) (hj : ags[j]? = some y) (wl : M xl = some (.inr (5, [.ref cl, .int (r_f), .int (r_e), .int (r_g)]))) (hcl : al_at D M cl cr L0) (wy : M y = some (.inr (10, [.int (a_i), .ref kl, .int (a_s), .int (a_f), .int (a_e), .int (a_g)]))) (hkl : al_at D M kl kr (ss.map ca)) (hss : ∀ n : Nat, n ∈ ss → ct_is M EF CF ent ca ce n) (hln : ss.length ≤ 12) (hne : cl ≠ kl) (hrr : kr = cr → kr = D.2 200 0) : mw_C l yy_Xi_fetch bb_Xi_fetch 3 (Option.some Jvm.ClassFile.FieldType.int) 8 183 12 180 D z M [.ref x, .int (nI j), .int (sel)] (fun v M' => v = some (.int (if (ss.filter (fl_p EF CF ce sel ck)).length = 0 then -1004 else nI (ss.filter (fl_p EF CF ce sel ck)).length)) ∧ M' xl = some (.inr (5, [.ref cl, .int (if (ss.filter (fl_p EF CF ce sel ck)).length = 0 then nI 0 else a_f), .int (if (ss.filter (fl_p EF CF ce sel ck)).length = 0 then nI 0 else a_e), .int (fr_or EF ce (ss.filter (fl_p EF CF ce sel ck)) &&& a_g)])) ∧ ∃ k1, al_at D M' cl k1 ((ss.filter (fl_p EF CF ce sel ck)).map ca) ∧ mw_fr (fun q => q = xl ∨ q = cl ∨ q = cr) M M' ∧ (k1 = cr ∨ M k1 = none)) := by
  refine mw_of (by decide) (Nat.le_of_ble_eq_true rfl) ?_
  intro p e s m below meth c ls E hr hk hnm hM hl
  have hx := E.x
  have hb := E.b
  have E : mw_E p m c bb_Xi_fetch 3 s _ D z "IdentityIssuer" := E
  have hl : lv_has ls 3 [(0, .ref x), (1, .int (nI j)), (2, .int (sel))] := hl
  have hS : va_S (mw_A z) s.heap s.heap [] := va_S.rf
  have hF : mw_fr (fun q => q = xl ∨ q = cl ∨ q = cr) M M := mw_fr.rf
  obtain ⟨moa, wa9⟩ := hag.cell
  have hjl : j < ags.length := (List.getElem?_eq_some_iff.mp hj).1
  refine lv_aload_n hx hb dd_Xi_fetch_0 rfl (lv_at hl 0 rfl) ?_
  refine lv_iload_n hx hb dd_Xi_fetch_1 rfl (lv_at hl 1 rfl) ?_
  refine mw_V (As := [.int (nI j)]) (rest := []) E (cc_Xi_isAgent l D z (M) x xb xi xk xe xa xw xl xr xt rn cu fo ck se ar ags.length moa (nI j) wx wa9 (by have := hag.le; omega)) ky_Xi_isAgent kv_Xi_isAgent tw_Xi_140 hM hS wx rfl rfl rfl hl.1 rfl (Nat.le_of_ble_eq_true rfl) dd_Xi_fetch_2 (by first | decide | exact ⟨by dsimp only; omega, by dsimp only; omega⟩) (by decide) (fun v M1 H locs hp hM hS => ?_)
  obtain ⟨rfl, hq⟩ := hp
  have hq := hq.symm
  subst hq
  refine W.eq (g2 := F0 m 5 ls [.int (zI (xi_has ags.length (nI j)))]) rfl ?_
  refine lv_if_ne (tgt := 12) hx hb dd_Xi_fetch_5 (by decide) (fun h5 => ?_) (fun h5 => ?_)
  ·
    refine lv_aload_n hx hb dd_Xi_fetch_12 rfl (lv_at hl 0 rfl) ?_
    refine gf_Xi_43 E hM wx rfl dd_Xi_fetch_13 ?_
    refine lv_aload_n hx hb dd_Xi_fetch_16 rfl (lv_at hl 0 rfl) ?_
    refine gf_Xi_33 E hM wx rfl dd_Xi_fetch_17 ?_
    refine lv_iload_n hx hb dd_Xi_fetch_20 rfl (lv_at hl 1 rfl) ?_
    refine mw_V (As := [.int (nI j)]) (rest := [.ref xl]) E (la_get (y := y) l D z (M) hag (hj)) ky_AL_get kv_AL_get tw_Xi_131 hM hS wa9 rfl rfl rfl hl.1 rfl (Nat.le_of_ble_eq_true rfl) dd_Xi_fetch_21 (by first | decide | exact ⟨by dsimp only; omega, by dsimp only; omega⟩) (by decide) (fun v M1 H locs hp hM hS => ?_)
    obtain ⟨rfl, hq⟩ := hp
    have hq := hq.symm
    subst hq
    refine W.eq (g2 := F0 m 24 ls [.ref y, .ref xl]) rfl ?_
    refine va_castY (C := "IdentityIssuer$Agent") hx hb E.o (E.t _ tw_Xi_135) (E.N.2.2.1 ("IdentityIssuer$Agent", "IdentityIssuer$Agent") (by decide)) (mw_recv E.K hM rfl wy) dd_Xi_fetch_24 ?_
    refine lv_iload_n hx hb dd_Xi_fetch_27 rfl (lv_at hl 2 rfl) ?_
    refine lv_aload_n hx hb dd_Xi_fetch_28 rfl (lv_at hl 0 rfl) ?_
    refine gf_Xi_154 E hM wx rfl dd_Xi_fetch_29 ?_
    refine mw_V (As := [.ref y, .int (sel), .int (ck)]) (rest := []) E (cc_Rs_fill l D z (M) xl cl cr y kl kr r_f r_e r_g a_i a_s a_f a_e a_g sel ck L0 ss EF CF ent ca ce wl hcl wy hkl hss hln hne hrr) ky_Rs_fill kv_Rs_fill tw_Xi_175 hM hS wl rfl rfl rfl hl.1 rfl (Nat.le_of_ble_eq_true rfl) dd_Xi_fetch_32 (by first | decide | exact ⟨by dsimp only; omega, by dsimp only; omega⟩) (by decide) (fun v M1 H locs hp hM hS => ?_)
    obtain ⟨rfl, wl2, k1, hL2, hF2, har⟩ := hp
    have wx := hF2.at wx (fun q => q.elim (mw_ne wx wl (fun q => by cases q)) (fun q => q.elim (mw_ne wx (hcl.cell).choose_spec (fun q => by cases q)) (hcl.nr wx)))
    have hF := hF.tr2 hF2 (fun q h => Or.inl h)
    have wl := wl2
    refine W.eq (g2 := F0 m 35 ls []) rfl ?_
    refine lv_aload_n hx hb dd_Xi_fetch_35 rfl (lv_at hl 0 rfl) ?_
    refine gf_Xi_43 E hM wx rfl dd_Xi_fetch_36 ?_
    refine mw_V (As := []) (rest := []) E (cc_Rs_answer l D z (M1) xl cl k1 _ _ _ ((ss.filter (fl_p EF CF ce sel ck)).map ca) wl hL2) ky_Rs_answer kv_Rs_answer tw_Xi_179 hM hS wl rfl rfl rfl hl.1 rfl (Nat.le_of_ble_eq_true rfl) dd_Xi_fetch_39 (by first | decide | exact ⟨by dsimp only; omega, by dsimp only; omega⟩) (by decide) (fun v M1 H locs hp hM hS => ?_)
    obtain ⟨rfl, hq⟩ := hp
    have hq := hq.symm
    subst hq
    refine W.eq (g2 := F0 m 42 ls [.int (if ((ss.filter (fl_p EF CF ce sel ck)).map ca).length = 0 then -1004 else nI ((ss.filter (fl_p EF CF ce sel ck)).map ca).length)]) rfl ?_
    refine mr_i E hr hk hM hS (by decide) (by decide) ?_ dd_Xi_fetch_42
    exact ⟨by rw [List.length_map], wl, k1, hL2, hF, har⟩
  ·
    exact absurd (show zI (xi_has ags.length (nI j)) = 0 from h5) (by rw [xi_hasN hjl (by have := hag.le; omega)]; decide)
theorem cc_Xi_watch_f (l : Launch) (D : va_G) (z : Nat) (M : mw_M) (x xb xi xk xe xa xw xl xr xt rn cu : Nat) (fo ck se : Int32) (ar wr j y : Nat) (sel : Int32) (ags wts : List Nat) (wx : M x = some (.inr (0, [.ref xb, .ref xi, .ref xk, .ref xe, .ref xa, .ref xw, .ref xl, .ref xr, .ref xt, .int (fo), .int (ck), .int (se), .ref rn, .ref cu]))) (hag : al_at D M xa ar ags) (hj : ags[j]? = some y) (hwt : al_at D M xw wr wts) (h4 : 4 ≤ wts.length) : mw_C l yy_Xi_watch bb_Xi_watch 3 (Option.some Jvm.ClassFile.FieldType.int) 2 41 0 0 D z M [.ref x, .int (nI j), .int (sel)] (fun v M' => v = some (.int (-1003)) ∧ M' = M) := by
  refine mw_of (by decide) (Nat.le_of_ble_eq_true rfl) ?_
  intro p e s m below meth c ls E hr hk hnm hM hl
  have hx := E.x
  have hb := E.b
  have E : mw_E p m c bb_Xi_watch 3 s _ D z "IdentityIssuer" := E
  have hl : lv_has ls 3 [(0, .ref x), (1, .int (nI j)), (2, .int (sel))] := hl
  have hS : va_S (mw_A z) s.heap s.heap [] := va_S.rf
  obtain ⟨moa, wa9⟩ := hag.cell
  have hjl : j < ags.length := (List.getElem?_eq_some_iff.mp hj).1
  obtain ⟨mow, ww9⟩ := hwt.cell
  have hwl := hwt.le
  refine lv_aload_n hx hb dd_Xi_watch_0 rfl (lv_at hl 0 rfl) ?_
  refine lv_iload_n hx hb dd_Xi_watch_1 rfl (lv_at hl 1 rfl) ?_
  refine mw_V (As := [.int (nI j)]) (rest := []) E (cc_Xi_isAgent l D z (M) x xb xi xk xe xa xw xl xr xt rn cu fo ck se ar ags.length moa (nI j) wx wa9 (by have := hag.le; omega)) ky_Xi_isAgent kv_Xi_isAgent tw_Xi_140 hM hS wx rfl rfl rfl hl.1 rfl (Nat.le_of_ble_eq_true rfl) dd_Xi_watch_2 (by first | decide | exact ⟨by dsimp only; omega, by dsimp only; omega⟩) (by decide) (fun v M1 H locs hp hM hS => ?_)
  obtain ⟨rfl, hq⟩ := hp
  have hq := hq.symm
  subst hq
  refine W.eq (g2 := F0 m 5 ls [.int (zI (xi_has ags.length (nI j)))]) rfl ?_
  refine lv_if_ne (tgt := 12) hx hb dd_Xi_watch_5 (by decide) (fun h5 => ?_) (fun h5 => ?_)
  ·
    refine lv_aload_n hx hb dd_Xi_watch_12 rfl (lv_at hl 0 rfl) ?_
    refine gf_Xi_37 E hM wx rfl dd_Xi_watch_13 ?_
    refine mw_V (As := []) (rest := []) E (la_size (k := wts.length) l D z (M) hwt (rfl)) ky_AL_size kv_AL_size tw_Xi_182 hM hS ww9 rfl rfl rfl hl.1 rfl (Nat.le_of_ble_eq_true rfl) dd_Xi_watch_16 (by first | decide | exact ⟨by dsimp only; omega, by dsimp only; omega⟩) (by decide) (fun v M1 H locs hp hM hS => ?_)
    obtain ⟨rfl, hq⟩ := hp
    have hq := hq.symm
    subst hq
    refine W.eq (g2 := F0 m 19 ls [.int (nI wts.length)]) rfl ?_
    refine lv_iconst (v := nI 4) hx hb dd_Xi_watch_19 (by decide) ?_
    refine lv_icmp_lt (tgt := 27) hx hb dd_Xi_watch_20 (by decide) (fun h20 => ?_) (fun h20 => ?_)
    ·
      rw [nI_ltI (by omega) (by omega)] at h20
      omega
    ·
      rw [nI_ltI (by omega) (by omega)] at h20
      refine lv_sipush (v := -1003) hx hb dd_Xi_watch_23 (by decide) ?_
      refine mr_i E hr hk hM hS (by decide) (by decide) ?_ dd_Xi_watch_26
      exact ⟨rfl, rfl⟩
  ·
    exact absurd (show zI (xi_has ags.length (nI j)) = 0 from h5) (by rw [xi_hasN hjl (by have := hag.le; omega)]; decide)
set_option maxHeartbeats 4000000 in
set_option maxRecDepth 100000 in
theorem cc_Xi_poll_0 (l : Launch) (D : va_G) (z : Nat) (M : mw_M) (x xb xi xk xe xa xw xl xr xt rn cu : Nat) (fo ck se : Int32) (wr j e0 w_a kl kr c2 r2 d cl cr c3 r3 : Nat) (told : Bool) (w_s u_f u_e u_g r_f r_e r_g l_f l_e l_g : Int32) (a_i a_s a_f a_e a_g : Int32) (wts L0 L3 ss ts : List Nat) (EF CF : Nat → Nat → Int32) (ent ca ce : Nat → Nat) (wx : M x = some (.inr (0, [.ref xb, .ref xi, .ref xk, .ref xe, .ref xa, .ref xw, .ref xl, .ref xr, .ref xt, .int (fo), .int (ck), .int (se), .ref rn, .ref cu]))) (hwt : al_at D M xw wr wts) (hj : wts[j]? = some e0) (w0 : M e0 = some (.inr (12, [.ref w_a, .int (w_s), .ref d, .int (zI told)]))) (wa : M w_a = some (.inr (10, [.int (a_i), .ref kl, .int (a_s), .int (a_f), .int (a_e), .int (a_g)]))) (hkl : al_at D M kl kr (ss.map ca)) (wcu : M cu = some (.inr (5, [.ref c2, .int (u_f), .int (u_e), .int (u_g)]))) (hc2 : al_at D M c2 r2 L0) (wd : M d = some (.inr (5, [.ref cl, .int (r_f), .int (r_e), .int (r_g)]))) (hcl : al_at D M cl cr (ts.map ca)) (wl : M xl = some (.inr (5, [.ref c3, .int (l_f), .int (l_e), .int (l_g)]))) (hc3 : al_at D M c3 r3 L3) (hss : ∀ n : Nat, n ∈ ss → ct_is M EF CF ent ca ce n) (hts : ∀ n : Nat, n ∈ ts → ct_is M EF CF ent ca ce n) (hln : ss.length ≤ 12) (hsn : ∀ n : Nat, n ∈ ss → n < 2 ^ 31) (htn : ∀ n : Nat, n ∈ ts → n < 2 ^ 31) (hk2 : c2 ≠ kl) (hc12 : cl ≠ c2) (hc32 : c3 ≠ c2) (hc31 : c3 ≠ cl) (hdc : d ≠ cu) (hlc : xl ≠ cu) (hld : xl ≠ d) (hr0 : kr = r2 → kr = D.2 200 0) (hr1 : cr = r2 → cr = D.2 200 0) (hr3 : r3 = r2 → r3 = D.2 200 0) (hr4 : r3 = cr → r3 = D.2 200 0) (hgot : (told && decide (ts = (ss.filter (fl_p EF CF ce w_s ck)) ∧ r_f = (if (ss.filter (fl_p EF CF ce w_s ck)).length = 0 then nI 0 else a_f) ∧ r_e = (if (ss.filter (fl_p EF CF ce w_s ck)).length = 0 then nI 0 else a_e) ∧ r_g = (fr_or EF ce (ss.filter (fl_p EF CF ce w_s ck)) &&& a_g))) = true) : mw_C l yy_Xi_poll bb_Xi_poll 3 (Option.some Jvm.ClassFile.FieldType.int) 8 183 36 540 D z M [.ref x, .int (nI j)] (fun v M' => v = some (.int (nI 0)) ∧ M' cu = some (.inr (5, [.ref c2, .int (if (ss.filter (fl_p EF CF ce w_s ck)).length = 0 then nI 0 else a_f), .int (if (ss.filter (fl_p EF CF ce w_s ck)).length = 0 then nI 0 else a_e), .int (fr_or EF ce (ss.filter (fl_p EF CF ce w_s ck)) &&& a_g)])) ∧ ∃ k1, al_at D M' c2 k1 ((ss.filter (fl_p EF CF ce w_s ck)).map ca) ∧ mw_fr (fun q => q = cu ∨ q = c2 ∨ q = r2) M M' ∧ (k1 = r2 ∨ M k1 = none)) := by
  refine mw_of (by decide) (Nat.le_of_ble_eq_true rfl) ?_
  intro p e s m below meth c ls E hr hk hnm hM hl
  have hx := E.x
  have hb := E.b
  have E : mw_E p m c bb_Xi_poll 3 s _ D z "IdentityIssuer" := E
  have hl : lv_has ls 3 [(0, .ref x), (1, .int (nI j))] := hl
  have hS : va_S (mw_A z) s.heap s.heap [] := va_S.rf
  have hF : mw_fr (fun q => q = cu ∨ q = c2 ∨ q = r2) M M := mw_fr.rf
  obtain ⟨mow, ww9⟩ := hwt.cell
  obtain ⟨mo2, wc2⟩ := hc2.cell
  obtain ⟨mo1, wc1⟩ := hcl.cell
  obtain ⟨mo3, wc3⟩ := hc3.cell
  have hwl := hwt.le
  have hjl : j < wts.length := (List.getElem?_eq_some_iff.mp hj).1
  refine lv_iload_n hx hb dd_Xi_poll_0 rfl (lv_at hl 1 rfl) ?_
  refine lv_if_lt (tgt := 15) hx hb dd_Xi_poll_1 (by decide) (fun h1 => ?_) (fun h1 => ?_)
  ·
    exact absurd h1 (nI_pos (by omega))
  ·
    refine lv_iload_n hx hb dd_Xi_poll_4 rfl (lv_at hl 1 rfl) ?_
    refine lv_aload_n hx hb dd_Xi_poll_5 rfl (lv_at hl 0 rfl) ?_
    refine gf_Xi_37 E hM wx rfl dd_Xi_poll_6 ?_
    refine mw_V (As := []) (rest := [.int (nI j)]) E (la_size (k := wts.length) l D z (M) hwt (rfl)) ky_AL_size kv_AL_size tw_Xi_182 hM hS ww9 rfl rfl rfl hl.1 rfl (Nat.le_of_ble_eq_true rfl) dd_Xi_poll_9 (by first | decide | exact ⟨by dsimp only; omega, by dsimp only; omega⟩) (by decide) (fun v M1 H locs hp hM hS => ?_)
    obtain ⟨rfl, hq⟩ := hp
    have hq := hq.symm
    subst hq
    refine W.eq (g2 := F0 m 12 ls [.int (nI wts.length), .int (nI j)]) rfl ?_
    refine lv_icmp_lt (tgt := 19) hx hb dd_Xi_poll_12 (by decide) (fun h12 => ?_) (fun h12 => ?_)
    ·
      rw [nI_ltI (by omega) (by omega)] at h12
      refine lv_aload_n hx hb dd_Xi_poll_19 rfl (lv_at hl 0 rfl) ?_
      refine gf_Xi_37 E hM wx rfl dd_Xi_poll_20 ?_
      refine lv_iload_n hx hb dd_Xi_poll_23 rfl (lv_at hl 1 rfl) ?_
      refine mw_V (As := [.int (nI j)]) (rest := []) E (la_get (y := e0) l D z (M) hwt (hj)) ky_AL_get kv_AL_get tw_Xi_131 hM hS ww9 rfl rfl rfl hl.1 rfl (Nat.le_of_ble_eq_true rfl) dd_Xi_poll_24 (by first | decide | exact ⟨by dsimp only; omega, by dsimp only; omega⟩) (by decide) (fun v M1 H locs hp hM hS => ?_)
      obtain ⟨rfl, hq⟩ := hp
      have hq := hq.symm
      subst hq
      refine W.eq (g2 := F0 m 27 ls [.ref e0]) rfl ?_
      refine va_castY (C := "IdentityIssuer$Watcher") hx hb E.o (E.t _ tw_Xi_185) (E.N.2.2.1 ("IdentityIssuer$Watcher", "IdentityIssuer$Watcher") (by decide)) (mw_recv E.K hM rfl w0) dd_Xi_poll_27 ?_
      refine lv_astore_n (lv' := [(2, .ref e0), (0, .ref x), (1, .int (nI j))]) hx hb dd_Xi_poll_30 rfl hl (by decide) rfl (fun ls hl => ?_)
      refine lv_aload_n hx hb dd_Xi_poll_31 rfl (lv_at hl 1 rfl) ?_
      refine gf_Xi_64 E hM wx rfl dd_Xi_poll_32 ?_
      refine lv_aload_n hx hb dd_Xi_poll_35 rfl (lv_at hl 0 rfl) ?_
      refine gf_Xi_193 E hM w0 rfl dd_Xi_poll_36 ?_
      refine lv_aload_n hx hb dd_Xi_poll_39 rfl (lv_at hl 0 rfl) ?_
      refine gf_Xi_197 E hM w0 rfl dd_Xi_poll_40 ?_
      refine lv_aload_n hx hb dd_Xi_poll_43 rfl (lv_at hl 1 rfl) ?_
      refine gf_Xi_154 E hM wx rfl dd_Xi_poll_44 ?_
      refine mw_V (As := [.ref w_a, .int (w_s), .int (ck)]) (rest := []) E (cc_Rs_fill l D z (M) cu c2 r2 w_a kl kr u_f u_e u_g a_i a_s a_f a_e a_g w_s ck L0 ss EF CF ent ca ce wcu hc2 wa hkl hss hln hk2 hr0) ky_Rs_fill kv_Rs_fill tw_Xi_175 hM hS wcu rfl rfl rfl hl.1 rfl (Nat.le_of_ble_eq_true rfl) dd_Xi_poll_47 (by first | decide | exact ⟨by dsimp only; omega, by dsimp only; omega⟩) (by decide) (fun v M1 H locs hp hM hS => ?_)
      obtain ⟨rfl, wcu2, k1, hL2, hF2, har⟩ := hp
      have hr5 := row_new hcl har hr1
      have hr6 := row_new hc3 har hr3
      have hcl := hcl.fr hL2.1 hF2 (fun q => q.elim (mw_ne wc1 wcu (fun q => by cases q)) (fun q => q.elim hc12 (hc2.nr wc1))) (fun y => (fun q => q.elim (hcl.nr wcu).symm (fun q => q.elim (hcl.nr wc2).symm (fun q => y (hcl.zr (hr1 q))))))
      have hc3 := hc3.fr hL2.1 hF2 (fun q => q.elim (mw_ne wc3 wcu (fun q => by cases q)) (fun q => q.elim hc32 (hc2.nr wc3))) (fun y => (fun q => q.elim (hc3.nr wcu).symm (fun q => q.elim (hc3.nr wc2).symm (fun q => y (hc3.zr (hr3 q))))))
      have hss := fun n hn => (hss n hn).fr hF2 (fun q9 ci vs wz9 hc => (fun q => q.elim (mw_ne wz9 wcu (fun e9 => by cases e9; exact absurd hc (by decide))) (fun q => q.elim (mw_ne wz9 wc2 (fun e9 => by cases e9; exact absurd hc (by decide))) (hc2.nr wz9))))
      have hts := fun n hn => (hts n hn).fr hF2 (fun q9 ci vs wz9 hc => (fun q => q.elim (mw_ne wz9 wcu (fun e9 => by cases e9; exact absurd hc (by decide))) (fun q => q.elim (mw_ne wz9 wc2 (fun e9 => by cases e9; exact absurd hc (by decide))) (hc2.nr wz9))))
      have wx := hF2.at wx (fun q => q.elim (mw_ne wx wcu (fun q => by cases q)) (fun q => q.elim (mw_ne wx wc2 (fun q => by cases q)) (hc2.nr wx)))
      have w0 := hF2.at w0 (fun q => q.elim (mw_ne w0 wcu (fun q => by cases q)) (fun q => q.elim (mw_ne w0 wc2 (fun q => by cases q)) (hc2.nr w0)))
      have wd := hF2.at wd (fun q => q.elim hdc (fun q => q.elim (mw_ne wd wc2 (fun q => by cases q)) (hc2.nr wd)))
      have wc1 := hF2.at wc1 (fun q => q.elim (mw_ne wc1 wcu (fun q => by cases q)) (fun q => q.elim hc12 (hc2.nr wc1)))
      have wl := hF2.at wl (fun q => q.elim hlc (fun q => q.elim (mw_ne wl wc2 (fun q => by cases q)) (hc2.nr wl)))
      have wc3 := hF2.at wc3 (fun q => q.elim (mw_ne wc3 wcu (fun q => by cases q)) (fun q => q.elim hc32 (hc2.nr wc3)))
      have wcu := wcu2
      have hc2 := hL2
      obtain ⟨mo9, wc2⟩ := hc2.cell
      have hr1 := hr5
      have hr3 := hr6
      have hr5 : k1 = cr → k1 = D.2 200 0 := fun q => q.trans (hr1 q.symm)
      have hr6 : k1 = r3 → k1 = D.2 200 0 := fun q => q.trans (hr3 q.symm)
      have hF := hF.tr2 hF2 (fun q h => Or.inl (h))
      refine W.eq (g2 := F0 m 50 ls []) rfl ?_
      refine lv_aload_n hx hb dd_Xi_poll_50 rfl (lv_at hl 0 rfl) ?_
      refine lv_aload_n hx hb dd_Xi_poll_51 rfl (lv_at hl 1 rfl) ?_
      refine gf_Xi_64 E hM wx rfl dd_Xi_poll_52 ?_
      refine mw_V (As := [.ref cu]) (rest := []) E (cc_Wa_hasGot l D z (M1) e0 w_a d cl cr cu c2 k1 told w_s r_f r_e r_g _ _ _ ts (ss.filter (fl_p EF CF ce w_s ck)) EF CF ent ca ce w0 wd hcl wcu hc2 hts (fun n hn => hss n ((List.mem_filter.mp hn).1)) htn (fun n hn => hsn n ((List.mem_filter.mp hn).1))) ky_Wa_hasGot kv_Wa_hasGot tw_Xi_200 hM hS w0 rfl rfl rfl hl.1 rfl (Nat.le_of_ble_eq_true rfl) dd_Xi_poll_55 (by first | decide | exact ⟨by dsimp only; omega, by dsimp only; omega⟩) (by decide) (fun v M1 H locs hp hM hS => ?_)
      obtain ⟨rfl, hq⟩ := hp
      have hq := hq.symm
      subst hq
      refine W.eq (g2 := F0 m 58 ls [.int (zI (told && decide (ts = (ss.filter (fl_p EF CF ce w_s ck)) ∧ r_f = (if (ss.filter (fl_p EF CF ce w_s ck)).length = 0 then nI 0 else a_f) ∧ r_e = (if (ss.filter (fl_p EF CF ce w_s ck)).length = 0 then nI 0 else a_e) ∧ r_g = (fr_or EF ce (ss.filter (fl_p EF CF ce w_s ck)) &&& a_g))))]) rfl ?_
      refine lv_if_eq (tgt := 63) hx hb dd_Xi_poll_58 (by decide) (fun h58 => ?_) (fun h58 => ?_)
      ·
        exact absurd (zI_0.mp h58) (by rw [hgot]; decide)
      ·
        refine lv_iconst (v := nI 0) hx hb dd_Xi_poll_61 (by decide) ?_
        refine mr_i E hr hk hM hS (by decide) (by decide) ?_ dd_Xi_poll_62
        exact ⟨rfl, wcu, k1, hc2, hF, har⟩
    ·
      rw [nI_ltI (by omega) (by omega)] at h12
      omega
set_option maxHeartbeats 4000000 in
set_option maxRecDepth 100000 in
theorem cc_Xi_poll_1 (l : Launch) (D : va_G) (z : Nat) (M : mw_M) (x xb xi xk xe xa xw xl xr xt rn cu : Nat) (fo ck se : Int32) (wr j e0 w_a kl kr c2 r2 d cl cr c3 r3 : Nat) (told : Bool) (w_s u_f u_e u_g r_f r_e r_g l_f l_e l_g : Int32) (a_i a_s a_f a_e a_g : Int32) (wts L0 L3 ss ts : List Nat) (EF CF : Nat → Nat → Int32) (ent ca ce : Nat → Nat) (wx : M x = some (.inr (0, [.ref xb, .ref xi, .ref xk, .ref xe, .ref xa, .ref xw, .ref xl, .ref xr, .ref xt, .int (fo), .int (ck), .int (se), .ref rn, .ref cu]))) (hwt : al_at D M xw wr wts) (hj : wts[j]? = some e0) (w0 : M e0 = some (.inr (12, [.ref w_a, .int (w_s), .ref d, .int (zI told)]))) (wa : M w_a = some (.inr (10, [.int (a_i), .ref kl, .int (a_s), .int (a_f), .int (a_e), .int (a_g)]))) (hkl : al_at D M kl kr (ss.map ca)) (wcu : M cu = some (.inr (5, [.ref c2, .int (u_f), .int (u_e), .int (u_g)]))) (hc2 : al_at D M c2 r2 L0) (wd : M d = some (.inr (5, [.ref cl, .int (r_f), .int (r_e), .int (r_g)]))) (hcl : al_at D M cl cr (ts.map ca)) (wl : M xl = some (.inr (5, [.ref c3, .int (l_f), .int (l_e), .int (l_g)]))) (hc3 : al_at D M c3 r3 L3) (hss : ∀ n : Nat, n ∈ ss → ct_is M EF CF ent ca ce n) (hts : ∀ n : Nat, n ∈ ts → ct_is M EF CF ent ca ce n) (hln : ss.length ≤ 12) (hsn : ∀ n : Nat, n ∈ ss → n < 2 ^ 31) (htn : ∀ n : Nat, n ∈ ts → n < 2 ^ 31) (hk2 : c2 ≠ kl) (hc12 : cl ≠ c2) (hc32 : c3 ≠ c2) (hc31 : c3 ≠ cl) (hdc : d ≠ cu) (hlc : xl ≠ cu) (hld : xl ≠ d) (hr0 : kr = r2 → kr = D.2 200 0) (hr1 : cr = r2 → cr = D.2 200 0) (hr3 : r3 = r2 → r3 = D.2 200 0) (hr4 : r3 = cr → r3 = D.2 200 0) (hgot : (told && decide (ts = (ss.filter (fl_p EF CF ce w_s ck)) ∧ r_f = (if (ss.filter (fl_p EF CF ce w_s ck)).length = 0 then nI 0 else a_f) ∧ r_e = (if (ss.filter (fl_p EF CF ce w_s ck)).length = 0 then nI 0 else a_e) ∧ r_g = (fr_or EF ce (ss.filter (fl_p EF CF ce w_s ck)) &&& a_g))) = false) : mw_C l yy_Xi_poll bb_Xi_poll 3 (Option.some Jvm.ClassFile.FieldType.int) 9 200 36 540 D z M [.ref x, .int (nI j)] (fun v M' => v = some (.int (if (ss.filter (fl_p EF CF ce w_s ck)).length = 0 then -1004 else nI (ss.filter (fl_p EF CF ce w_s ck)).length)) ∧ M' cu = some (.inr (5, [.ref c2, .int (if (ss.filter (fl_p EF CF ce w_s ck)).length = 0 then nI 0 else a_f), .int (if (ss.filter (fl_p EF CF ce w_s ck)).length = 0 then nI 0 else a_e), .int (fr_or EF ce (ss.filter (fl_p EF CF ce w_s ck)) &&& a_g)])) ∧ M' e0 = some (.inr (12, [.ref w_a, .int (w_s), .ref d, .int (nI 1)])) ∧ M' d = some (.inr (5, [.ref cl, .int (if (ss.filter (fl_p EF CF ce w_s ck)).length = 0 then nI 0 else a_f), .int (if (ss.filter (fl_p EF CF ce w_s ck)).length = 0 then nI 0 else a_e), .int (fr_or EF ce (ss.filter (fl_p EF CF ce w_s ck)) &&& a_g)])) ∧ M' xl = some (.inr (5, [.ref c3, .int (if (ss.filter (fl_p EF CF ce w_s ck)).length = 0 then nI 0 else a_f), .int (if (ss.filter (fl_p EF CF ce w_s ck)).length = 0 then nI 0 else a_e), .int (fr_or EF ce (ss.filter (fl_p EF CF ce w_s ck)) &&& a_g)])) ∧ ∃ k1 k2 k3, al_at D M' c2 k1 ((ss.filter (fl_p EF CF ce w_s ck)).map ca) ∧ al_at D M' cl k2 ((ss.filter (fl_p EF CF ce w_s ck)).map ca) ∧ al_at D M' c3 k3 ((ss.filter (fl_p EF CF ce w_s ck)).map ca) ∧ mw_fr (fun q => q = e0 ∨ q = d ∨ q = cl ∨ q = cr ∨ q = cu ∨ q = c2 ∨ q = r2 ∨ q = xl ∨ q = c3 ∨ q = r3) M M' ∧ (k1 = r2 ∨ M k1 = none) ∧ (k2 = cr ∨ M k2 = none) ∧ (k3 = r3 ∨ M k3 = none) ∧ (k1 = k2 → k1 = D.2 200 0) ∧ (k1 = k3 → k1 = D.2 200 0) ∧ (k2 = k3 → k2 = D.2 200 0)) := by
  refine mw_of (by decide) (Nat.le_of_ble_eq_true rfl) ?_
  intro p e s m below meth c ls E hr hk hnm hM hl
  have hx := E.x
  have hb := E.b
  have E : mw_E p m c bb_Xi_poll 3 s _ D z "IdentityIssuer" := E
  have hl : lv_has ls 3 [(0, .ref x), (1, .int (nI j))] := hl
  have hS : va_S (mw_A z) s.heap s.heap [] := va_S.rf
  have hF : mw_fr (fun q => q = e0 ∨ q = d ∨ q = cl ∨ q = cr ∨ q = cu ∨ q = c2 ∨ q = r2 ∨ q = xl ∨ q = c3 ∨ q = r3) M M := mw_fr.rf
  obtain ⟨mow, ww9⟩ := hwt.cell
  obtain ⟨mo2, wc2⟩ := hc2.cell
  obtain ⟨mo1, wc1⟩ := hcl.cell
  obtain ⟨mo3, wc3⟩ := hc3.cell
  have hwl := hwt.le
  have hjl : j < wts.length := (List.getElem?_eq_some_iff.mp hj).1
  refine lv_iload_n hx hb dd_Xi_poll_0 rfl (lv_at hl 1 rfl) ?_
  refine lv_if_lt (tgt := 15) hx hb dd_Xi_poll_1 (by decide) (fun h1 => ?_) (fun h1 => ?_)
  ·
    exact absurd h1 (nI_pos (by omega))
  ·
    refine lv_iload_n hx hb dd_Xi_poll_4 rfl (lv_at hl 1 rfl) ?_
    refine lv_aload_n hx hb dd_Xi_poll_5 rfl (lv_at hl 0 rfl) ?_
    refine gf_Xi_37 E hM wx rfl dd_Xi_poll_6 ?_
    refine mw_V (As := []) (rest := [.int (nI j)]) E (la_size (k := wts.length) l D z (M) hwt (rfl)) ky_AL_size kv_AL_size tw_Xi_182 hM hS ww9 rfl rfl rfl hl.1 rfl (Nat.le_of_ble_eq_true rfl) dd_Xi_poll_9 (by first | decide | exact ⟨by dsimp only; omega, by dsimp only; omega⟩) (by decide) (fun v M1 H locs hp hM hS => ?_)
    obtain ⟨rfl, hq⟩ := hp
    have hq := hq.symm
    subst hq
    refine W.eq (g2 := F0 m 12 ls [.int (nI wts.length), .int (nI j)]) rfl ?_
    refine lv_icmp_lt (tgt := 19) hx hb dd_Xi_poll_12 (by decide) (fun h12 => ?_) (fun h12 => ?_)
    ·
      rw [nI_ltI (by omega) (by omega)] at h12
      refine lv_aload_n hx hb dd_Xi_poll_19 rfl (lv_at hl 0 rfl) ?_
      refine gf_Xi_37 E hM wx rfl dd_Xi_poll_20 ?_
      refine lv_iload_n hx hb dd_Xi_poll_23 rfl (lv_at hl 1 rfl) ?_
      refine mw_V (As := [.int (nI j)]) (rest := []) E (la_get (y := e0) l D z (M) hwt (hj)) ky_AL_get kv_AL_get tw_Xi_131 hM hS ww9 rfl rfl rfl hl.1 rfl (Nat.le_of_ble_eq_true rfl) dd_Xi_poll_24 (by first | decide | exact ⟨by dsimp only; omega, by dsimp only; omega⟩) (by decide) (fun v M1 H locs hp hM hS => ?_)
      obtain ⟨rfl, hq⟩ := hp
      have hq := hq.symm
      subst hq
      refine W.eq (g2 := F0 m 27 ls [.ref e0]) rfl ?_
      refine va_castY (C := "IdentityIssuer$Watcher") hx hb E.o (E.t _ tw_Xi_185) (E.N.2.2.1 ("IdentityIssuer$Watcher", "IdentityIssuer$Watcher") (by decide)) (mw_recv E.K hM rfl w0) dd_Xi_poll_27 ?_
      refine lv_astore_n (lv' := [(2, .ref e0), (0, .ref x), (1, .int (nI j))]) hx hb dd_Xi_poll_30 rfl hl (by decide) rfl (fun ls hl => ?_)
      refine lv_aload_n hx hb dd_Xi_poll_31 rfl (lv_at hl 1 rfl) ?_
      refine gf_Xi_64 E hM wx rfl dd_Xi_poll_32 ?_
      refine lv_aload_n hx hb dd_Xi_poll_35 rfl (lv_at hl 0 rfl) ?_
      refine gf_Xi_193 E hM w0 rfl dd_Xi_poll_36 ?_
      refine lv_aload_n hx hb dd_Xi_poll_39 rfl (lv_at hl 0 rfl) ?_
      refine gf_Xi_197 E hM w0 rfl dd_Xi_poll_40 ?_
      refine lv_aload_n hx hb dd_Xi_poll_43 rfl (lv_at hl 1 rfl) ?_
      refine gf_Xi_154 E hM wx rfl dd_Xi_poll_44 ?_
      refine mw_V (As := [.ref w_a, .int (w_s), .int (ck)]) (rest := []) E (cc_Rs_fill l D z (M) cu c2 r2 w_a kl kr u_f u_e u_g a_i a_s a_f a_e a_g w_s ck L0 ss EF CF ent ca ce wcu hc2 wa hkl hss hln hk2 hr0) ky_Rs_fill kv_Rs_fill tw_Xi_175 hM hS wcu rfl rfl rfl hl.1 rfl (Nat.le_of_ble_eq_true rfl) dd_Xi_poll_47 (by first | decide | exact ⟨by dsimp only; omega, by dsimp only; omega⟩) (by decide) (fun v M1 H locs hp hM hS => ?_)
      obtain ⟨rfl, wcu2, k1, hL2, hF2, har⟩ := hp
      have hr5 := row_new hcl har hr1
      have hr6 := row_new hc3 har hr3
      have hcl := hcl.fr hL2.1 hF2 (fun q => q.elim (mw_ne wc1 wcu (fun q => by cases q)) (fun q => q.elim hc12 (hc2.nr wc1))) (fun y => (fun q => q.elim (hcl.nr wcu).symm (fun q => q.elim (hcl.nr wc2).symm (fun q => y (hcl.zr (hr1 q))))))
      have hc3 := hc3.fr hL2.1 hF2 (fun q => q.elim (mw_ne wc3 wcu (fun q => by cases q)) (fun q => q.elim hc32 (hc2.nr wc3))) (fun y => (fun q => q.elim (hc3.nr wcu).symm (fun q => q.elim (hc3.nr wc2).symm (fun q => y (hc3.zr (hr3 q))))))
      have hss := fun n hn => (hss n hn).fr hF2 (fun q9 ci vs wz9 hc => (fun q => q.elim (mw_ne wz9 wcu (fun e9 => by cases e9; exact absurd hc (by decide))) (fun q => q.elim (mw_ne wz9 wc2 (fun e9 => by cases e9; exact absurd hc (by decide))) (hc2.nr wz9))))
      have hts := fun n hn => (hts n hn).fr hF2 (fun q9 ci vs wz9 hc => (fun q => q.elim (mw_ne wz9 wcu (fun e9 => by cases e9; exact absurd hc (by decide))) (fun q => q.elim (mw_ne wz9 wc2 (fun e9 => by cases e9; exact absurd hc (by decide))) (hc2.nr wz9))))
      have wx := hF2.at wx (fun q => q.elim (mw_ne wx wcu (fun q => by cases q)) (fun q => q.elim (mw_ne wx wc2 (fun q => by cases q)) (hc2.nr wx)))
      have w0 := hF2.at w0 (fun q => q.elim (mw_ne w0 wcu (fun q => by cases q)) (fun q => q.elim (mw_ne w0 wc2 (fun q => by cases q)) (hc2.nr w0)))
      have wd := hF2.at wd (fun q => q.elim hdc (fun q => q.elim (mw_ne wd wc2 (fun q => by cases q)) (hc2.nr wd)))
      have wc1 := hF2.at wc1 (fun q => q.elim (mw_ne wc1 wcu (fun q => by cases q)) (fun q => q.elim hc12 (hc2.nr wc1)))
      have wl := hF2.at wl (fun q => q.elim hlc (fun q => q.elim (mw_ne wl wc2 (fun q => by cases q)) (hc2.nr wl)))
      have wc3 := hF2.at wc3 (fun q => q.elim (mw_ne wc3 wcu (fun q => by cases q)) (fun q => q.elim hc32 (hc2.nr wc3)))
      have wcu := wcu2
      have hc2 := hL2
      obtain ⟨mo9, wc2⟩ := hc2.cell
      have hr1 := hr5
      have hr3 := hr6
      have hr5 : k1 = cr → k1 = D.2 200 0 := fun q => q.trans (hr1 q.symm)
      have hr6 : k1 = r3 → k1 = D.2 200 0 := fun q => q.trans (hr3 q.symm)
      have hF := hF.tr2 hF2 (fun q h => Or.inl (h.elim (fun h => Or.inr (Or.inr (Or.inr (Or.inr (Or.inl h))))) (fun h => h.elim (fun h => Or.inr (Or.inr (Or.inr (Or.inr (Or.inr (Or.inl h)))))) (fun h => Or.inr (Or.inr (Or.inr (Or.inr (Or.inr (Or.inr (Or.inl h))))))))))
      refine W.eq (g2 := F0 m 50 ls []) rfl ?_
      refine lv_aload_n hx hb dd_Xi_poll_50 rfl (lv_at hl 0 rfl) ?_
      refine lv_aload_n hx hb dd_Xi_poll_51 rfl (lv_at hl 1 rfl) ?_
      refine gf_Xi_64 E hM wx rfl dd_Xi_poll_52 ?_
      refine mw_V (As := [.ref cu]) (rest := []) E (cc_Wa_hasGot l D z (M1) e0 w_a d cl cr cu c2 k1 told w_s r_f r_e r_g _ _ _ ts (ss.filter (fl_p EF CF ce w_s ck)) EF CF ent ca ce w0 wd hcl wcu hc2 hts (fun n hn => hss n ((List.mem_filter.mp hn).1)) htn (fun n hn => hsn n ((List.mem_filter.mp hn).1))) ky_Wa_hasGot kv_Wa_hasGot tw_Xi_200 hM hS w0 rfl rfl rfl hl.1 rfl (Nat.le_of_ble_eq_true rfl) dd_Xi_poll_55 (by first | decide | exact ⟨by dsimp only; omega, by dsimp only; omega⟩) (by decide) (fun v M1 H locs hp hM hS => ?_)
      obtain ⟨rfl, hq⟩ := hp
      have hq := hq.symm
      subst hq
      refine W.eq (g2 := F0 m 58 ls [.int (zI (told && decide (ts = (ss.filter (fl_p EF CF ce w_s ck)) ∧ r_f = (if (ss.filter (fl_p EF CF ce w_s ck)).length = 0 then nI 0 else a_f) ∧ r_e = (if (ss.filter (fl_p EF CF ce w_s ck)).length = 0 then nI 0 else a_e) ∧ r_g = (fr_or EF ce (ss.filter (fl_p EF CF ce w_s ck)) &&& a_g))))]) rfl ?_
      refine lv_if_eq (tgt := 63) hx hb dd_Xi_poll_58 (by decide) (fun h58 => ?_) (fun h58 => ?_)
      ·
        refine lv_aload_n hx hb dd_Xi_poll_63 rfl (lv_at hl 0 rfl) ?_
        refine lv_aload_n hx hb dd_Xi_poll_64 rfl (lv_at hl 1 rfl) ?_
        refine gf_Xi_64 E hM wx rfl dd_Xi_poll_65 ?_
        refine mw_V (As := [.ref cu]) (rest := []) E (cc_Wa_take l D z (M1) e0 w_a d cl cr cu c2 k1 (zI told) w_s r_f r_e r_g _ _ _ (ts.map ca) (ss.filter (fl_p EF CF ce w_s ck)) EF CF ent ca ce w0 wd hcl wcu hc2 (fun n hn => hss n ((List.mem_filter.mp hn).1)) (Nat.le_trans (List.length_filter_le _ _) hln) hdc hc12 hr5) ky_Wa_take kv_Wa_take tw_Xi_204 hM hS w0 rfl rfl rfl hl.1 rfl (Nat.le_of_ble_eq_true rfl) dd_Xi_poll_68 (by first | decide | exact ⟨by dsimp only; omega, by dsimp only; omega⟩) (by decide) (fun v M1 H locs hp hM hS => ?_)
        obtain ⟨rfl, w02, wd2, k2, hL4, hF4, har4⟩ := hp
        have hr8 := row_new hc2 har4 hr5
        have hr9 := row_new hc3 har4 hr4
        have hc2 := hc2.fr hL4.1 hF4 (fun q => q.elim (mw_ne wc2 w0 (fun q => by cases q)) (fun q => q.elim (mw_ne wc2 wd (fun q => by cases q)) (fun q => q.elim (Ne.symm hc12) (hcl.nr wc2)))) (fun y => (fun q => q.elim (hc2.nr w0).symm (fun q => q.elim (hc2.nr wd).symm (fun q => q.elim (hc2.nr wc1).symm (fun q => y (hc2.zr (hr5 q)))))))
        have hc3 := hc3.fr hL4.1 hF4 (fun q => q.elim (mw_ne wc3 w0 (fun q => by cases q)) (fun q => q.elim (mw_ne wc3 wd (fun q => by cases q)) (fun q => q.elim hc31 (hcl.nr wc3)))) (fun y => (fun q => q.elim (hc3.nr w0).symm (fun q => q.elim (hc3.nr wd).symm (fun q => q.elim (hc3.nr wc1).symm (fun q => y (hc3.zr (hr4 q)))))))
        have hss := fun n hn => (hss n hn).fr hF4 (fun q9 ci vs wz9 hc => (fun q => q.elim (mw_ne wz9 w0 (fun e9 => by cases e9; exact absurd hc (by decide))) (fun q => q.elim (mw_ne wz9 wd (fun e9 => by cases e9; exact absurd hc (by decide))) (fun q => q.elim (mw_ne wz9 wc1 (fun e9 => by cases e9; exact absurd hc (by decide))) (hcl.nr wz9)))))
        have hts := fun n hn => (hts n hn).fr hF4 (fun q9 ci vs wz9 hc => (fun q => q.elim (mw_ne wz9 w0 (fun e9 => by cases e9; exact absurd hc (by decide))) (fun q => q.elim (mw_ne wz9 wd (fun e9 => by cases e9; exact absurd hc (by decide))) (fun q => q.elim (mw_ne wz9 wc1 (fun e9 => by cases e9; exact absurd hc (by decide))) (hcl.nr wz9)))))
        have wx := hF4.at wx (fun q => q.elim (mw_ne wx w0 (fun q => by cases q)) (fun q => q.elim (mw_ne wx wd (fun q => by cases q)) (fun q => q.elim (mw_ne wx wc1 (fun q => by cases q)) (hcl.nr wx))))
        have wcu := hF4.at wcu (fun q => q.elim (mw_ne wcu w0 (fun q => by cases q)) (fun q => q.elim (Ne.symm hdc) (fun q => q.elim (mw_ne wcu wc1 (fun q => by cases q)) (hcl.nr wcu))))
        have wc2 := hF4.at wc2 (fun q => q.elim (mw_ne wc2 w0 (fun q => by cases q)) (fun q => q.elim (mw_ne wc2 wd (fun q => by cases q)) (fun q => q.elim (Ne.symm hc12) (hcl.nr wc2))))
        have wl := hF4.at wl (fun q => q.elim (mw_ne wl w0 (fun q => by cases q)) (fun q => q.elim hld (fun q => q.elim (mw_ne wl wc1 (fun q => by cases q)) (hcl.nr wl))))
        have wc3 := hF4.at wc3 (fun q => q.elim (mw_ne wc3 w0 (fun q => by cases q)) (fun q => q.elim (mw_ne wc3 wd (fun q => by cases q)) (fun q => q.elim hc31 (hcl.nr wc3))))
        have w0 := w02
        have wd := wd2
        have hcl := hL4
        obtain ⟨mo8, wc1⟩ := hcl.cell
        have hr5 := hr8
        have hr4 := hr9
        have hr7 : k2 = r3 → k2 = D.2 200 0 := fun q => q.trans (hr4 q.symm)
        have har2 := row_tr hF (Or.inl rfl) har4
        have hF := hF.tr2 hF4 (fun q h => Or.inl (h.elim Or.inl (fun h => h.elim (fun h => Or.inr (Or.inl h)) (fun h => h.elim (fun h => Or.inr (Or.inr (Or.inl h))) (fun h => Or.inr (Or.inr (Or.inr (Or.inl h))))))))
        refine W.eq (g2 := F0 m 71 ls []) rfl ?_
        refine lv_aload_n hx hb dd_Xi_poll_71 rfl (lv_at hl 1 rfl) ?_
        refine gf_Xi_43 E hM wx rfl dd_Xi_poll_72 ?_
        refine lv_aload_n hx hb dd_Xi_poll_75 rfl (lv_at hl 1 rfl) ?_
        refine gf_Xi_64 E hM wx rfl dd_Xi_poll_76 ?_
        refine mw_V (As := [.ref cu]) (rest := []) E (cc_Rs_copy l D z (M1) xl c3 r3 cu c2 k1 l_f l_e l_g _ _ _ L3 (ss.filter (fl_p EF CF ce w_s ck)) EF CF ent ca ce wl hc3 wcu hc2 (fun n hn => hss n ((List.mem_filter.mp hn).1)) (Nat.le_trans (List.length_filter_le _ _) hln) hlc hc32 hr6) ky_Rs_copy kv_Rs_copy tw_Xi_208 hM hS wl rfl rfl rfl hl.1 rfl (Nat.le_of_ble_eq_true rfl) dd_Xi_poll_79 (by first | decide | exact ⟨by dsimp only; omega, by dsimp only; omega⟩) (by decide) (fun v M1 H locs hp hM hS => ?_)
        obtain ⟨rfl, wl2, k3, hL5, hF5, har5⟩ := hp
        have hr8 := row_new hc2 har5 hr6
        have hr9 := row_new hcl har5 hr7
        have hc2 := hc2.fr hL5.1 hF5 (fun q => q.elim (mw_ne wc2 wl (fun q => by cases q)) (fun q => q.elim (Ne.symm hc32) (hc3.nr wc2))) (fun y => (fun q => q.elim (hc2.nr wl).symm (fun q => q.elim (hc2.nr wc3).symm (fun q => y (hc2.zr (hr6 q))))))
        have hcl := hcl.fr hL5.1 hF5 (fun q => q.elim (mw_ne wc1 wl (fun q => by cases q)) (fun q => q.elim (Ne.symm hc31) (hc3.nr wc1))) (fun y => (fun q => q.elim (hcl.nr wl).symm (fun q => q.elim (hcl.nr wc3).symm (fun q => y (hcl.zr (hr7 q))))))
        have hss := fun n hn => (hss n hn).fr hF5 (fun q9 ci vs wz9 hc => (fun q => q.elim (mw_ne wz9 wl (fun e9 => by cases e9; exact absurd hc (by decide))) (fun q => q.elim (mw_ne wz9 wc3 (fun e9 => by cases e9; exact absurd hc (by decide))) (hc3.nr wz9))))
        have hts := fun n hn => (hts n hn).fr hF5 (fun q9 ci vs wz9 hc => (fun q => q.elim (mw_ne wz9 wl (fun e9 => by cases e9; exact absurd hc (by decide))) (fun q => q.elim (mw_ne wz9 wc3 (fun e9 => by cases e9; exact absurd hc (by decide))) (hc3.nr wz9))))
        have wx := hF5.at wx (fun q => q.elim (mw_ne wx wl (fun q => by cases q)) (fun q => q.elim (mw_ne wx wc3 (fun q => by cases q)) (hc3.nr wx)))
        have w0 := hF5.at w0 (fun q => q.elim (mw_ne w0 wl (fun q => by cases q)) (fun q => q.elim (mw_ne w0 wc3 (fun q => by cases q)) (hc3.nr w0)))
        have wcu := hF5.at wcu (fun q => q.elim (Ne.symm hlc) (fun q => q.elim (mw_ne wcu wc3 (fun q => by cases q)) (hc3.nr wcu)))
        have wc2 := hF5.at wc2 (fun q => q.elim (mw_ne wc2 wl (fun q => by cases q)) (fun q => q.elim (Ne.symm hc32) (hc3.nr wc2)))
        have wd := hF5.at wd (fun q => q.elim (Ne.symm hld) (fun q => q.elim (mw_ne wd wc3 (fun q => by cases q)) (hc3.nr wd)))
        have wc1 := hF5.at wc1 (fun q => q.elim (mw_ne wc1 wl (fun q => by cases q)) (fun q => q.elim (Ne.symm hc31) (hc3.nr wc1)))
        have wl := wl2
        have har3 := row_tr hF (Or.inl rfl) har5
        have hF := hF.tr2 hF5 (fun q h => Or.inl (h.elim (fun h => Or.inr (Or.inr (Or.inr (Or.inr (Or.inr (Or.inr (Or.inr (Or.inl h)))))))) (fun h => h.elim (fun h => Or.inr (Or.inr (Or.inr (Or.inr (Or.inr (Or.inr (Or.inr (Or.inr (Or.inl h))))))))) (fun h => Or.inr (Or.inr (Or.inr (Or.inr (Or.inr (Or.inr (Or.inr (Or.inr (Or.inr h))))))))))))
        refine W.eq (g2 := F0 m 82 ls []) rfl ?_
        refine lv_aload_n hx hb dd_Xi_poll_82 rfl (lv_at hl 1 rfl) ?_
        refine gf_Xi_64 E hM wx rfl dd_Xi_poll_83 ?_
        refine mw_V (As := []) (rest := []) E (cc_Rs_answer l D z (M1) cu c2 k1 _ _ _ ((ss.filter (fl_p EF CF ce w_s ck)).map ca) wcu hc2) ky_Rs_answer kv_Rs_answer tw_Xi_179 hM hS wcu rfl rfl rfl hl.1 rfl (Nat.le_of_ble_eq_true rfl) dd_Xi_poll_86 (by first | decide | exact ⟨by dsimp only; omega, by dsimp only; omega⟩) (by decide) (fun v M1 H locs hp hM hS => ?_)
        obtain ⟨rfl, hq⟩ := hp
        have hq := hq.symm
        subst hq
        refine W.eq (g2 := F0 m 89 ls [.int (if ((ss.filter (fl_p EF CF ce w_s ck)).map ca).length = 0 then -1004 else nI ((ss.filter (fl_p EF CF ce w_s ck)).map ca).length)]) rfl ?_
        refine mr_i E hr hk hM hS (by decide) (by decide) ?_ dd_Xi_poll_89
        exact ⟨by rw [List.length_map], wcu, w0, wd, wl, k1, k2, k3, hc2, hcl, hL5, hF, har, har2, har3, hr5, hr8, hr9⟩
      ·
        exact absurd (show zI (told && decide (ts = (ss.filter (fl_p EF CF ce w_s ck)) ∧ r_f = (if (ss.filter (fl_p EF CF ce w_s ck)).length = 0 then nI 0 else a_f) ∧ r_e = (if (ss.filter (fl_p EF CF ce w_s ck)).length = 0 then nI 0 else a_e) ∧ r_g = (fr_or EF ce (ss.filter (fl_p EF CF ce w_s ck)) &&& a_g))) = 0 by rw [hgot]; rfl) h58
    ·
      rw [nI_ltI (by omega) (by omega)] at h12
      omega
