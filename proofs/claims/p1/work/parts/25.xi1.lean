/-! the class's small calls -/
def xi_has (k : Nat) (i : Int32) : Bool := decide (0 ≤ i.toInt) && decide (i.toInt < (k : Int))
theorem xi_has_neg {k : Nat} {i : Int32} (h : i < 0) : xi_has k i = false := by
  rw [Int32.lt_iff_toInt_lt, Int32.toInt_zero] at h
  simp only [xi_has, Bool.and_eq_false_iff, decide_eq_false_iff_not]
  omega
theorem xi_has_ge {k : Nat} {i : Int32} (hk : k < 2 ^ 31) (h : nI k ≤ i) : xi_has k i = false := by
  rw [Int32.le_iff_toInt_le, nI_toInt hk] at h
  simp only [xi_has, Bool.and_eq_false_iff, decide_eq_false_iff_not]
  omega
theorem xi_has_in {k : Nat} {i : Int32} (hk : k < 2 ^ 31) (h1 : ¬ i < 0) (h : ¬ nI k ≤ i) : xi_has k i = true := by
  rw [Int32.lt_iff_toInt_lt, Int32.toInt_zero] at h1
  rw [Int32.le_iff_toInt_le, nI_toInt hk] at h
  simp only [xi_has, Bool.and_eq_true, decide_eq_true_eq]
  omega
theorem xi_has_of {k : Nat} {i : Int32} (h : xi_has k i = true) : ∃ j : Nat, j < k ∧ i = nI j := by
  simp only [xi_has, Bool.and_eq_true, decide_eq_true_eq] at h
  refine ⟨i.toInt.toNat, by omega, ?_⟩
  have hr := Int32.toInt_lt i
  exact Int32.toInt_inj.mp (by rw [nI_toInt (by omega)]; omega)
theorem cc_Id_isThere (l : Launch) (D : va_G) (z : Nat) (M : mw_M) (d t le de ic : Nat) (i : Int32) (wd : M d = some (.inr (2, [.ref t, .ref le, .ref de, .int (nI ic)]))) (hic : ic < 2 ^ 31) : mw_C l yy_Id_isThere bb_Id_isThere 2 (Option.some Jvm.ClassFile.FieldType.boolean) 0 0 0 0 D z M [.ref d, .int (i)] (fun v M' => v = some (.int (zI (xi_has ic i))) ∧ M' = M) := by
  refine mw_of (by decide) (Nat.le_of_ble_eq_true rfl) ?_
  intro p e s m below meth c ls E hr hk hnm hM hl
  have hx := E.x
  have hb := E.b
  have E : mw_E p m c bb_Id_isThere 2 s _ D z "IdentityIssuer$Ids" := E
  have hl : lv_has ls 2 [(0, .ref d), (1, .int (i))] := hl
  have hS : va_S (mw_A z) s.heap s.heap [] := va_S.rf
  refine lv_iload_n hx hb dd_Id_isThere_0 rfl (lv_at hl 1 rfl) ?_
  refine lv_if_lt (tgt := 16) hx hb dd_Id_isThere_1 (by decide) (fun h1 => ?_) (fun h1 => ?_)
  ·
    refine lv_iconst (v := nI 0) hx hb dd_Id_isThere_16 (by decide) ?_
    refine mr_z E hr hk hM hS (by decide) (by decide) (rfl) ?_ dd_Id_isThere_17
    exact ⟨by rw [zI_f (xi_has_neg h1)]; rfl, rfl⟩
  ·
    refine lv_iload_n hx hb dd_Id_isThere_4 rfl (lv_at hl 1 rfl) ?_
    refine lv_aload_n hx hb dd_Id_isThere_5 rfl (lv_at hl 0 rfl) ?_
    refine gf_Id_65 E hM wd rfl dd_Id_isThere_6 ?_
    refine lv_icmp_ge (tgt := 16) hx hb dd_Id_isThere_9 (by decide) (fun h9 => ?_) (fun h9 => ?_)
    ·
      refine lv_iconst (v := nI 0) hx hb dd_Id_isThere_16 (by decide) ?_
      refine mr_z E hr hk hM hS (by decide) (by decide) (rfl) ?_ dd_Id_isThere_17
      exact ⟨by rw [zI_f (xi_has_ge (by omega) h9)]; rfl, rfl⟩
    ·
      refine lv_iconst (v := nI 1) hx hb dd_Id_isThere_12 (by decide) ?_
      refine lv_goto (tgt := 17) hx hb dd_Id_isThere_13 (by decide) ?_
      refine mr_z E hr hk hM hS (by decide) (by decide) (rfl) ?_ dd_Id_isThere_17
      exact ⟨by rw [zI_t (xi_has_in (by omega) h1 h9)]; rfl, rfl⟩
theorem cc_Rs_hasCertificate (l : Launch) (D : va_G) (z : Nat) (M : mw_M) (d ce ar k : Nat) (fk ke fn mo : Int32) (i : Int32) (wd : M d = some (.inr (5, [.ref ce, .int fk, .int ke, .int fn]))) (wc : M ce = some (.inr (4, [.ref ar, .int (nI k), .int (mo)]))) (hk0 : k < 2 ^ 31) : mw_C l yy_Rs_hasCertificate bb_Rs_hasCertificate 2 (Option.some Jvm.ClassFile.FieldType.boolean) 1 20 0 0 D z M [.ref d, .int (i)] (fun v M' => v = some (.int (zI (xi_has k i))) ∧ M' = M) := by
  refine mw_of (by decide) (Nat.le_of_ble_eq_true rfl) ?_
  intro p e s m below meth c ls E hr hk hnm hM hl
  have hx := E.x
  have hb := E.b
  have E : mw_E p m c bb_Rs_hasCertificate 2 s _ D z "IdentityIssuer$Response" := E
  have hl : lv_has ls 2 [(0, .ref d), (1, .int (i))] := hl
  have hS : va_S (mw_A z) s.heap s.heap [] := va_S.rf
  refine lv_iload_n hx hb dd_Rs_hasCertificate_0 rfl (lv_at hl 1 rfl) ?_
  refine lv_if_lt (tgt := 19) hx hb dd_Rs_hasCertificate_1 (by decide) (fun h1 => ?_) (fun h1 => ?_)
  ·
    refine lv_iconst (v := nI 0) hx hb dd_Rs_hasCertificate_19 (by decide) ?_
    refine mr_z E hr hk hM hS (by decide) (by decide) (rfl) ?_ dd_Rs_hasCertificate_20
    exact ⟨by rw [zI_f (xi_has_neg h1)]; rfl, rfl⟩
  ·
    refine lv_iload_n hx hb dd_Rs_hasCertificate_4 rfl (lv_at hl 1 rfl) ?_
    refine lv_aload_n hx hb dd_Rs_hasCertificate_5 rfl (lv_at hl 0 rfl) ?_
    refine gf_Rs_12 E hM wd rfl dd_Rs_hasCertificate_6 ?_
    refine mw_V (As := []) (rest := [.int (i)]) E (cc_AL_size l D z (M) ce ar (k) mo wc (by omega)) ky_AL_size kv_AL_size tw_Rs_26 hM hS wc rfl rfl rfl hl.1 rfl (Nat.le_of_ble_eq_true rfl) dd_Rs_hasCertificate_9 (by decide) (by decide) (fun v M1 H locs hp hM hS => ?_)
    obtain ⟨rfl, hq⟩ := hp
    have hq := hq.symm
    subst hq
    refine W.eq (g2 := F0 m 12 ls [.int (nI k), .int (i)]) rfl ?_
    refine lv_icmp_ge (tgt := 19) hx hb dd_Rs_hasCertificate_12 (by decide) (fun h12 => ?_) (fun h12 => ?_)
    ·
      refine lv_iconst (v := nI 0) hx hb dd_Rs_hasCertificate_19 (by decide) ?_
      refine mr_z E hr hk hM hS (by decide) (by decide) (rfl) ?_ dd_Rs_hasCertificate_20
      exact ⟨by rw [zI_f (xi_has_ge (by omega) h12)]; rfl, rfl⟩
    ·
      refine lv_iconst (v := nI 1) hx hb dd_Rs_hasCertificate_15 (by decide) ?_
      refine lv_goto (tgt := 20) hx hb dd_Rs_hasCertificate_16 (by decide) ?_
      refine mr_z E hr hk hM hS (by decide) (by decide) (rfl) ?_ dd_Rs_hasCertificate_20
      exact ⟨by rw [zI_t (xi_has_in (by omega) h1 h12)]; rfl, rfl⟩
theorem cc_Xi_isAgent (l : Launch) (D : va_G) (z : Nat) (M : mw_M) (x xb xi xk xe xa xw xl xr xt rn cu : Nat) (fo ck se : Int32) (ar k : Nat) (mo : Int32) (i : Int32) (wx : M x = some (.inr (0, [.ref xb, .ref xi, .ref xk, .ref xe, .ref xa, .ref xw, .ref xl, .ref xr, .ref xt, .int (fo), .int (ck), .int (se), .ref rn, .ref cu]))) (wc : M xa = some (.inr (4, [.ref ar, .int (nI k), .int (mo)]))) (hk0 : k < 2 ^ 31) : mw_C l yy_Xi_isAgent bb_Xi_isAgent 2 (Option.some Jvm.ClassFile.FieldType.boolean) 1 20 0 0 D z M [.ref x, .int (i)] (fun v M' => v = some (.int (zI (xi_has k i))) ∧ M' = M) := by
  refine mw_of (by decide) (Nat.le_of_ble_eq_true rfl) ?_
  intro p e s m below meth c ls E hr hk hnm hM hl
  have hx := E.x
  have hb := E.b
  have E : mw_E p m c bb_Xi_isAgent 2 s _ D z "IdentityIssuer" := E
  have hl : lv_has ls 2 [(0, .ref x), (1, .int (i))] := hl
  have hS : va_S (mw_A z) s.heap s.heap [] := va_S.rf
  refine lv_iload_n hx hb dd_Xi_isAgent_0 rfl (lv_at hl 1 rfl) ?_
  refine lv_if_lt (tgt := 19) hx hb dd_Xi_isAgent_1 (by decide) (fun h1 => ?_) (fun h1 => ?_)
  ·
    refine lv_iconst (v := nI 0) hx hb dd_Xi_isAgent_19 (by decide) ?_
    refine mr_z E hr hk hM hS (by decide) (by decide) (rfl) ?_ dd_Xi_isAgent_20
    exact ⟨by rw [zI_f (xi_has_neg h1)]; rfl, rfl⟩
  ·
    refine lv_iload_n hx hb dd_Xi_isAgent_4 rfl (lv_at hl 1 rfl) ?_
    refine lv_aload_n hx hb dd_Xi_isAgent_5 rfl (lv_at hl 0 rfl) ?_
    refine gf_Xi_33 E hM wx rfl dd_Xi_isAgent_6 ?_
    refine mw_V (As := []) (rest := [.int (i)]) E (cc_AL_size l D z (M) xa ar (k) mo wc (by omega)) ky_AL_size kv_AL_size tw_Xi_182 hM hS wc rfl rfl rfl hl.1 rfl (Nat.le_of_ble_eq_true rfl) dd_Xi_isAgent_9 (by decide) (by decide) (fun v M1 H locs hp hM hS => ?_)
    obtain ⟨rfl, hq⟩ := hp
    have hq := hq.symm
    subst hq
    refine W.eq (g2 := F0 m 12 ls [.int (nI k), .int (i)]) rfl ?_
    refine lv_icmp_ge (tgt := 19) hx hb dd_Xi_isAgent_12 (by decide) (fun h12 => ?_) (fun h12 => ?_)
    ·
      refine lv_iconst (v := nI 0) hx hb dd_Xi_isAgent_19 (by decide) ?_
      refine mr_z E hr hk hM hS (by decide) (by decide) (rfl) ?_ dd_Xi_isAgent_20
      exact ⟨by rw [zI_f (xi_has_ge (by omega) h12)]; rfl, rfl⟩
    ·
      refine lv_iconst (v := nI 1) hx hb dd_Xi_isAgent_15 (by decide) ?_
      refine lv_goto (tgt := 20) hx hb dd_Xi_isAgent_16 (by decide) ?_
      refine mr_z E hr hk hM hS (by decide) (by decide) (rfl) ?_ dd_Xi_isAgent_20
      exact ⟨by rw [zI_t (xi_has_in (by omega) h1 h12)]; rfl, rfl⟩
theorem cc_Rs_keyCount (l : Launch) (D : va_G) (z : Nat) (M : mw_M) (d ce : Nat) (fk ke fn : Int32) (wd : M d = some (.inr (5, [.ref ce, .int fk, .int ke, .int fn]))) : mw_C l yy_Rs_keyCount bb_Rs_keyCount 1 (Option.some Jvm.ClassFile.FieldType.int) 0 0 0 0 D z M [.ref d] (fun v M' => v = some (.int (ke - fk)) ∧ M' = M) := by
  refine mw_of (by decide) (Nat.le_of_ble_eq_true rfl) ?_
  intro p e s m below meth c ls E hr hk hnm hM hl
  have hx := E.x
  have hb := E.b
  have E : mw_E p m c bb_Rs_keyCount 1 s _ D z "IdentityIssuer$Response" := E
  have hl : lv_has ls 1 [(0, .ref d)] := hl
  have hS : va_S (mw_A z) s.heap s.heap [] := va_S.rf
  refine lv_aload_n hx hb dd_Rs_keyCount_0 rfl (lv_at hl 0 rfl) ?_
  refine gf_Rs_68 E hM wd rfl dd_Rs_keyCount_1 ?_
  refine lv_aload_n hx hb dd_Rs_keyCount_4 rfl (lv_at hl 0 rfl) ?_
  refine gf_Rs_64 E hM wd rfl dd_Rs_keyCount_5 ?_
  refine lv_isub hx hb dd_Rs_keyCount_8 ?_
  refine mr_i E hr hk hM hS (by decide) (by decide) ?_ dd_Rs_keyCount_9
  exact ⟨rfl, rfl⟩
theorem cc_Xi_friends (l : Launch) (D : va_G) (z : Nat) (M : mw_M) (x xb xi xk xe xa xw xl xr xt rn cu : Nat) (fo ck se : Int32) (ce : Nat) (fk ke fn : Int32) (wx : M x = some (.inr (0, [.ref xb, .ref xi, .ref xk, .ref xe, .ref xa, .ref xw, .ref xl, .ref xr, .ref xt, .int (fo), .int (ck), .int (se), .ref rn, .ref cu]))) (wl : M xl = some (.inr (5, [.ref ce, .int fk, .int ke, .int fn]))) : mw_C l yy_Xi_friends bb_Xi_friends 1 (Option.some Jvm.ClassFile.FieldType.int) 0 0 0 0 D z M [.ref x] (fun v M' => v = some (.int fn) ∧ M' = M) := by
  refine mw_of (by decide) (Nat.le_of_ble_eq_true rfl) ?_
  intro p e s m below meth c ls E hr hk hnm hM hl
  have hx := E.x
  have hb := E.b
  have E : mw_E p m c bb_Xi_friends 1 s _ D z "IdentityIssuer" := E
  have hl : lv_has ls 1 [(0, .ref x)] := hl
  have hS : va_S (mw_A z) s.heap s.heap [] := va_S.rf
  refine lv_aload_n hx hb dd_Xi_friends_0 rfl (lv_at hl 0 rfl) ?_
  refine gf_Xi_43 E hM wx rfl dd_Xi_friends_1 ?_
  refine gf_Xi_247 E hM wl rfl dd_Xi_friends_4 ?_
  refine mr_i E hr hk hM hS (by decide) (by decide) ?_ dd_Xi_friends_7
  exact ⟨rfl, rfl⟩
theorem cc_Xi_key (l : Launch) (D : va_G) (z : Nat) (M : mw_M) (x xb xi xk xe xa xw xl xr xt rn cu : Nat) (fo ck se : Int32) (ce k0 n0 : Nat) (fn : Int32) (i : Int32) (wx : M x = some (.inr (0, [.ref xb, .ref xi, .ref xk, .ref xe, .ref xa, .ref xw, .ref xl, .ref xr, .ref xt, .int (fo), .int (ck), .int (se), .ref rn, .ref cu]))) (wl : M xl = some (.inr (5, [.ref ce, .int (nI k0), .int (nI (k0 + n0)), .int fn]))) (hk0 : k0 + n0 < 2 ^ 30) : mw_C l yy_Xi_key bb_Xi_key 2 (Option.some Jvm.ClassFile.FieldType.int) 1 20 0 0 D z M [.ref x, .int (i)] (fun v M' => v = some (.int (if xi_has n0 i = true then nI k0 + i else -1001)) ∧ M' = M) := by
  refine mw_of (by decide) (Nat.le_of_ble_eq_true rfl) ?_
  intro p e s m below meth c ls E hr hk hnm hM hl
  have hx := E.x
  have hb := E.b
  have E : mw_E p m c bb_Xi_key 2 s _ D z "IdentityIssuer" := E
  have hl : lv_has ls 2 [(0, .ref x), (1, .int (i))] := hl
  have hS : va_S (mw_A z) s.heap s.heap [] := va_S.rf
  refine lv_iload_n hx hb dd_Xi_key_0 rfl (lv_at hl 1 rfl) ?_
  refine lv_if_lt (tgt := 27) hx hb dd_Xi_key_1 (by decide) (fun h1 => ?_) (fun h1 => ?_)
  ·
    refine lv_sipush (v := -1001) hx hb dd_Xi_key_27 (by decide) ?_
    refine mr_i E hr hk hM hS (by decide) (by decide) ?_ dd_Xi_key_30
    exact ⟨by rw [if_neg (by rw [xi_has_neg h1]; decide)], rfl⟩
  ·
    refine lv_iload_n hx hb dd_Xi_key_4 rfl (lv_at hl 1 rfl) ?_
    refine lv_aload_n hx hb dd_Xi_key_5 rfl (lv_at hl 0 rfl) ?_
    refine gf_Xi_43 E hM wx rfl dd_Xi_key_6 ?_
    refine mw_V (As := []) (rest := [.int (i)]) E (cc_Rs_keyCount l D z M xl ce (nI k0) (nI (k0 + n0)) fn wl) ky_Rs_keyCount kv_Rs_keyCount tw_Xi_241 hM hS wl rfl rfl rfl hl.1 rfl (Nat.le_of_ble_eq_true rfl) dd_Xi_key_9 (by decide) (by decide) (fun v M1 H locs hp hM hS => ?_)
    obtain ⟨rfl, hq⟩ := hp
    have hq := hq.symm
    subst hq
    refine W.eq (g2 := F0 m 12 ls [.int (nI (k0 + n0) - nI k0), .int (i)]) rfl ?_
    refine mw_topi (y := nI n0) ((pk_sub (by omega)).trans (by rw [Nat.add_sub_cancel_left])) ?_
    refine lv_icmp_ge (tgt := 27) hx hb dd_Xi_key_12 (by decide) (fun h12 => ?_) (fun h12 => ?_)
    ·
      refine lv_sipush (v := -1001) hx hb dd_Xi_key_27 (by decide) ?_
      refine mr_i E hr hk hM hS (by decide) (by decide) ?_ dd_Xi_key_30
      exact ⟨by rw [if_neg (by rw [xi_has_ge (by omega) h12]; decide)], rfl⟩
    ·
      refine lv_aload_n hx hb dd_Xi_key_15 rfl (lv_at hl 0 rfl) ?_
      refine gf_Xi_43 E hM wx rfl dd_Xi_key_16 ?_
      refine gf_Xi_244 E hM wl rfl dd_Xi_key_19 ?_
      refine lv_iload_n hx hb dd_Xi_key_22 rfl (lv_at hl 1 rfl) ?_
      refine lv_iadd hx hb dd_Xi_key_23 ?_
      refine lv_goto (tgt := 30) hx hb dd_Xi_key_24 (by decide) ?_
      refine mr_i E hr hk hM hS (by decide) (by decide) ?_ dd_Xi_key_30
      exact ⟨by rw [if_pos (xi_has_in (by omega) h1 h12)], rfl⟩
theorem cc_Xi_tick_y (l : Launch) (D : va_G) (z : Nat) (M : mw_M) (x xb xi xk xe xa xw xl xr xt rn cu : Nat) (fo ck se : Int32) (cl j : Nat) (wx : M x = some (.inr (0, [.ref xb, .ref xi, .ref xk, .ref xe, .ref xa, .ref xw, .ref xl, .ref xr, .ref xt, .int (fo), .int (nI cl), .int (se), .ref rn, .ref cu]))) (hj1 : 1 ≤ j) (hj2 : j ≤ 64) (hcl : cl < 2 ^ 20) : mw_C l yy_Xi_tick bb_Xi_tick 2 (Option.some Jvm.ClassFile.FieldType.int) 0 0 0 0 D z M [.ref x, .int (nI j)] (fun v M' => v = some (.int (nI (cl + j))) ∧ M' x = some (.inr (0, [.ref xb, .ref xi, .ref xk, .ref xe, .ref xa, .ref xw, .ref xl, .ref xr, .ref xt, .int (fo), .int (nI (cl + j)), .int (se), .ref rn, .ref cu])) ∧ mw_fr (fun q => q = x) M M') := by
  refine mw_of (by decide) (Nat.le_of_ble_eq_true rfl) ?_
  intro p e s m below meth c ls E hr hk hnm hM hl
  have hx := E.x
  have hb := E.b
  have E : mw_E p m c bb_Xi_tick 2 s _ D z "IdentityIssuer" := E
  have hl : lv_has ls 2 [(0, .ref x), (1, .int (nI j))] := hl
  have hS : va_S (mw_A z) s.heap s.heap [] := va_S.rf
  have hF : mw_fr (fun q => q = x) M M := mw_fr.rf
  refine lv_iload_n hx hb dd_Xi_tick_0 rfl (lv_at hl 1 rfl) ?_
  refine lv_iconst (v := nI 1) hx hb dd_Xi_tick_1 (by decide) ?_
  refine lv_icmp_lt (tgt := 11) hx hb dd_Xi_tick_2 (by decide) (fun h2 => ?_) (fun h2 => ?_)
  ·
    rw [nI_ltI (by omega) (by omega)] at h2
    omega
  ·
    rw [nI_ltI (by omega) (by omega)] at h2
    refine lv_iload_n hx hb dd_Xi_tick_5 rfl (lv_at hl 1 rfl) ?_
    refine lv_bipush (v := nI 64) hx hb dd_Xi_tick_6 (by decide) ?_
    refine lv_icmp_le (tgt := 15) hx hb dd_Xi_tick_8 (by decide) (fun h8 => ?_) (fun h8 => ?_)
    ·
      rw [nI_leI (by omega) (by omega)] at h8
      refine lv_aload_n hx hb dd_Xi_tick_15 rfl (lv_at hl 0 rfl) ?_
      refine lv_dup hx hb dd_Xi_tick_16 rfl ?_
      refine gf_Xi_154 E hM wx rfl dd_Xi_tick_17 ?_
      refine lv_iload_n hx hb dd_Xi_tick_20 rfl (lv_at hl 1 rfl) ?_
      refine lv_iadd hx hb dd_Xi_tick_21 ?_
      refine mw_topi (y := nI (cl + j)) (nI_add _ _) ?_
      refine pf_Xi_154 E hM hS wx (Nat.le_of_ble_eq_true rfl) dd_Xi_tick_22 (fun H locs hM hS => ?_)
      have hM : mw_at D mg_cl z (va_up M x (some (.inr (0, [.ref xb, .ref xi, .ref xk, .ref xe, .ref xa, .ref xw, .ref xl, .ref xr, .ref xt, .int (fo), .int (nI (cl + j)), .int (se), .ref rn, .ref cu])))) H := hM
      obtain ⟨M1, hM1⟩ : ∃ M9 : mw_M, M9 = va_up M x (some (.inr (0, [.ref xb, .ref xi, .ref xk, .ref xe, .ref xa, .ref xw, .ref xl, .ref xr, .ref xt, .int (fo), .int (nI (cl + j)), .int (se), .ref rn, .ref cu]))) := ⟨_, rfl⟩
      rw [← hM1] at hM
      have wx := mw_us hM1
      have hF := mw_fu hM1 hF (rfl)
      refine lv_aload_n hx hb dd_Xi_tick_25 rfl (lv_at hl 0 rfl) ?_
      refine gf_Xi_154 E hM wx rfl dd_Xi_tick_26 ?_
      refine mr_i E hr hk hM hS (by decide) (by decide) ?_ dd_Xi_tick_29
      exact ⟨rfl, wx, hF⟩
    ·
      rw [nI_leI (by omega) (by omega)] at h8
      omega
theorem cc_Xi_tick_n (l : Launch) (D : va_G) (z : Nat) (M : mw_M) (x : Nat) (n : Int32) (hn : n < nI 1 ∨ nI 64 < n) : mw_C l yy_Xi_tick bb_Xi_tick 2 (Option.some Jvm.ClassFile.FieldType.int) 0 0 0 0 D z M [.ref x, .int (n)] (fun v M' => v = some (.int (-1002)) ∧ M' = M) := by
  refine mw_of (by decide) (Nat.le_of_ble_eq_true rfl) ?_
  intro p e s m below meth c ls E hr hk hnm hM hl
  have hx := E.x
  have hb := E.b
  have E : mw_E p m c bb_Xi_tick 2 s _ D z "IdentityIssuer" := E
  have hl : lv_has ls 2 [(0, .ref x), (1, .int (n))] := hl
  have hS : va_S (mw_A z) s.heap s.heap [] := va_S.rf
  refine lv_iload_n hx hb dd_Xi_tick_0 rfl (lv_at hl 1 rfl) ?_
  refine lv_iconst (v := nI 1) hx hb dd_Xi_tick_1 (by decide) ?_
  refine lv_icmp_lt (tgt := 11) hx hb dd_Xi_tick_2 (by decide) (fun h2 => ?_) (fun h2 => ?_)
  ·
    refine lv_sipush (v := -1002) hx hb dd_Xi_tick_11 (by decide) ?_
    refine mr_i E hr hk hM hS (by decide) (by decide) ?_ dd_Xi_tick_14
    exact ⟨rfl, rfl⟩
  ·
    refine lv_iload_n hx hb dd_Xi_tick_5 rfl (lv_at hl 1 rfl) ?_
    refine lv_bipush (v := nI 64) hx hb dd_Xi_tick_6 (by decide) ?_
    refine lv_icmp_le (tgt := 15) hx hb dd_Xi_tick_8 (by decide) (fun h8 => ?_) (fun h8 => ?_)
    ·
      exact absurd hn (fun q => q.elim h2 (fun q => Int32.lt_irrefl (Int32.lt_of_lt_of_le q h8)))
    ·
      refine lv_sipush (v := -1002) hx hb dd_Xi_tick_11 (by decide) ?_
      refine mr_i E hr hk hM hS (by decide) (by decide) ?_ dd_Xi_tick_14
      exact ⟨rfl, rfl⟩
theorem cc_Xi_activate (l : Launch) (D : va_G) (z : Nat) (M : mw_M) (x xb xi xk xe xa xw xl xr xt rn cu : Nat) (fo ck se : Int32) (r lf kc : Nat) (ac pr : Int32) (f : Nat → Int32) (g : Nat → Nat) (cl : Nat) (wx : M x = some (.inr (0, [.ref xb, .ref xi, .ref xk, .ref xe, .ref xa, .ref xw, .ref xl, .ref xr, .ref xt, .int (fo), .int (nI cl), .int (se), .ref rn, .ref cu]))) (wb : M xk = some (.inr (8, [.int (nI lf), .ref r, .int (nI kc), .int ac, .int pr]))) (wr : M r = some (.inl (D.1 100, 4, .inl f))) (hg : ∀ j, j < 4 → f j = nI (g j) ∧ g j < 2 ^ 20) (hlf : lf < 2 ^ 20) (hkc : kc < 2 ^ 20) (hcl : cl < 2 ^ 20) : mw_C l yy_Xi_activate bb_Xi_activate 1 (Option.some Jvm.ClassFile.FieldType.boolean) 3 64 0 0 D z M [.ref x] (fun v M' => v = some (.int (zI (ky_good kc lf g pr cl))) ∧ M' xk = some (.inr (8, if ky_good kc lf g pr cl = true then [.int (nI lf), .ref r, .int (nI kc), .int pr, .int (-1)] else [.int (nI lf), .ref r, .int (nI kc), .int ac, .int pr])) ∧ mw_fr (fun q => q = xk) M M') := by
  refine mw_of (by decide) (Nat.le_of_ble_eq_true rfl) ?_
  intro p e s m below meth c ls E hr hk hnm hM hl
  have hx := E.x
  have hb := E.b
  have E : mw_E p m c bb_Xi_activate 1 s _ D z "IdentityIssuer" := E
  have hl : lv_has ls 1 [(0, .ref x)] := hl
  have hS : va_S (mw_A z) s.heap s.heap [] := va_S.rf
  have hF : mw_fr (fun q => q = xk) M M := mw_fr.rf
  refine lv_aload_n hx hb dd_Xi_activate_0 rfl (lv_at hl 0 rfl) ?_
  refine gf_Xi_81 E hM wx rfl dd_Xi_activate_1 ?_
  refine lv_aload_n hx hb dd_Xi_activate_4 rfl (lv_at hl 0 rfl) ?_
  refine gf_Xi_154 E hM wx rfl dd_Xi_activate_5 ?_
  refine mw_V (As := [.int (nI cl)]) (rest := []) E (cc_Ky_useNext l D z M xk r lf kc ac pr f g cl wb wr hg hlf hkc hcl) ky_Ky_useNext kv_Ky_useNext tw_Xi_269 hM hS wb rfl rfl rfl hl.1 rfl (Nat.le_of_ble_eq_true rfl) dd_Xi_activate_8 (by decide) (by decide) (fun v M1 H locs hp hM hS => ?_)
  obtain ⟨rfl, wb, hF⟩ := hp
  refine W.eq (g2 := F0 m 11 ls [.int (zI (ky_good kc lf g pr cl))]) rfl ?_
  refine mr_z E hr hk hM hS (by decide) (by decide) (zI_z _) ?_ dd_Xi_activate_11
  exact ⟨rfl, wb, hF⟩
theorem cc_Xi_prepare (l : Launch) (D : va_G) (z : Nat) (M : mw_M) (x xb xi xk xe xa xw xl xr xt rn cu : Nat) (fo ck se : Int32) (r lf kc : Nat) (ac pr : Int32) (f : Nat → Int32) (g : Nat → Nat) (cl : Nat) (wx : M x = some (.inr (0, [.ref xb, .ref xi, .ref xk, .ref xe, .ref xa, .ref xw, .ref xl, .ref xr, .ref xt, .int (fo), .int (nI cl), .int (se), .ref rn, .ref cu]))) (wb : M xk = some (.inr (8, [.int (nI lf), .ref r, .int (nI kc), .int ac, .int pr]))) (wr : M r = some (.inl (D.1 100, 4, .inl f))) (hg : ∀ j, j < 4 → f j = nI (g j) ∧ g j < 2 ^ 20) (hlf : lf < 2 ^ 20) (hkc : kc < 2 ^ 20) (hcl : cl < 2 ^ 20) : mw_C l yy_Xi_prepare bb_Xi_prepare 1 (Option.some Jvm.ClassFile.FieldType.int) 4 86 0 0 D z M [.ref x] (fun v M' => ((!ky_good kc lf g pr cl && decide (kc < ky_first kc lf g cl + 4)) = true → v = some (.int (nI kc)) ∧ M' xk = some (.inr (8, [.int (nI lf), .ref r, .int (nI (kc + 1)), .int ac, .int (nI kc)])) ∧ M' r = some (.inl (D.1 100, 4, .inl (upd f (kc % 4) (nI cl))))) ∧ ((!ky_good kc lf g pr cl && decide (kc < ky_first kc lf g cl + 4)) = false → v = some (.int (-1003)) ∧ M' = M) ∧ mw_fr (fun q => q = xk ∨ q = r) M M') := by
  refine mw_of (by decide) (Nat.le_of_ble_eq_true rfl) ?_
  intro p e s m below meth c ls E hr hk hnm hM hl
  have hx := E.x
  have hb := E.b
  have E : mw_E p m c bb_Xi_prepare 1 s _ D z "IdentityIssuer" := E
  have hl : lv_has ls 1 [(0, .ref x)] := hl
  have hS : va_S (mw_A z) s.heap s.heap [] := va_S.rf
  have hF : mw_fr (fun q => q = xk ∨ q = r) M M := mw_fr.rf
  refine lv_aload_n hx hb dd_Xi_prepare_0 rfl (lv_at hl 0 rfl) ?_
  refine gf_Xi_81 E hM wx rfl dd_Xi_prepare_1 ?_
  refine lv_aload_n hx hb dd_Xi_prepare_4 rfl (lv_at hl 0 rfl) ?_
  refine gf_Xi_154 E hM wx rfl dd_Xi_prepare_5 ?_
  refine mw_V (As := [.int (nI cl)]) (rest := []) E (cc_Ky_mayMake l D z M xk r lf kc ac pr f g cl wb wr hg hlf hkc hcl) ky_Ky_mayMake kv_Ky_mayMake tw_Xi_264 hM hS wb rfl rfl rfl hl.1 rfl (Nat.le_of_ble_eq_true rfl) dd_Xi_prepare_8 (by decide) (by decide) (fun v M1 H locs hp hM hS => ?_)
  obtain ⟨rfl, hq⟩ := hp
  have hq := hq.symm
  subst hq
  refine W.eq (g2 := F0 m 11 ls [.int (zI (!ky_good kc lf g pr cl && decide (kc < ky_first kc lf g cl + 4)))]) rfl ?_
  refine lv_if_eq (tgt := 28) hx hb dd_Xi_prepare_11 (by decide) (fun h11 => ?_) (fun h11 => ?_)
  ·
    have h11 := zI_0.mp h11
    refine lv_sipush (v := -1003) hx hb dd_Xi_prepare_28 (by decide) ?_
    refine mr_i E hr hk hM hS (by decide) (by decide) ?_ dd_Xi_prepare_31
    exact ⟨fun q => absurd (h11.symm.trans q) (by decide), fun _ => ⟨rfl, rfl⟩, mw_fr.rf⟩
  ·
    have h11 : (!ky_good kc lf g pr cl && decide (kc < ky_first kc lf g cl + 4)) = true := Bool.of_not_eq_false (fun q => h11 (zI_0.mpr q))
    refine lv_aload_n hx hb dd_Xi_prepare_14 rfl (lv_at hl 0 rfl) ?_
    refine gf_Xi_81 E hM wx rfl dd_Xi_prepare_15 ?_
    refine lv_aload_n hx hb dd_Xi_prepare_18 rfl (lv_at hl 0 rfl) ?_
    refine gf_Xi_154 E hM wx rfl dd_Xi_prepare_19 ?_
    refine mw_V (As := [.int (nI cl)]) (rest := []) E (cc_Ky_make l D z M xk r lf kc ac pr f g cl wb wr hg hlf hkc hcl) ky_Ky_make kv_Ky_make tw_Xi_267 hM hS wb rfl rfl rfl hl.1 rfl (Nat.le_of_ble_eq_true rfl) dd_Xi_prepare_22 (by decide) (by decide) (fun v M1 H locs hp hM hS => ?_)
    obtain ⟨rfl, wb, wr, hF⟩ := hp
    refine W.eq (g2 := F0 m 25 ls [.int (nI kc)]) rfl ?_
    refine lv_goto (tgt := 31) hx hb dd_Xi_prepare_25 (by decide) ?_
    refine mr_i E hr hk hM hS (by decide) (by decide) ?_ dd_Xi_prepare_31
    exact ⟨fun _ => ⟨rfl, wb, wr⟩, fun q => absurd (h11.symm.trans q) (by decide), hF⟩
