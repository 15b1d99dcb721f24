/-! the class: renewing an agent's certificates -/
theorem al_at.nri {D : va_G} {M : mw_M} {a ar y n : Nat} {L : List Nat} {f : Nat → Int32} {t : ClassId} (h : al_at D M a ar L) (w : M y = some (.inl (t, n, .inl f))) : y ≠ ar := fun q => by
  subst q
  obtain ⟨h0, cap, mo, -, -, -, h2⟩ := h
  rcases h2 with ⟨h2, -⟩ | ⟨-, h2⟩
  · rw [h2, h0] at w
    cases w
  · rw [h2] at w
    cases w
set_option maxHeartbeats 4000000 in
set_option maxRecDepth 100000 in
theorem cc_Xi_renew (l : Launch) (D : va_G) (z : Nat) (M : mw_M) (x xb xi xk xe xa xw xl xr xt rn cu : Nat) (fo : Int32) (cl ns : Nat) (kr9 lf kc ka : Nat) (pr : Int32) (f : Nat → Int32) (g : Nat → Nat) (el er mk y kl kr rr : Nat) (a_i a_s a_f a_e a_g : Int32) (rc : Int32) (tn : Nat → Nat) (es ss L0 : List Nat) (EF CF : Nat → Nat → Int32) (ent ca ce : Nat → Nat) (wx : M x = some (.inr (0, [.ref xb, .ref xi, .ref xk, .ref xe, .ref xa, .ref xw, .ref xl, .ref xr, .ref xt, .int (fo), .int (nI cl), .int (nI ns), .ref rn, .ref cu]))) (wk : M xk = some (.inr (8, [.int (nI lf), .ref kr9, .int (nI kc), .int (nI ka), .int (pr)]))) (wr9 : M kr9 = some (.inl (D.1 100, 4, .inl f))) (hg : ∀ j, j < 4 → f j = nI (g j) ∧ g j < 2 ^ 20) (hlf : lf < 2 ^ 20) (hkc : kc < 2 ^ 20) (hka : ka < 2 ^ 20) (hes : es_at D M xe el er mk es EF ent) (wy : M y = some (.inr (10, [.int (a_i), .ref kl, .int (a_s), .int (a_f), .int (a_e), .int (a_g)]))) (hkl : al_at D M kl kr (ss.map ca)) (hss : ∀ n : Nat, n ∈ ss → ct_is M EF CF ent ca ce n) (hrn : al_at D M rn rr L0) (htn : ∀ e : Nat, e ∈ es → EF e 4 = nI (tn e) ∧ tn e < 2 ^ 20) (hel : es.length ≤ 12) (hsl : ss.length ≤ 12) (hsn : ∀ n : Nat, n ∈ ss → n ≤ ns) (hcl : cl < 2 ^ 20) (hns : ns < 2 ^ 20) (hen : el ≠ rn) (hkn : kl ≠ rn) (hrr1 : er = rr → er = D.2 200 0) (hrr2 : kr = rr → kr = D.2 200 0) : mw_C l yy_Xi_renew bb_Xi_renew 6 (Option.none : Option Jvm.ClassFile.FieldType) 8 179 36 420 D z M [.ref x, .ref y, .int (rc)] (fun v M' => v = none ∧ ∃ ns1 L1 CF1 ca1 ce1 r1 k1, rn_go (ru_f2 EF rc) (fun e => ss.find? (fh_p EF CF ce (EF e 0) (nI cl))) es ns = (ns1, L1) ∧ al_at D M' kl k1 (L1.map ca1) ∧ al_at D M' rn r1 (L1.map ca1) ∧ (∀ n : Nat, n ≤ ns → ca1 n = ca n ∧ ce1 n = ce n ∧ CF1 n = CF n) ∧ (∀ n : Nat, ns < n → n ≤ ns1 → ct_is M' EF CF1 ent ca1 ce1 n ∧ CF1 n 2 = nI ka ∧ CF1 n 3 = nI cl ∧ CF1 n 4 = nI (min (cl + tn (ce1 n)) (g (ka % 4) + lf)) ∧ (rn_N (ru_f2 EF rc) (fun e => ss.find? (fh_p EF CF ce (EF e 0) (nI cl))) es)[n - ns - 1]? = some (ce1 n)) ∧ (∀ n : Nat, n ∈ L1 → ct_is M' EF CF1 ent ca1 ce1 n ∧ n ≤ ns1) ∧ M' x = some (.inr (0, [.ref xb, .ref xi, .ref xk, .ref xe, .ref xa, .ref xw, .ref xl, .ref xr, .ref xt, .int (fo), .int (nI cl), .int (nI ns1), .ref rn, .ref cu])) ∧ mw_fr (fun q => q = x ∨ q = rn ∨ q = rr ∨ q = kl ∨ q = kr) M M' ∧ (r1 = rr ∨ M r1 = none) ∧ (k1 = kr ∨ M k1 = none) ∧ ns ≤ ns1 ∧ ns1 ≤ ns + 12 ∧ (r1 = k1 → r1 = D.2 200 0)) := by
  refine mw_of (by decide) (Nat.le_of_ble_eq_true rfl) ?_
  intro p e s m below meth c ls E hr hk hnm hM hl
  have hx := E.x
  have hb := E.b
  have E : mw_E p m c bb_Xi_renew 6 s _ D z "IdentityIssuer" := E
  have hl : lv_has ls 6 [(0, .ref x), (1, .ref y), (2, .int (rc))] := hl
  have hS : va_S (mw_A z) s.heap s.heap [] := va_S.rf
  have hF : mw_fr (fun q => q = x ∨ q = rn ∨ q = rr) M M := mw_fr.rf
  obtain ⟨mon, wn9⟩ := hrn.cell
  obtain ⟨mok, wk9⟩ := hkl.cell
  have we9 := hes.1
  refine lv_aload_n hx hb dd_Xi_renew_0 rfl (lv_at hl 0 rfl) ?_
  refine gf_Xi_61 E hM wx rfl dd_Xi_renew_1 ?_
  refine mw_V (As := []) (rest := []) E (la_clear l D z (M) hrn) ky_AL_clear kv_AL_clear tw_Xi_300 hM hS wn9 rfl rfl rfl hl.1 rfl (Nat.le_of_ble_eq_true rfl) dd_Xi_renew_4 (by first | decide | exact ⟨by dsimp only; omega, by dsimp only; omega⟩) (by decide) (fun v M1 H locs hp hM hS => ?_)
  obtain ⟨rfl, hL2, hF2⟩ := hp
  have hes := hes.keep hrn hL2.1 hF2 hen hrr1
  have wr9 := hF2.at wr9 (fun q => q.elim (mw_ne wr9 wn9 (fun q => by cases q)) (hrn.nri wr9))
  have hkl := hkl.fr hL2.1 hF2 (fun q => q.elim hkn (hrn.nr wk9)) (fun y => (fun q => q.elim (hkl.nr wn9).symm (fun q => y (hkl.zr (hrr2 q)))))
  have hss := fun n hn => (hss n hn).fr hF2 (fun q9 ci vs wz9 hc => (fun q => q.elim (mw_ne wz9 wn9 (fun e9 => by cases e9; exact absurd hc (by decide))) (hrn.nr wz9)))
  have wx := hF2.at wx (fun q => q.elim (mw_ne wx wn9 (fun q => by cases q)) (hrn.nr wx))
  have wk := hF2.at wk (fun q => q.elim (mw_ne wk wn9 (fun q => by cases q)) (hrn.nr wk))
  have we9 := hF2.at we9 (fun q => q.elim (mw_ne we9 wn9 (fun q => by cases q)) (hrn.nr we9))
  have wy := hF2.at wy (fun q => q.elim (mw_ne wy wn9 (fun q => by cases q)) (hrn.nr wy))
  have wk9 := hF2.at wk9 (fun q => q.elim hkn (hrn.nr wk9))
  have hrn := hL2
  obtain ⟨mo9, wn9⟩ := hrn.cell
  have hF := hF.tr2 hF2 (fun q h => Or.inl (Or.inr h))
  refine W.eq (g2 := F0 m 7 ls []) rfl ?_
  refine lv_iconst (v := nI 0) hx hb dd_Xi_renew_7 (by decide) ?_
  refine lv_istore_n (lv' := [(3, .int (nI 0)), (0, .ref x), (1, .ref y), (2, .int (rc))]) hx hb dd_Xi_renew_8 rfl hl (by decide) rfl (fun ls hl => ?_)
  have loop9 : ∀ (d9 : Nat) (i ns1 r1 : Nat) (L1 : List Nat) (CF1 : Nat → Nat → Int32) (ca1 ce1 : Nat → Nat) (M1 : mw_M) (H : Heap) (locs : List Loc) (ls : Array Slot), i + d9 = es.length → rn_go (ru_f2 EF rc) (fun e => ss.find? (fh_p EF CF ce (EF e 0) (nI cl))) (es.take i) ns = (ns1, L1) → al_at D M1 rn r1 (L1.map ca1) → (∀ n : Nat, n ∈ L1 → ct_is M1 EF CF1 ent ca1 ce1 n ∧ n ≤ ns1) → (∀ n : Nat, n ≤ ns → ca1 n = ca n ∧ ce1 n = ce n ∧ CF1 n = CF n) → (∀ n : Nat, ns < n → n ≤ ns1 → ct_is M1 EF CF1 ent ca1 ce1 n ∧ CF1 n 2 = nI ka ∧ CF1 n 3 = nI cl ∧ CF1 n 4 = nI (min (cl + tn (ce1 n)) (g (ka % 4) + lf)) ∧ (rn_N (ru_f2 EF rc) (fun e => ss.find? (fh_p EF CF ce (EF e 0) (nI cl))) (es.take i))[n - ns - 1]? = some (ce1 n)) → M1 x = some (.inr (0, [.ref xb, .ref xi, .ref xk, .ref xe, .ref xa, .ref xw, .ref xl, .ref xr, .ref xt, .int (fo), .int (nI cl), .int (nI ns1), .ref rn, .ref cu])) → M1 xk = some (.inr (8, [.int (nI lf), .ref kr9, .int (nI kc), .int (nI ka), .int (pr)])) → M1 kr9 = some (.inl (D.1 100, 4, .inl f)) → es_at D M1 xe el er mk es EF ent → M1 y = some (.inr (10, [.int (a_i), .ref kl, .int (a_s), .int (a_f), .int (a_e), .int (a_g)])) → al_at D M1 kl kr (ss.map ca) → (∀ n : Nat, n ∈ ss → ct_is M1 EF CF ent ca ce n) → mw_fr (fun q => q = x ∨ q = rn ∨ q = rr) M M1 → (r1 = rr ∨ M r1 = none) → (er = r1 → er = D.2 200 0) → (kr = r1 → kr = D.2 200 0) → (ns ≤ ns1 ∧ ns1 ≤ ns + i) → L1.length ≤ i → mw_at D mg_cl z M1 H → va_S (mw_A z) s.heap H locs → lv_has ls 6 [(3, .int (nI i)), (0, .ref x), (1, .ref y), (2, .int (rc))] → W p l e ({ frames := 8, cells := 36, slots := 420, locals := 179 } : Room) s m ([.ref x, .ref y, .int (rc)] : List Value).toArray below meth c H locs (2 * i) (20 * i) (MQ below (mw_Q D z (fun v M' => v = none ∧ ∃ ns1 L1 CF1 ca1 ce1 r1 k1, rn_go (ru_f2 EF rc) (fun e => ss.find? (fh_p EF CF ce (EF e 0) (nI cl))) es ns = (ns1, L1) ∧ al_at D M' kl k1 (L1.map ca1) ∧ al_at D M' rn r1 (L1.map ca1) ∧ (∀ n : Nat, n ≤ ns → ca1 n = ca n ∧ ce1 n = ce n ∧ CF1 n = CF n) ∧ (∀ n : Nat, ns < n → n ≤ ns1 → ct_is M' EF CF1 ent ca1 ce1 n ∧ CF1 n 2 = nI ka ∧ CF1 n 3 = nI cl ∧ CF1 n 4 = nI (min (cl + tn (ce1 n)) (g (ka % 4) + lf)) ∧ (rn_N (ru_f2 EF rc) (fun e => ss.find? (fh_p EF CF ce (EF e 0) (nI cl))) es)[n - ns - 1]? = some (ce1 n)) ∧ (∀ n : Nat, n ∈ L1 → ct_is M' EF CF1 ent ca1 ce1 n ∧ n ≤ ns1) ∧ M' x = some (.inr (0, [.ref xb, .ref xi, .ref xk, .ref xe, .ref xa, .ref xw, .ref xl, .ref xr, .ref xt, .int (fo), .int (nI cl), .int (nI ns1), .ref rn, .ref cu])) ∧ mw_fr (fun q => q = x ∨ q = rn ∨ q = rr ∨ q = kl ∨ q = kr) M M' ∧ (r1 = rr ∨ M r1 = none) ∧ (k1 = kr ∨ M k1 = none) ∧ ns ≤ ns1 ∧ ns1 ≤ ns + 12 ∧ (r1 = k1 → r1 = D.2 200 0))) ([.ref x, .ref y, .int (rc)] : List Value).toArray s 36 420 (mw_A z)) (F0 m 9 ls []) := by
    intro d9
    induction d9 with
    | zero =>
      intro i ns1 r1 L1 CF1 ca1 ce1 M1 H locs ls hi hgo hrn hL1 hag hnew wx wk wr9 hes wy hkl hss hF har hrr1 hrr2 hns1 hll hM hS hl
      obtain ⟨mon, wn9⟩ := hrn.cell
      obtain ⟨mok, wk9⟩ := hkl.cell
      have we9 := hes.1
      have hle := hes.le
      refine lv_iload_n hx hb dd_Xi_renew_9 rfl (lv_at hl 0 rfl) ?_
      refine lv_aload_n hx hb dd_Xi_renew_10 rfl (lv_at hl 1 rfl) ?_
      refine gf_Xi_26 E hM wx rfl dd_Xi_renew_11 ?_
      refine mw_V (As := []) (rest := [.int (nI i)]) E (ce_size l D z (M1) hes) ky_Es_size kv_Es_size tw_Xi_289 hM hS we9 rfl rfl rfl hl.1 rfl (Nat.le_of_ble_eq_true rfl) dd_Xi_renew_14 (by first | decide | exact ⟨by dsimp only; omega, by dsimp only; omega⟩) (by decide) (fun v M1 H locs hp hM hS => ?_)
      obtain ⟨rfl, hq⟩ := hp
      have hq := hq.symm
      subst hq
      refine W.eq (g2 := F0 m 17 ls [.int (nI es.length), .int (nI i)]) rfl ?_
      refine lv_icmp_ge (tgt := 81) hx hb dd_Xi_renew_17 (by decide) (fun h17 => ?_) (fun h17 => ?_)
      ·
        rw [nI_leI (by omega) (by omega)] at h17
        refine lv_aload_n hx hb dd_Xi_renew_81 rfl (lv_at hl 2 rfl) ?_
        refine lv_aload_n hx hb dd_Xi_renew_82 rfl (lv_at hl 1 rfl) ?_
        refine gf_Xi_61 E hM wx rfl dd_Xi_renew_83 ?_
        rw [show i = es.length by omega, List.take_length] at hgo hnew
        have hr9 : r1 = kr → r1 = D.2 200 0 := fun q => q.trans (hrr2 q.symm)
        refine mw_V (As := [.ref rn]) (rest := []) E (cc_Ag_keepCertificates l D z (M1) y kl kr rn r1 a_i a_s a_f a_e a_g (ss.map ca) L1 EF CF1 ent ca1 ce1 wy hkl hrn (fun n hn => (hL1 n hn).1) (by omega) hkn hr9) ky_Ag_keepCertificates kv_Ag_keepCertificates tw_Xi_305 hM hS wy rfl rfl rfl hl.1 rfl (Nat.le_of_ble_eq_true rfl) dd_Xi_renew_86 (⟨(by omega : 2 * i + 12 ≤ 36), (by omega : 20 * i + 180 ≤ 420)⟩) (by decide) (fun v M1 H locs hp hM hS => ?_)
        obtain ⟨rfl, k1, hL2, hF2, har2⟩ := hp
        have hn1 := row_new hrn har2 hr9
        have hL1 := fun (n : Nat) (hn : n ∈ L1) => And.intro ((hL1 n hn).1.fr hF2 (fun q ci vs w0 hc => fun q => q.elim (mw_ne w0 wk9 (fun e9 => by cases e9; exact absurd hc (by decide))) (hkl.nr w0))) (hL1 n hn).2
        have hnew := fun (n : Nat) (h1 : ns < n) (h2 : n ≤ ns1) => And.intro ((hnew n h1 h2).1.fr hF2 (fun q ci vs w0 hc => fun q => q.elim (mw_ne w0 wk9 (fun e9 => by cases e9; exact absurd hc (by decide))) (hkl.nr w0))) (hnew n h1 h2).2
        have wx := hF2.at wx (fun q => q.elim (mw_ne wx wk9 (fun q => by cases q)) (hkl.nr wx))
        have hrn := hrn.fr hL2.1 hF2 (fun q => q.elim (Ne.symm hkn) (hkl.nr wn9)) (fun y => fun q => q.elim (hrn.nr wk9).symm (fun q => y (hrn.zr (hr9 q))))
        have har3 := row_tr hF (Or.inl rfl) har2
        have hF : mw_fr (fun q => q = x ∨ q = rn ∨ q = rr ∨ q = kl ∨ q = kr) M M1 := (hF.mono (fun q h => h.elim Or.inl (fun h => h.elim (fun h => Or.inr (Or.inl h)) (fun h => Or.inr (Or.inr (Or.inl h)))))).tr2 hF2 (fun q h => Or.inl (Or.inr (Or.inr (Or.inr h))))
        refine W.eq (g2 := F0 m 89 ls []) rfl ?_
        refine mr_v E hr hk hM hS (by omega) (by omega) ?_ dd_Xi_renew_89
        exact ⟨rfl, ns1, L1, CF1, ca1, ce1, r1, k1, hgo, hL2, hrn, hag, hnew, hL1, wx, hF, har, har3, hns1.1, by omega, hn1⟩
      ·
        rw [nI_leI (by omega) (by omega)] at h17
        omega
    | succ d9 ih =>
      intro i ns1 r1 L1 CF1 ca1 ce1 M1 H locs ls hi hgo hrn hL1 hag hnew wx wk wr9 hes wy hkl hss hF har hrr1 hrr2 hns1 hll hM hS hl
      obtain ⟨mon, wn9⟩ := hrn.cell
      obtain ⟨mok, wk9⟩ := hkl.cell
      have we9 := hes.1
      have hle := hes.le
      refine lv_iload_n hx hb dd_Xi_renew_9 rfl (lv_at hl 0 rfl) ?_
      refine lv_aload_n hx hb dd_Xi_renew_10 rfl (lv_at hl 1 rfl) ?_
      refine gf_Xi_26 E hM wx rfl dd_Xi_renew_11 ?_
      refine mw_V (As := []) (rest := [.int (nI i)]) E (ce_size l D z (M1) hes) ky_Es_size kv_Es_size tw_Xi_289 hM hS we9 rfl rfl rfl hl.1 rfl (Nat.le_of_ble_eq_true rfl) dd_Xi_renew_14 (by first | decide | exact ⟨by dsimp only; omega, by dsimp only; omega⟩) (by decide) (fun v M1 H locs hp hM hS => ?_)
      obtain ⟨rfl, hq⟩ := hp
      have hq := hq.symm
      subst hq
      refine W.eq (g2 := F0 m 17 ls [.int (nI es.length), .int (nI i)]) rfl ?_
      refine lv_icmp_ge (tgt := 81) hx hb dd_Xi_renew_17 (by decide) (fun h17 => ?_) (fun h17 => ?_)
      ·
        rw [nI_leI (by omega) (by omega)] at h17
        omega
      ·
        rw [nI_leI (by omega) (by omega)] at h17
        refine lv_aload_n hx hb dd_Xi_renew_20 rfl (lv_at hl 1 rfl) ?_
        refine gf_Xi_26 E hM wx rfl dd_Xi_renew_21 ?_
        refine lv_iload_n hx hb dd_Xi_renew_24 rfl (lv_at hl 0 rfl) ?_
        obtain ⟨en, he⟩ : ∃ en, es[i]? = some en := ⟨_, List.getElem?_eq_getElem (by omega)⟩
        refine mw_V (As := [.int (nI i)]) (rest := []) E (ce_at l D z (M1) hes he) ky_Es_at kv_Es_at tw_Xi_290 hM hS we9 rfl rfl rfl hl.1 rfl (Nat.le_of_ble_eq_true rfl) dd_Xi_renew_25 (by first | decide | exact ⟨by dsimp only; omega, by dsimp only; omega⟩) (by decide) (fun v M1 H locs hp hM hS => ?_)
        obtain ⟨rfl, hq⟩ := hp
        have hq := hq.symm
        subst hq
        have wen : M1 (ent en) = some (.inr (9, [.int (EF en 0), .int (EF en 1), .int (EF en 2), .int (EF en 3), .int (EF en 4), .int (EF en 5)])) := hes.2.2 en (List.mem_of_getElem? he)
        refine W.eq (g2 := F0 m 28 ls [.ref (ent en)]) rfl ?_
        refine lv_astore (lv' := [(4, .ref (ent en)), (3, .int (nI i)), (0, .ref x), (1, .ref y), (2, .int (rc))]) hx hb dd_Xi_renew_28 hl (by decide) rfl (fun ls hl => ?_)
        refine lv_aload hx hb dd_Xi_renew_30 (lv_at hl 0 rfl) ?_
        refine lv_iload_n hx hb dd_Xi_renew_32 rfl (lv_at hl 4 rfl) ?_
        refine mw_V (As := [.int (rc)]) (rest := []) E (cc_En_isEntitled l D z (M1) (ent en) (EF en 0) (EF en 1) (EF en 2) (EF en 3) (EF en 4) (EF en 5) rc wen) ky_En_isEntitled kv_En_isEntitled tw_Xi_293 hM hS wen rfl rfl rfl hl.1 rfl (Nat.le_of_ble_eq_true rfl) dd_Xi_renew_33 (by first | decide | exact ⟨by dsimp only; omega, by dsimp only; omega⟩) (by decide) (fun v M1 H locs hp hM hS => ?_)
        obtain ⟨rfl, hq⟩ := hp
        have hq := hq.symm
        subst hq
        refine W.eq (g2 := F0 m 36 ls [.int (zI (ru_f2 EF rc en))]) rfl ?_
        refine lv_if_eq (tgt := 75) hx hb dd_Xi_renew_36 (by decide) (fun h36 => ?_) (fun h36 => ?_)
        ·
          refine lv_iinc (k := 1) (v := nI (i + 1)) (lv' := [(3, .int (nI (i + 1))), (4, .ref (ent en)), (0, .ref x), (1, .ref y), (2, .int (rc))]) hx hb dd_Xi_renew_75 hl rfl (nI_1 _) (by decide) rfl (fun ls hl => ?_)
          refine lv_goto (tgt := 9) hx hb dd_Xi_renew_78 (by decide) ?_
          refine W.widen (k := 2 * (i + 1)) (n := 20 * (i + 1)) (by omega) (by omega) ?_
          exact ih (i + 1) ns1 r1 L1 CF1 ca1 ce1 M1 H locs ls (by omega) ((rn_n he (zI_0.mp h36)).trans hgo) hrn hL1 hag (by rw [rn_Nt_n he (Or.inl (zI_0.mp h36))]; exact hnew) wx wk wr9 hes wy hkl hss hF har hrr1 hrr2 ⟨hns1.1, by omega⟩ (by omega) hM hS (lv_sub hl [0, 2, 3, 4] rfl)
        ·
          refine lv_aload_n hx hb dd_Xi_renew_39 rfl (lv_at hl 3 rfl) ?_
          refine lv_aload hx hb dd_Xi_renew_40 (lv_at hl 0 rfl) ?_
          refine lv_aload_n hx hb dd_Xi_renew_42 rfl (lv_at hl 2 rfl) ?_
          refine gf_Xi_154 E hM wx rfl dd_Xi_renew_43 ?_
          refine mw_V (As := [.ref (ent en), .int (nI cl)]) (rest := []) E (cc_Ag_fresh l D z (M1) y (ent en) kl kr a_i a_s a_f a_e a_g (EF en 0) (EF en 1) (EF en 2) (EF en 3) (EF en 4) (EF en 5) (nI cl) ss EF CF ent ca ce wy wen hkl hss (by omega)) ky_Ag_fresh kv_Ag_fresh tw_Xi_296 hM hS wy rfl rfl rfl hl.1 rfl (Nat.le_of_ble_eq_true rfl) dd_Xi_renew_46 (by first | decide | exact ⟨by dsimp only; omega, by dsimp only; omega⟩) (by decide) (fun v M1 H locs hp hM hS => ?_)
          obtain ⟨rfl, hq⟩ := hp
          have hq := hq.symm
          subst hq
          rcases hfd : ss.find? (fh_p EF CF ce (EF en 0) (nI cl)) with _ | s0
          ·
            refine W.eq (g2 := F0 m 49 ls [.null]) rfl ?_
            refine lv_astoreN (lv' := [(5, .null), (4, .ref (ent en)), (3, .int (nI i)), (0, .ref x), (1, .ref y), (2, .int (rc))]) hx hb dd_Xi_renew_49 hl (by decide) rfl (fun ls hl => ?_)
            refine lv_aload_n hx hb dd_Xi_renew_51 rfl (lv_at hl 3 rfl) ?_
            refine gf_Xi_61 E hM wx rfl dd_Xi_renew_52 ?_
            refine lv_aloadN hx hb dd_Xi_renew_55 (lv_at hl 0 rfl) ?_
            refine lv_ifnonnullN hx hb dd_Xi_renew_57 ?_
            refine lv_aload_n hx hb dd_Xi_renew_60 rfl (lv_at hl 3 rfl) ?_
            refine lv_aload hx hb dd_Xi_renew_61 (lv_at hl 1 rfl) ?_
            have hem := List.mem_of_getElem? he
            have wen2 := wen
            rw [(htn en hem).1] at wen2
            refine mw_V (As := [.ref (ent en)]) (rest := [.ref rn]) E (cc_Xi_issue l D z (M1) x xb xi xk xe xa xw xl xr xt rn cu fo cl ns1 kr9 lf kc ka pr f g (ent en) (tn en) (EF en 0) (EF en 1) (EF en 2) (EF en 3) (EF en 5) wx wk wr9 hg hlf hkc hka wen2 hcl (htn en hem).2) ky_Xi_issue kv_Xi_issue tw_Xi_301 hM hS wx rfl rfl rfl hl.1 rfl (Nat.le_of_ble_eq_true rfl) dd_Xi_renew_63 (⟨(by omega : 2 * i + 1 ≤ 36), (by omega : 20 * i + 5 ≤ 420)⟩) (by decide) (fun v M1 H locs hp hM hS => ?_)
            obtain ⟨q9, rfl, hq9, wq9, wx2, hF2⟩ := hp
            have z1 := mw_st0 (mw_stZ E.Z) hM
            have hes := hes.keep1 z1 hF2 wx (by decide)
            have hL1 := fun (n : Nat) (hn : n ∈ L1) => And.intro ((hL1 n hn).1.fr hF2 (fun q ci vs w0 hc => mw_ne w0 wx (fun e9 => by cases e9; exact absurd hc (by decide)))) (hL1 n hn).2
            have hnew := fun (n : Nat) (h1 : ns < n) (h2 : n ≤ ns1) => And.intro ((hnew n h1 h2).1.fr hF2 (fun q ci vs w0 hc => mw_ne w0 wx (fun e9 => by cases e9; exact absurd hc (by decide)))) (hnew n h1 h2).2
            have wr9 := hF2.at wr9 (mw_ne wr9 wx (fun q => by cases q))
            have hrn := hrn.fr z1 hF2 (mw_ne wn9 wx (fun q => by cases q)) (fun y => (hrn.nr wx).symm)
            have hkl := hkl.fr z1 hF2 (mw_ne wk9 wx (fun q => by cases q)) (fun y => (hkl.nr wx).symm)
            have hss := fun n hn => (hss n hn).fr hF2 (fun q9 ci vs wz9 hc => (mw_ne wz9 wx (fun e9 => by cases e9; exact absurd hc (by decide))))
            have wk := hF2.at wk (mw_ne wk wx (fun q => by cases q))
            have we9 := hF2.at we9 (mw_ne we9 wx (fun q => by cases q))
            have wy := hF2.at wy (mw_ne wy wx (fun q => by cases q))
            have wn9 := hF2.at wn9 (mw_ne wn9 wx (fun q => by cases q))
            have wk9 := hF2.at wk9 (mw_ne wk9 wx (fun q => by cases q))
            have wx := wx2
            have hF := hF.tr2 hF2 (fun q h => Or.inl (Or.inl h))
            refine W.eq (g2 := F0 m 66 ls [.ref q9, .ref rn]) rfl ?_
            refine lv_goto (tgt := 71) hx hb dd_Xi_renew_66 (by decide) ?_
            refine mw_V (As := [.ref q9]) (rest := []) E (la_add (y := q9) l D z (M1) hrn (by rw [List.length_map]; omega) (ct_els (fun n hn => (hL1 n hn).1)) wq9 rfl (by decide +kernel) (by decide)) ky_AL_add kv_AL_add tw_Xi_189 hM hS wn9 rfl rfl rfl hl.1 rfl (Nat.le_of_ble_eq_true rfl) dd_Xi_renew_71 (⟨(by omega : 2 * i + 1 + 1 ≤ 36), (by omega : 20 * i + 5 + 15 ≤ 420)⟩) (by decide) (fun v M1 H locs hp hM hS => ?_)
            obtain ⟨rfl, r2, hL2, hF2, har2⟩ := hp
            have hn1 := row_new hes.2.1 har2 hrr1
            have hn2 := row_new hkl har2 hrr2
            have hes := hes.keep hrn hL2.1 hF2 hen hrr1
            have hL1 := fun (n : Nat) (hn : n ∈ L1) => And.intro ((hL1 n hn).1.fr hF2 (fun q ci vs w0 hc => fun q => q.elim (mw_ne w0 wn9 (fun e9 => by cases e9; exact absurd hc (by decide))) (hrn.nr w0))) (hL1 n hn).2
            have hnew := fun (n : Nat) (h1 : ns < n) (h2 : n ≤ ns1) => And.intro ((hnew n h1 h2).1.fr hF2 (fun q ci vs w0 hc => fun q => q.elim (mw_ne w0 wn9 (fun e9 => by cases e9; exact absurd hc (by decide))) (hrn.nr w0))) (hnew n h1 h2).2
            have wen := hes.2.2 en hem
            have wq9 := hF2.at wq9 (fun q => q.elim (mw_ne wq9 wn9 (fun q => by cases q)) (hrn.nr wq9))
            have wr9 := hF2.at wr9 (fun q => q.elim (mw_ne wr9 wn9 (fun q => by cases q)) (hrn.nri wr9))
            have hkl := hkl.fr hL2.1 hF2 (fun q => q.elim hkn (hrn.nr wk9)) (fun y => (fun q => q.elim (hkl.nr wn9).symm (fun q => y (hkl.zr (hrr2 q)))))
            have hss := fun n hn => (hss n hn).fr hF2 (fun q9 ci vs wz9 hc => (fun q => q.elim (mw_ne wz9 wn9 (fun e9 => by cases e9; exact absurd hc (by decide))) (hrn.nr wz9)))
            have wx := hF2.at wx (fun q => q.elim (mw_ne wx wn9 (fun q => by cases q)) (hrn.nr wx))
            have wk := hF2.at wk (fun q => q.elim (mw_ne wk wn9 (fun q => by cases q)) (hrn.nr wk))
            have we9 := hF2.at we9 (fun q => q.elim (mw_ne we9 wn9 (fun q => by cases q)) (hrn.nr we9))
            have wy := hF2.at wy (fun q => q.elim (mw_ne wy wn9 (fun q => by cases q)) (hrn.nr wy))
            have wk9 := hF2.at wk9 (fun q => q.elim hkn (hrn.nr wk9))
            have hrn := hL2
            obtain ⟨mo9, wn9⟩ := hrn.cell
            have har3 := row_tr hF har har2
            have hF := hF.tr2 hF2 (fun q h => h.elim (fun e => Or.inl (Or.inr (Or.inl e))) (fun e => har.elim (fun e1 => Or.inl (Or.inr (Or.inr (e.trans e1)))) (fun y => Or.inr (by rw [e]; exact y))))
            have hrr1 := hn1
            have hrr2 := hn2
            have har := har3
            obtain ⟨ca2, hca2⟩ : ∃ f9 : Nat → Nat, f9 = va_up ca1 (ns1 + 1) q9 := ⟨_, rfl⟩
            obtain ⟨ce2, hce2⟩ : ∃ f9 : Nat → Nat, f9 = va_up ce1 (ns1 + 1) en := ⟨_, rfl⟩
            obtain ⟨CF2, hCF2⟩ : ∃ f9 : Nat → Nat → Int32, f9 = va_up CF1 (ns1 + 1) (fun j => if j = 2 then nI ka else if j = 3 then nI cl else nI (min (cl + tn en) (g (ka % 4) + lf))) := ⟨_, rfl⟩
            have hold : ∀ n : Nat, n ≤ ns1 → ca2 n = ca1 n ∧ ce2 n = ce1 n ∧ CF2 n = CF1 n := fun n hn => by
              rw [hca2, hce2, hCF2]
              exact ⟨va_up_ne _ _ (by omega), va_up_ne _ _ (by omega), va_up_ne _ _ (by omega)⟩
            have hn9 : ca2 (ns1 + 1) = q9 ∧ ce2 (ns1 + 1) = en ∧ CF2 (ns1 + 1) = (fun j => if j = 2 then nI ka else if j = 3 then nI cl else nI (min (cl + tn en) (g (ka % 4) + lf))) := by
              rw [hca2, hce2, hCF2]
              exact ⟨va_up_self _ _ _, va_up_self _ _ _, va_up_self _ _ _⟩
            have hct : ct_is M1 EF CF2 ent ca2 ce2 (ns1 + 1) := by
              unfold ct_is
              rw [hn9.1, hn9.2.1, hn9.2.2]
              exact ⟨wq9, wen⟩
            have hmap : L1.map ca2 = L1.map ca1 := List.map_congr_left (fun n hn => (hold n (hL1 n hn).2).1)
            have hrn : al_at D M1 rn r2 ((L1 ++ [ns1 + 1]).map ca2) := by
              rw [List.map_append, hmap]
              show al_at D M1 rn r2 (L1.map ca1 ++ [ca2 (ns1 + 1)])
              rw [hn9.1]
              exact hrn
            have hlen : (rn_N (ru_f2 EF rc) (fun e => ss.find? (fh_p EF CF ce (EF e 0) (nI cl))) (es.take i)).length = ns1 - ns := by
              have h9 := (rn_1 (ru_f2 EF rc) (fun e => ss.find? (fh_p EF CF ce (EF e 0) (nI cl))) ns (es.take i)).1
              rw [hgo] at h9
              have h9 : ns1 = ns + _ := h9
              omega
            have hnew2 : (∀ n : Nat, ns < n → n ≤ (ns1 + 1) → ct_is M1 EF CF2 ent ca2 ce2 n ∧ CF2 n 2 = nI ka ∧ CF2 n 3 = nI cl ∧ CF2 n 4 = nI (min (cl + tn (ce2 n)) (g (ka % 4) + lf)) ∧ (rn_N (ru_f2 EF rc) (fun e => ss.find? (fh_p EF CF ce (EF e 0) (nI cl))) (es.take (i + 1)))[n - ns - 1]? = some (ce2 n)) := fun n h1 h2 => by
              rw [rn_Nt_y he (Bool.of_not_eq_false (fun q => h36 (zI_0.mpr q))) hfd]
              by_cases e9 : n = ns1 + 1
              · rw [e9, hn9.2.2, hn9.2.1]
                refine ⟨hct, rfl, rfl, rfl, ?_⟩
                rw [show ns1 + 1 - ns - 1 = (rn_N (ru_f2 EF rc) (fun e => ss.find? (fh_p EF CF ce (EF e 0) (nI cl))) (es.take i)).length by omega, List.getElem?_concat_length]
              · have h3 := hnew n h1 (by omega)
                have h4 := hold n (by omega)
                refine ⟨h3.1.ext h4.1 h4.2.1 h4.2.2, ?_⟩
                rw [h4.2.1, h4.2.2, List.getElem?_append_left (by omega)]
                exact h3.2
            refine W.eq (g2 := F0 m 74 ls [.int (1)]) rfl ?_
            refine lv_pop hx hb dd_Xi_renew_74 rfl ?_
            refine lv_iinc (k := 2) (v := nI (i + 1)) (lv' := [(3, .int (nI (i + 1))), (5, .null), (4, .ref (ent en)), (0, .ref x), (1, .ref y), (2, .int (rc))]) hx hb dd_Xi_renew_75 hl rfl (nI_1 _) (by decide) rfl (fun ls hl => ?_)
            refine lv_goto (tgt := 9) hx hb dd_Xi_renew_78 (by decide) ?_
            refine W.widen (k := 2 * (i + 1)) (n := 20 * (i + 1)) (by omega) (by omega) ?_
            exact ih (i + 1) (ns1 + 1) r2 (L1 ++ [ns1 + 1]) CF2 ca2 ce2 M1 H locs ls (by omega) (by rw [rn_y he (Bool.of_not_eq_false (fun q => h36 (zI_0.mpr q))) hfd, hgo]) hrn (fun n hn => (List.mem_append.mp hn).elim (fun h => ⟨(hL1 n h).1.ext (hold n (hL1 n h).2).1 (hold n (hL1 n h).2).2.1 (hold n (hL1 n h).2).2.2, Nat.le_succ_of_le (hL1 n h).2⟩) (fun h => by rw [List.mem_singleton.mp h]; exact ⟨hct, Nat.le_refl _⟩)) (fun n hn => ⟨(hold n (by omega)).1.trans (hag n hn).1, (hold n (by omega)).2.1.trans (hag n hn).2.1, (hold n (by omega)).2.2.trans (hag n hn).2.2⟩) hnew2 wx wk wr9 hes wy hkl hss hF har hrr1 hrr2 ⟨by omega, by omega⟩ (by rw [List.length_append, List.length_singleton]; omega) hM hS (lv_sub hl [0, 3, 4, 5] rfl)
          ·
            refine W.eq (g2 := F0 m 49 ls [.ref (ca s0)]) rfl ?_
            have hs0 : s0 ∈ ss := List.mem_of_find?_eq_some hfd
            have hs1 := hsn s0 hs0
            refine lv_astore (lv' := [(5, .ref (ca s0)), (4, .ref (ent en)), (3, .int (nI i)), (0, .ref x), (1, .ref y), (2, .int (rc))]) hx hb dd_Xi_renew_49 hl (by decide) rfl (fun ls hl => ?_)
            refine lv_aload_n hx hb dd_Xi_renew_51 rfl (lv_at hl 3 rfl) ?_
            refine gf_Xi_61 E hM wx rfl dd_Xi_renew_52 ?_
            refine lv_aload hx hb dd_Xi_renew_55 (lv_at hl 0 rfl) ?_
            refine lv_ifnonnull (tgt := 69) hx hb dd_Xi_renew_57 (by decide) ?_
            refine lv_aload hx hb dd_Xi_renew_69 (lv_at hl 0 rfl) ?_
            refine mw_V (As := [.ref (ca s0)]) (rest := []) E (la_add (y := ca s0) l D z (M1) hrn (by rw [List.length_map]; omega) (ct_els (fun n hn => (hL1 n hn).1)) (hss s0 hs0).1 rfl (by decide +kernel) (by decide)) ky_AL_add kv_AL_add tw_Xi_189 hM hS wn9 rfl rfl rfl hl.1 rfl (Nat.le_of_ble_eq_true rfl) dd_Xi_renew_71 (⟨(by omega : 2 * i + 1 ≤ 36), (by omega : 20 * i + 15 ≤ 420)⟩) (by decide) (fun v M1 H locs hp hM hS => ?_)
            obtain ⟨rfl, r2, hL2, hF2, har2⟩ := hp
            have hn1 := row_new hes.2.1 har2 hrr1
            have hn2 := row_new hkl har2 hrr2
            have hes := hes.keep hrn hL2.1 hF2 hen hrr1
            have hL1 := fun (n : Nat) (hn : n ∈ L1) => And.intro ((hL1 n hn).1.fr hF2 (fun q ci vs w0 hc => fun q => q.elim (mw_ne w0 wn9 (fun e9 => by cases e9; exact absurd hc (by decide))) (hrn.nr w0))) (hL1 n hn).2
            have hnew := fun (n : Nat) (h1 : ns < n) (h2 : n ≤ ns1) => And.intro ((hnew n h1 h2).1.fr hF2 (fun q ci vs w0 hc => fun q => q.elim (mw_ne w0 wn9 (fun e9 => by cases e9; exact absurd hc (by decide))) (hrn.nr w0))) (hnew n h1 h2).2
            have wr9 := hF2.at wr9 (fun q => q.elim (mw_ne wr9 wn9 (fun q => by cases q)) (hrn.nri wr9))
            have hkl := hkl.fr hL2.1 hF2 (fun q => q.elim hkn (hrn.nr wk9)) (fun y => (fun q => q.elim (hkl.nr wn9).symm (fun q => y (hkl.zr (hrr2 q)))))
            have hss := fun n hn => (hss n hn).fr hF2 (fun q9 ci vs wz9 hc => (fun q => q.elim (mw_ne wz9 wn9 (fun e9 => by cases e9; exact absurd hc (by decide))) (hrn.nr wz9)))
            have wx := hF2.at wx (fun q => q.elim (mw_ne wx wn9 (fun q => by cases q)) (hrn.nr wx))
            have wk := hF2.at wk (fun q => q.elim (mw_ne wk wn9 (fun q => by cases q)) (hrn.nr wk))
            have we9 := hF2.at we9 (fun q => q.elim (mw_ne we9 wn9 (fun q => by cases q)) (hrn.nr we9))
            have wy := hF2.at wy (fun q => q.elim (mw_ne wy wn9 (fun q => by cases q)) (hrn.nr wy))
            have wk9 := hF2.at wk9 (fun q => q.elim hkn (hrn.nr wk9))
            have hrn := hL2
            obtain ⟨mo9, wn9⟩ := hrn.cell
            have har3 := row_tr hF har har2
            have hF := hF.tr2 hF2 (fun q h => h.elim (fun e => Or.inl (Or.inr (Or.inl e))) (fun e => har.elim (fun e1 => Or.inl (Or.inr (Or.inr (e.trans e1)))) (fun y => Or.inr (by rw [e]; exact y))))
            have hrr1 := hn1
            have hrr2 := hn2
            have har := har3
            have hg1 := hag s0 hs1
            have hrn : al_at D M1 rn r2 ((L1 ++ [s0]).map ca1) := by
              rw [List.map_append]
              show al_at D M1 rn r2 (L1.map ca1 ++ [ca1 s0])
              rw [hg1.1]
              exact hrn
            refine W.eq (g2 := F0 m 74 ls [.int (1)]) rfl ?_
            refine lv_pop hx hb dd_Xi_renew_74 rfl ?_
            refine lv_iinc (k := 2) (v := nI (i + 1)) (lv' := [(3, .int (nI (i + 1))), (5, .ref (ca s0)), (4, .ref (ent en)), (0, .ref x), (1, .ref y), (2, .int (rc))]) hx hb dd_Xi_renew_75 hl rfl (nI_1 _) (by decide) rfl (fun ls hl => ?_)
            refine lv_goto (tgt := 9) hx hb dd_Xi_renew_78 (by decide) ?_
            refine W.widen (k := 2 * (i + 1)) (n := 20 * (i + 1)) (by omega) (by omega) ?_
            exact ih (i + 1) ns1 r2 (L1 ++ [s0]) CF1 ca1 ce1 M1 H locs ls (by omega) (by rw [rn_k he (Bool.of_not_eq_false (fun q => h36 (zI_0.mpr q))) hfd, hgo]) hrn (fun n hn => (List.mem_append.mp hn).elim (hL1 n) (fun h => by rw [List.mem_singleton.mp h]; exact ⟨(hss s0 hs0).ext hg1.1 hg1.2.1 hg1.2.2, by omega⟩)) hag (by rw [rn_Nt_n he (Or.inr ⟨s0, hfd⟩)]; exact hnew) wx wk wr9 hes wy hkl hss hF har hrr1 hrr2 ⟨hns1.1, by omega⟩ (by rw [List.length_append, List.length_singleton]; omega) hM hS (lv_sub hl [0, 3, 4, 5] rfl)
  exact loop9 es.length 0 ns rr [] CF ca ce M1 H locs ls (by omega) rfl hrn (fun n h => absurd h List.not_mem_nil) (fun n _ => ⟨rfl, rfl, rfl⟩) (fun n h1 h2 => absurd h2 (by omega)) wx wk wr9 hes wy hkl hss hF (Or.inl rfl) hrr1 hrr2 ⟨Nat.le_refl _, by omega⟩ (Nat.zero_le _) hM hS (lv_sub hl [0, 1, 2, 3] rfl)
