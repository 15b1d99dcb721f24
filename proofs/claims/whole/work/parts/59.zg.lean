/-! the class: agents, what is due, issuing, renewing -/
theorem cc_Xi_agentWith (l : Launch) (D : va_G) (z : Nat) (M : mw_M) (x xb xi xk xe xa xw xl xr xt rn cu : Nat) (fo ck se : Int32) (ar : Nat) (ags : List Nat) (AI : Nat → Int32) (i0 : Int32) (wx : M x = some (.inr (0, [.ref xb, .ref xi, .ref xk, .ref xe, .ref xa, .ref xw, .ref xl, .ref xr, .ref xt, .int (fo), .int (ck), .int (se), .ref rn, .ref cu]))) (hag : al_at D M xa ar ags) (hai : ∀ j y : Nat, ags[j]? = some y → ∃ k s0 f0 e0 g0, M y = some (.inr (10, [.int (AI j), .ref k, .int s0, .int f0, .int e0, .int g0]))) : mw_C l yy_Xi_agentWith bb_Xi_agentWith 3 (Option.some Jvm.ClassFile.FieldType.int) 3 64 0 0 D z M [.ref x, .int (i0)] (fun v M' => ((∃ j : Nat, j < ags.length ∧ AI j = i0 ∧ (∀ q : Nat, q < j → AI q ≠ i0) ∧ v = some (.int (nI j))) ∨ ((∀ q : Nat, q < ags.length → AI q ≠ i0) ∧ v = some (.int (-1)))) ∧ M' = M) := by
  refine mw_of (by decide) (Nat.le_of_ble_eq_true rfl) ?_
  intro p e s m below meth c ls E hr hk hnm hM hl
  have hx := E.x
  have hb := E.b
  have E : mw_E p m c bb_Xi_agentWith 3 s _ D z "IdentityIssuer" := E
  have hl : lv_has ls 3 [(0, .ref x), (1, .int (i0))] := hl
  have hS : va_S (mw_A z) s.heap s.heap [] := va_S.rf
  obtain ⟨moa, wa9⟩ := hag.cell
  have hle := hag.le
  refine lv_iconst (v := nI 0) hx hb dd_Xi_agentWith_0 (by decide) ?_
  refine lv_istore_n (lv' := [(2, .int (nI 0)), (0, .ref x), (1, .int (i0))]) hx hb dd_Xi_agentWith_1 rfl hl (by decide) rfl (fun ls hl => ?_)
  have loop2 : ∀ (d9 : Nat) (j : Nat) (H : Heap) (locs : List Loc) (ls : Array Slot), j + d9 = ags.length → (∀ q : Nat, q < j → AI q ≠ i0) → mw_at D mg_cl z M H → va_S (mw_A z) s.heap H locs → lv_has ls 3 [(2, .int (nI j)), (0, .ref x), (1, .int (i0))] → W p l e ({ frames := 3, cells := 0, slots := 0, locals := 64 } : Room) s m ([.ref x, .int (i0)] : List Value).toArray below meth c H locs (0) (0) (MQ below (mw_Q D z (fun v M' => ((∃ j : Nat, j < ags.length ∧ AI j = i0 ∧ (∀ q : Nat, q < j → AI q ≠ i0) ∧ v = some (.int (nI j))) ∨ ((∀ q : Nat, q < ags.length → AI q ≠ i0) ∧ v = some (.int (-1)))) ∧ M' = M)) ([.ref x, .int (i0)] : List Value).toArray s 0 0 (mw_A z)) (F0 m 2 ls []) := by
    intro d9
    induction d9 with
    | zero =>
      intro j H locs ls hp hu hM hS hl
      refine lv_iload_n hx hb dd_Xi_agentWith_2 rfl (lv_at hl 0 rfl) ?_
      refine lv_aload_n hx hb dd_Xi_agentWith_3 rfl (lv_at hl 1 rfl) ?_
      refine gf_Xi_33 E hM wx rfl dd_Xi_agentWith_4 ?_
      refine mw_V (As := []) (rest := [.int (nI j)]) E (la_size (k := ags.length) l D z (M) hag (rfl)) ky_AL_size kv_AL_size tw_Xi_182 hM hS wa9 rfl rfl rfl hl.1 rfl (Nat.le_of_ble_eq_true rfl) dd_Xi_agentWith_7 (by first | decide | exact ⟨by dsimp only; omega, by dsimp only; omega⟩) (by decide) (fun v M1 H locs hp hM hS => ?_)
      obtain ⟨rfl, hq⟩ := hp
      have hq := hq.symm
      subst hq
      refine W.eq (g2 := F0 m 10 ls [.int (nI ags.length), .int (nI j)]) rfl ?_
      refine lv_icmp_ge (tgt := 39) hx hb dd_Xi_agentWith_10 (by decide) (fun h10 => ?_) (fun h10 => ?_)
      ·
        rw [nI_leI (by omega) (by omega)] at h10
        refine lv_iconst (v := -1) hx hb dd_Xi_agentWith_39 (by decide) ?_
        refine mr_i E hr hk hM hS (by decide) (by decide) ?_ dd_Xi_agentWith_40
        exact ⟨Or.inr ⟨fun q h => hu q (by omega), rfl⟩, rfl⟩
      ·
        rw [nI_leI (by omega) (by omega)] at h10
        omega
    | succ d9 ih =>
      intro j H locs ls hp hu hM hS hl
      refine lv_iload_n hx hb dd_Xi_agentWith_2 rfl (lv_at hl 0 rfl) ?_
      refine lv_aload_n hx hb dd_Xi_agentWith_3 rfl (lv_at hl 1 rfl) ?_
      refine gf_Xi_33 E hM wx rfl dd_Xi_agentWith_4 ?_
      refine mw_V (As := []) (rest := [.int (nI j)]) E (la_size (k := ags.length) l D z (M) hag (rfl)) ky_AL_size kv_AL_size tw_Xi_182 hM hS wa9 rfl rfl rfl hl.1 rfl (Nat.le_of_ble_eq_true rfl) dd_Xi_agentWith_7 (by first | decide | exact ⟨by dsimp only; omega, by dsimp only; omega⟩) (by decide) (fun v M1 H locs hp hM hS => ?_)
      obtain ⟨rfl, hq⟩ := hp
      have hq := hq.symm
      subst hq
      refine W.eq (g2 := F0 m 10 ls [.int (nI ags.length), .int (nI j)]) rfl ?_
      refine lv_icmp_ge (tgt := 39) hx hb dd_Xi_agentWith_10 (by decide) (fun h10 => ?_) (fun h10 => ?_)
      ·
        rw [nI_leI (by omega) (by omega)] at h10
        omega
      ·
        rw [nI_leI (by omega) (by omega)] at h10
        refine lv_aload_n hx hb dd_Xi_agentWith_13 rfl (lv_at hl 1 rfl) ?_
        refine gf_Xi_33 E hM wx rfl dd_Xi_agentWith_14 ?_
        refine lv_iload_n hx hb dd_Xi_agentWith_17 rfl (lv_at hl 0 rfl) ?_
        obtain ⟨y, hy⟩ : ∃ y, ags[j]? = some y := ⟨_, List.getElem?_eq_getElem (by omega)⟩
        obtain ⟨k9, s9, f9, e9, g9, wy⟩ := hai j y hy
        refine mw_V (As := [.int (nI j)]) (rest := []) E (la_get (y := y) l D z (M) hag (hy)) ky_AL_get kv_AL_get tw_Xi_131 hM hS wa9 rfl rfl rfl hl.1 rfl (Nat.le_of_ble_eq_true rfl) dd_Xi_agentWith_18 (by first | decide | exact ⟨by dsimp only; omega, by dsimp only; omega⟩) (by decide) (fun v M1 H locs hp hM hS => ?_)
        obtain ⟨rfl, hq⟩ := hp
        have hq := hq.symm
        subst hq
        refine W.eq (g2 := F0 m 21 ls [.ref y]) rfl ?_
        refine va_castY (C := "IdentityIssuer$Agent") hx hb E.o (E.t _ tw_Xi_135) (E.N.2.2.1 ("IdentityIssuer$Agent", "IdentityIssuer$Agent") (by decide)) (mw_recv E.K hM rfl wy) dd_Xi_agentWith_21 ?_
        refine gf_Xi_283 E hM wy rfl dd_Xi_agentWith_24 ?_
        refine lv_iload_n hx hb dd_Xi_agentWith_27 rfl (lv_at hl 2 rfl) ?_
        refine lv_icmp_ne (tgt := 33) hx hb dd_Xi_agentWith_28 (by decide) (fun h28 => ?_) (fun h28 => ?_)
        ·
          refine lv_iinc (k := 0) (v := nI (j + 1)) (lv' := [(2, .int (nI (j + 1))), (0, .ref x), (1, .int (i0))]) hx hb dd_Xi_agentWith_33 hl rfl (nI_1 _) (by decide) rfl (fun ls hl => ?_)
          refine lv_goto (tgt := 2) hx hb dd_Xi_agentWith_36 (by decide) ?_
          exact ih (j + 1) H locs ls (by omega) (fun q h => if e9 : q = j then (by rw [e9]; exact h28) else hu q (by omega)) hM hS (lv_sub hl [0, 1, 2] rfl)
        ·
          refine lv_iload_n hx hb dd_Xi_agentWith_31 rfl (lv_at hl 0 rfl) ?_
          refine mr_i E hr hk hM hS (by decide) (by decide) ?_ dd_Xi_agentWith_32
          exact ⟨Or.inl ⟨j, by omega, h28, hu, rfl⟩, rfl⟩
  exact loop2 ags.length 0 s.heap [] ls (by omega) (fun q h => absurd h (by omega)) hM hS (lv_sub hl [0, 1, 2] rfl)
theorem ls_cy {ss : List Nat} {i n : Nat} {p : Nat → Bool} (h : ss[i]? = some n) (hp : p n = true) : (ss.take (i + 1)).countP p = (ss.take i).countP p + 1 := by
  rw [ls_take h, List.countP_append, List.countP_cons_of_pos hp]
  rfl
theorem ls_cn {ss : List Nat} {i n : Nat} {p : Nat → Bool} (h : ss[i]? = some n) (hp : p n = false) : (ss.take (i + 1)).countP p = (ss.take i).countP p := by
  rw [ls_take h, List.countP_append, List.countP_cons_of_neg (by rw [hp]; decide)]
  rfl
theorem cc_Xi_countDue (l : Launch) (D : va_G) (z : Nat) (M : mw_M) (x xb xi xk xe xa xw xl xr xt rn cu : Nat) (fo ck se : Int32) (el er mk y kl kr : Nat) (a_i a_s a_f a_e a_g : Int32) (rc : Int32) (es ss : List Nat) (EF CF : Nat → Nat → Int32) (ent ca ce : Nat → Nat) (wx : M x = some (.inr (0, [.ref xb, .ref xi, .ref xk, .ref xe, .ref xa, .ref xw, .ref xl, .ref xr, .ref xt, .int (fo), .int (ck), .int (se), .ref rn, .ref cu]))) (hes : es_at D M xe el er mk es EF ent) (wy : M y = some (.inr (10, [.int (a_i), .ref kl, .int (a_s), .int (a_f), .int (a_e), .int (a_g)]))) (hkl : al_at D M kl kr (ss.map ca)) (hss : ∀ n : Nat, n ∈ ss → ct_is M EF CF ent ca ce n) (hln : ss.length ≤ 15) : mw_C l yy_Xi_countDue bb_Xi_countDue 6 (Option.some Jvm.ClassFile.FieldType.int) 4 88 0 0 D z M [.ref x, .ref y, .int (rc)] (fun v M' => v = some (.int (nI (es.countP (fun e => ru_f2 EF rc e && (ss.find? (fh_p EF CF ce (EF e 0) ck)).isNone)))) ∧ M' = M) := by
  refine mw_of (by decide) (Nat.le_of_ble_eq_true rfl) ?_
  intro p e s m below meth c ls E hr hk hnm hM hl
  have hx := E.x
  have hb := E.b
  have E : mw_E p m c bb_Xi_countDue 6 s _ D z "IdentityIssuer" := E
  have hl : lv_has ls 6 [(0, .ref x), (1, .ref y), (2, .int (rc))] := hl
  have hS : va_S (mw_A z) s.heap s.heap [] := va_S.rf
  have we9 := hes.1
  have hle := hes.le
  refine lv_iconst (v := nI 0) hx hb dd_Xi_countDue_0 (by decide) ?_
  refine lv_istore_n (lv' := [(3, .int (nI 0)), (0, .ref x), (1, .ref y), (2, .int (rc))]) hx hb dd_Xi_countDue_1 rfl hl (by decide) rfl (fun ls hl => ?_)
  refine lv_iconst (v := nI 0) hx hb dd_Xi_countDue_2 (by decide) ?_
  refine lv_istore (lv' := [(4, .int (nI 0)), (3, .int (nI 0)), (0, .ref x), (1, .ref y), (2, .int (rc))]) hx hb dd_Xi_countDue_3 hl (by decide) rfl (fun ls hl => ?_)
  have loop5 : ∀ (d9 : Nat) (i n0 : Nat) (H : Heap) (locs : List Loc) (ls : Array Slot), i + d9 = es.length → n0 = (es.take i).countP (fun e => ru_f2 EF rc e && (ss.find? (fh_p EF CF ce (EF e 0) ck)).isNone) → mw_at D mg_cl z M H → va_S (mw_A z) s.heap H locs → lv_has ls 6 [(3, .int (nI n0)), (4, .int (nI i)), (0, .ref x), (1, .ref y), (2, .int (rc))] → W p l e ({ frames := 4, cells := 0, slots := 0, locals := 88 } : Room) s m ([.ref x, .ref y, .int (rc)] : List Value).toArray below meth c H locs (0) (0) (MQ below (mw_Q D z (fun v M' => v = some (.int (nI (es.countP (fun e => ru_f2 EF rc e && (ss.find? (fh_p EF CF ce (EF e 0) ck)).isNone)))) ∧ M' = M)) ([.ref x, .ref y, .int (rc)] : List Value).toArray s 0 0 (mw_A z)) (F0 m 5 ls []) := by
    intro d9
    induction d9 with
    | zero =>
      intro i n0 H locs ls hp hu hM hS hl
      refine lv_iload hx hb dd_Xi_countDue_5 (lv_at hl 1 rfl) ?_
      refine lv_aload_n hx hb dd_Xi_countDue_7 rfl (lv_at hl 2 rfl) ?_
      refine gf_Xi_26 E hM wx rfl dd_Xi_countDue_8 ?_
      refine mw_V (As := []) (rest := [.int (nI i)]) E (ce_size l D z (M) hes) ky_Es_size kv_Es_size tw_Xi_289 hM hS we9 rfl rfl rfl hl.1 rfl (Nat.le_of_ble_eq_true rfl) dd_Xi_countDue_11 (by first | decide | exact ⟨by dsimp only; omega, by dsimp only; omega⟩) (by decide) (fun v M1 H locs hp hM hS => ?_)
      obtain ⟨rfl, hq⟩ := hp
      have hq := hq.symm
      subst hq
      refine W.eq (g2 := F0 m 14 ls [.int (nI es.length), .int (nI i)]) rfl ?_
      refine lv_icmp_ge (tgt := 59) hx hb dd_Xi_countDue_14 (by decide) (fun h14 => ?_) (fun h14 => ?_)
      ·
        rw [nI_leI (by omega) (by omega)] at h14
        refine lv_iload_n hx hb dd_Xi_countDue_59 rfl (lv_at hl 0 rfl) ?_
        refine mr_i E hr hk hM hS (by decide) (by decide) ?_ dd_Xi_countDue_60
        exact ⟨by rw [hu, show i = es.length by omega, List.take_length], rfl⟩
      ·
        rw [nI_leI (by omega) (by omega)] at h14
        omega
    | succ d9 ih =>
      intro i n0 H locs ls hp hu hM hS hl
      refine lv_iload hx hb dd_Xi_countDue_5 (lv_at hl 1 rfl) ?_
      refine lv_aload_n hx hb dd_Xi_countDue_7 rfl (lv_at hl 2 rfl) ?_
      refine gf_Xi_26 E hM wx rfl dd_Xi_countDue_8 ?_
      refine mw_V (As := []) (rest := [.int (nI i)]) E (ce_size l D z (M) hes) ky_Es_size kv_Es_size tw_Xi_289 hM hS we9 rfl rfl rfl hl.1 rfl (Nat.le_of_ble_eq_true rfl) dd_Xi_countDue_11 (by first | decide | exact ⟨by dsimp only; omega, by dsimp only; omega⟩) (by decide) (fun v M1 H locs hp hM hS => ?_)
      obtain ⟨rfl, hq⟩ := hp
      have hq := hq.symm
      subst hq
      refine W.eq (g2 := F0 m 14 ls [.int (nI es.length), .int (nI i)]) rfl ?_
      refine lv_icmp_ge (tgt := 59) hx hb dd_Xi_countDue_14 (by decide) (fun h14 => ?_) (fun h14 => ?_)
      ·
        rw [nI_leI (by omega) (by omega)] at h14
        omega
      ·
        rw [nI_leI (by omega) (by omega)] at h14
        refine lv_aload_n hx hb dd_Xi_countDue_17 rfl (lv_at hl 2 rfl) ?_
        refine gf_Xi_26 E hM wx rfl dd_Xi_countDue_18 ?_
        refine lv_iload hx hb dd_Xi_countDue_21 (lv_at hl 1 rfl) ?_
        obtain ⟨en, he⟩ : ∃ en, es[i]? = some en := ⟨_, List.getElem?_eq_getElem (by omega)⟩
        refine mw_V (As := [.int (nI i)]) (rest := []) E (ce_at l D z (M) hes he) ky_Es_at kv_Es_at tw_Xi_290 hM hS we9 rfl rfl rfl hl.1 rfl (Nat.le_of_ble_eq_true rfl) dd_Xi_countDue_23 (by first | decide | exact ⟨by dsimp only; omega, by dsimp only; omega⟩) (by decide) (fun v M1 H locs hp hM hS => ?_)
        obtain ⟨rfl, hq⟩ := hp
        have hq := hq.symm
        subst hq
        have wen : M (ent en) = some (.inr (9, [.int (EF en 0), .int (EF en 1), .int (EF en 2), .int (EF en 3), .int (EF en 4), .int (EF en 5)])) := hes.2.2 en (List.mem_of_getElem? he)
        refine W.eq (g2 := F0 m 26 ls [.ref (ent en)]) rfl ?_
        refine lv_astore (lv' := [(5, .ref (ent en)), (3, .int (nI n0)), (4, .int (nI i)), (0, .ref x), (1, .ref y), (2, .int (rc))]) hx hb dd_Xi_countDue_26 hl (by decide) rfl (fun ls hl => ?_)
        refine lv_aload hx hb dd_Xi_countDue_28 (lv_at hl 0 rfl) ?_
        refine lv_iload_n hx hb dd_Xi_countDue_30 rfl (lv_at hl 5 rfl) ?_
        refine mw_V (As := [.int (rc)]) (rest := []) E (cc_En_isEntitled l D z (M) (ent en) (EF en 0) (EF en 1) (EF en 2) (EF en 3) (EF en 4) (EF en 5) rc wen) ky_En_isEntitled kv_En_isEntitled tw_Xi_293 hM hS wen rfl rfl rfl hl.1 rfl (Nat.le_of_ble_eq_true rfl) dd_Xi_countDue_31 (by first | decide | exact ⟨by dsimp only; omega, by dsimp only; omega⟩) (by decide) (fun v M1 H locs hp hM hS => ?_)
        obtain ⟨rfl, hq⟩ := hp
        have hq := hq.symm
        subst hq
        refine W.eq (g2 := F0 m 34 ls [.int (zI (ru_f2 EF rc en))]) rfl ?_
        refine lv_if_eq (tgt := 53) hx hb dd_Xi_countDue_34 (by decide) (fun h34 => ?_) (fun h34 => ?_)
        ·
          refine lv_iinc (k := 2) (v := nI (i + 1)) (lv' := [(4, .int (nI (i + 1))), (5, .ref (ent en)), (3, .int (nI n0)), (0, .ref x), (1, .ref y), (2, .int (rc))]) hx hb dd_Xi_countDue_53 hl rfl (nI_1 _) (by decide) rfl (fun ls hl => ?_)
          refine lv_goto (tgt := 5) hx hb dd_Xi_countDue_56 (by decide) ?_
          exact ih (i + 1) _ H locs ls (by omega) (by rw [hu, ls_cn he (by rw [zI_0.mp h34]; rfl)]) hM hS (lv_sub hl [2, 0, 3, 4, 5] rfl)
        ·
          refine lv_aload_n hx hb dd_Xi_countDue_37 rfl (lv_at hl 4 rfl) ?_
          refine lv_aload hx hb dd_Xi_countDue_38 (lv_at hl 0 rfl) ?_
          refine lv_aload_n hx hb dd_Xi_countDue_40 rfl (lv_at hl 3 rfl) ?_
          refine gf_Xi_154 E hM wx rfl dd_Xi_countDue_41 ?_
          refine mw_V (As := [.ref (ent en), .int (ck)]) (rest := []) E (cc_Ag_fresh l D z (M) y (ent en) kl kr a_i a_s a_f a_e a_g (EF en 0) (EF en 1) (EF en 2) (EF en 3) (EF en 4) (EF en 5) ck ss EF CF ent ca ce wy wen hkl hss hln) ky_Ag_fresh kv_Ag_fresh tw_Xi_296 hM hS wy rfl rfl rfl hl.1 rfl (Nat.le_of_ble_eq_true rfl) dd_Xi_countDue_44 (by first | decide | exact ⟨by dsimp only; omega, by dsimp only; omega⟩) (by decide) (fun v M1 H locs hp hM hS => ?_)
          obtain ⟨rfl, hq⟩ := hp
          have hq := hq.symm
          subst hq
          rcases hfd : ss.find? (fh_p EF CF ce (EF en 0) ck) with _ | s0
          ·
            refine W.eq (g2 := F0 m 47 ls [.null]) rfl ?_
            refine lv_ifnonnullN hx hb dd_Xi_countDue_47 ?_
            refine lv_iinc (k := 1) (v := nI (n0 + 1)) (lv' := [(3, .int (nI (n0 + 1))), (5, .ref (ent en)), (4, .int (nI i)), (0, .ref x), (1, .ref y), (2, .int (rc))]) hx hb dd_Xi_countDue_50 hl rfl (nI_1 _) (by decide) rfl (fun ls hl => ?_)
            refine lv_iinc (k := 2) (v := nI (i + 1)) (lv' := [(4, .int (nI (i + 1))), (3, .int (nI (n0 + 1))), (5, .ref (ent en)), (0, .ref x), (1, .ref y), (2, .int (rc))]) hx hb dd_Xi_countDue_53 hl rfl (nI_1 _) (by decide) rfl (fun ls hl => ?_)
            refine lv_goto (tgt := 5) hx hb dd_Xi_countDue_56 (by decide) ?_
            exact ih (i + 1) _ H locs ls (by omega) (by rw [hu, ls_cy he (by rw [Bool.of_not_eq_false (fun q => h34 (zI_0.mpr q)), hfd]; rfl)]) hM hS (lv_sub hl [1, 0, 3, 4, 5] rfl)
          ·
            refine W.eq (g2 := F0 m 47 ls [.ref (ca s0)]) rfl ?_
            refine lv_ifnonnull (tgt := 53) hx hb dd_Xi_countDue_47 (by decide) ?_
            refine lv_iinc (k := 2) (v := nI (i + 1)) (lv' := [(4, .int (nI (i + 1))), (5, .ref (ent en)), (3, .int (nI n0)), (0, .ref x), (1, .ref y), (2, .int (rc))]) hx hb dd_Xi_countDue_53 hl rfl (nI_1 _) (by decide) rfl (fun ls hl => ?_)
            refine lv_goto (tgt := 5) hx hb dd_Xi_countDue_56 (by decide) ?_
            exact ih (i + 1) _ H locs ls (by omega) (by rw [hu, ls_cn he (by rw [Bool.of_not_eq_false (fun q => h34 (zI_0.mpr q)), hfd]; rfl)]) hM hS (lv_sub hl [2, 0, 3, 4, 5] rfl)
  exact loop5 es.length 0 0 s.heap [] ls (by omega) rfl hM hS (lv_sub hl [1, 0, 2, 3, 4] rfl)
theorem cc_Xi_issue (l : Launch) (D : va_G) (z : Nat) (M : mw_M) (x xb xi xk xe xa xw xl xr xt rn cu : Nat) (fo : Int32) (cl ns : Nat) (kr9 lf kc ka : Nat) (pr : Int32) (f : Nat → Int32) (g : Nat → Nat) (y tt : Nat) (e_n e_i e_p e_s e_f : Int32) (wx : M x = some (.inr (0, [.ref xb, .ref xi, .ref xk, .ref xe, .ref xa, .ref xw, .ref xl, .ref xr, .ref xt, .int (fo), .int (nI cl), .int (nI ns), .ref rn, .ref cu]))) (wk : M xk = some (.inr (8, [.int (nI lf), .ref kr9, .int (nI kc), .int (nI ka), .int (pr)]))) (wr9 : M kr9 = some (.inl (D.1 100, 4, .inl f))) (hg : ∀ j, j < 4 → f j = nI (g j) ∧ g j < 2 ^ 20) (hlf : lf < 2 ^ 20) (hkc : kc < 2 ^ 20) (hka : ka < 2 ^ 20) (wy : M y = some (.inr (9, [.int e_n, .int e_i, .int e_p, .int e_s, .int (nI tt), .int e_f]))) (hcl : cl < 2 ^ 20) (htt : tt < 2 ^ 20) : mw_C l yy_Xi_issue bb_Xi_issue 4 (Option.some (Jvm.ClassFile.FieldType.object "IdentityIssuer$Certificate")) 2 45 1 5 D z M [.ref x, .ref y] (fun v M' => ∃ q, v = some (.ref q) ∧ M q = none ∧ M' q = some (.inr (11, [.ref y, .int (nI (ns + 1)), .int (nI ka), .int (nI cl), .int (nI (min (cl + tt) (g (ka % 4) + lf)))])) ∧ M' x = some (.inr (0, [.ref xb, .ref xi, .ref xk, .ref xe, .ref xa, .ref xw, .ref xl, .ref xr, .ref xt, .int (fo), .int (nI cl), .int (nI (ns + 1)), .ref rn, .ref cu])) ∧ mw_fr (fun q => q = x) M M') := by
  refine mw_of (by decide) (Nat.le_of_ble_eq_true rfl) ?_
  intro p e s m below meth c ls E hr hk hnm hM hl
  have hx := E.x
  have hb := E.b
  have E : mw_E p m c bb_Xi_issue 4 s _ D z "IdentityIssuer" := E
  have hl : lv_has ls 4 [(0, .ref x), (1, .ref y)] := hl
  have hS : va_S (mw_A z) s.heap s.heap [] := va_S.rf
  have hF : mw_fr (fun q => q = x) M M := mw_fr.rf
  refine lv_aload_n hx hb dd_Xi_issue_0 rfl (lv_at hl 0 rfl) ?_
  refine lv_dup hx hb dd_Xi_issue_1 rfl ?_
  refine gf_Xi_309 E hM wx rfl dd_Xi_issue_2 ?_
  refine lv_iconst (v := nI 1) hx hb dd_Xi_issue_5 (by decide) ?_
  refine lv_iadd hx hb dd_Xi_issue_6 ?_
  refine mw_topi (y := nI (ns + 1)) (nI_add _ _) ?_
  refine pf_Xi_309 E hM hS wx (Nat.le_of_ble_eq_true rfl) dd_Xi_issue_7 (fun H locs hM hS => ?_)
  have hM : mw_at D mg_cl z (va_up M x (some (.inr (0, [.ref xb, .ref xi, .ref xk, .ref xe, .ref xa, .ref xw, .ref xl, .ref xr, .ref xt, .int (fo), .int (nI cl), .int (nI (ns + 1)), .ref rn, .ref cu])))) H := hM
  obtain ⟨M1, hM1⟩ : ∃ M9 : mw_M, M9 = va_up M x (some (.inr (0, [.ref xb, .ref xi, .ref xk, .ref xe, .ref xa, .ref xw, .ref xl, .ref xr, .ref xt, .int (fo), .int (nI cl), .int (nI (ns + 1)), .ref rn, .ref cu]))) := ⟨_, rfl⟩
  rw [← hM1] at hM
  have wk := mw_uu hM1 wk (mw_ne wk wx (fun q => by cases q))
  have wy := mw_uu hM1 wy (mw_ne wy wx (fun q => by cases q))
  have wr9 := mw_uu hM1 wr9 (mw_ne wr9 wx (fun q => by cases q))
  have wx := mw_us hM1
  have hF := mw_fu hM1 hF (rfl)
  refine lv_aload_n hx hb dd_Xi_issue_10 rfl (lv_at hl 0 rfl) ?_
  refine gf_Xi_81 E hM wx rfl dd_Xi_issue_11 ?_
  refine mw_V (As := []) (rest := []) E (cc_Ky_active l D z (M1) xk kr9 lf kc (nI ka) pr f g wk wr9 hg hlf hkc) ky_Ky_active kv_Ky_active tw_Xi_151 hM hS wk rfl rfl rfl hl.1 rfl (Nat.le_of_ble_eq_true rfl) dd_Xi_issue_14 (by first | decide | exact ⟨by dsimp only; omega, by dsimp only; omega⟩) (by decide) (fun v M1 H locs hp hM hS => ?_)
  obtain ⟨rfl, hq⟩ := hp
  have hq := hq.symm
  subst hq
  refine W.eq (g2 := F0 m 17 ls [.int (nI ka)]) rfl ?_
  refine lv_istore_n (lv' := [(2, .int (nI ka)), (0, .ref x), (1, .ref y)]) hx hb dd_Xi_issue_17 rfl hl (by decide) rfl (fun ls hl => ?_)
  refine lv_aload_n hx hb dd_Xi_issue_18 rfl (lv_at hl 1 rfl) ?_
  refine gf_Xi_154 E hM wx rfl dd_Xi_issue_19 ?_
  refine lv_aload_n hx hb dd_Xi_issue_22 rfl (lv_at hl 2 rfl) ?_
  refine gf_Xi_312 E hM wy rfl dd_Xi_issue_23 ?_
  refine lv_iadd hx hb dd_Xi_issue_26 ?_
  refine mw_topi (y := nI (cl + tt)) (nI_add _ _) ?_
  refine lv_aload_n hx hb dd_Xi_issue_27 rfl (lv_at hl 1 rfl) ?_
  refine gf_Xi_81 E hM wx rfl dd_Xi_issue_28 ?_
  refine lv_iload_n hx hb dd_Xi_issue_31 rfl (lv_at hl 0 rfl) ?_
  refine mw_V (As := [.int (nI ka)]) (rest := [.int (nI (cl + tt))]) E (cc_Ky_endOf l D z (M1) xk kr9 lf kc (nI ka) pr f g ka wk wr9 hg hlf hkc (by omega)) ky_Ky_endOf kv_Ky_endOf tw_Xi_315 hM hS wk rfl rfl rfl hl.1 rfl (Nat.le_of_ble_eq_true rfl) dd_Xi_issue_32 (by first | decide | exact ⟨by dsimp only; omega, by dsimp only; omega⟩) (by decide) (fun v M1 H locs hp hM hS => ?_)
  obtain ⟨rfl, hq⟩ := hp
  have hq := hq.symm
  subst hq
  refine W.eq (g2 := F0 m 35 ls [.int (nI (g (ka % 4) + lf)), .int (nI (cl + tt))]) rfl ?_
  refine va_mmin hx hb (E.ml.trans hl.1.symm) E.o (E.t _ tw_Xi_69) (E.t _ kv_Ma_min) (E.t _ tw_ini_Ma) (E.t _ ky_Ma_min.1) (Nat.le_of_ble_eq_true rfl) (Nat.le_of_ble_eq_true rfl) (by decide) (by decide) dd_Xi_issue_35 ?_
  refine mw_topi (y := nI (min (cl + tt) (g (ka % 4) + lf))) (id_min (by omega) (by have := (hg (ka % 4) (by omega)).2; omega)) ?_
  refine lv_istore_n (lv' := [(3, .int (nI (min (cl + tt) (g (ka % 4) + lf)))), (2, .int (nI ka)), (0, .ref x), (1, .ref y)]) hx hb dd_Xi_issue_38 rfl hl (by decide) rfl (fun ls hl => ?_)
  have hF0 := hF
  have wx0 := wx
  refine mw_new (C := "IdentityIssuer$Certificate") (T := ff_Ce) (N := 5) (ci := 11) (fs := [.null, .int (0), .int (0), .int (0), .int (0)]) hx hb E.t in_Ce tt_Ce ty_Ce E.o (E.t _ tw_Xi_219) (E.t _ tw_inst_Ce) (E.t _ tw_ini_Ce) E.K hM E.zz hS rfl (by decide +kernel) (by decide) (by decide) dd_Xi_issue_39 (fun q39 H hq39 hM hS => ?_)
  have hM : mw_at D mg_cl z (va_up M1 q39 (some (.inr (11, [.null, .int (0), .int (0), .int (0), .int (0)])))) H := hM
  obtain ⟨M1, hM1⟩ : ∃ M9 : mw_M, M9 = va_up M1 q39 (some (.inr (11, [.null, .int (0), .int (0), .int (0), .int (0)]))) := ⟨_, rfl⟩
  rw [← hM1] at hM
  have wx := mw_un hM1 hq39 wx
  have wk := mw_un hM1 hq39 wk
  have wy := mw_un hM1 hq39 wy
  have wr9 := mw_un hM1 hq39 wr9
  have w_q39 := mw_us hM1
  have hF := mw_fn hM1 hq39 hF
  refine lv_dup hx hb dd_Xi_issue_42 rfl ?_
  refine lv_aload_n hx hb dd_Xi_issue_43 rfl (lv_at hl 3 rfl) ?_
  refine lv_aload_n hx hb dd_Xi_issue_44 rfl (lv_at hl 2 rfl) ?_
  refine gf_Xi_309 E hM wx rfl dd_Xi_issue_45 ?_
  refine lv_iload_n hx hb dd_Xi_issue_48 rfl (lv_at hl 1 rfl) ?_
  refine lv_aload_n hx hb dd_Xi_issue_49 rfl (lv_at hl 2 rfl) ?_
  refine gf_Xi_154 E hM wx rfl dd_Xi_issue_50 ?_
  refine lv_iload_n hx hb dd_Xi_issue_53 rfl (lv_at hl 0 rfl) ?_
  have hqn : M q39 = none := Classical.byContradiction (fun n9 => hF0.2 _ n9 hq39)
  refine mw_I (As := [.ref y, .int (nI (ns + 1)), .int (nI ka), .int (nI cl), .int (nI (min (cl + tt) (g (ka % 4) + lf)))]) (rest := [.ref q39]) E (cc_Ce_init l D z (M1) q39 y (nI (ns + 1)) (nI ka) (nI cl) (nI (min (cl + tt) (g (ka % 4) + lf))) w_q39) ky_Ce_init kv_Ce_init tw_Xi_318 hM hS rfl hl.1 rfl (Nat.le_of_ble_eq_true rfl) dd_Xi_issue_54 (by first | decide | exact ⟨by dsimp only; omega, by dsimp only; omega⟩) (by decide) (fun v M1 H locs hp hM hS => ?_)
  obtain ⟨rfl, wq9, hF2⟩ := hp
  have wx := hF2.at wx (mw_neN wx0 hq39)
  have hF := hF.tr2 hF2 (fun q h => Or.inr (by rw [h]; exact hqn))
  refine W.eq (g2 := F0 m 57 ls [.ref q39]) rfl ?_
  refine mr_a E hr hk (Or.inl ⟨_, rfl⟩) (Or.inr ⟨_, rfl⟩) hM hS (by decide) (by decide) ?_ dd_Xi_issue_57
  exact ⟨q39, rfl, hqn, wq9, wx, hF⟩
