/-! responses, agents: over lists of serial numbers -/
theorem cc_Rs_answer (l : Launch) (D : va_G) (z : Nat) (M : mw_M) (d cl cr : Nat) (r_f r_e r_g : Int32) (L : List Nat) (wd : M d = some (.inr (5, [.ref cl, .int (r_f), .int (r_e), .int (r_g)]))) (hcl : al_at D M cl cr L) : mw_C l yy_Rs_answer bb_Rs_answer 1 (Option.some Jvm.ClassFile.FieldType.int) 1 20 0 0 D z M [.ref d] (fun v M' => v = some (.int (if L.length = 0 then -1004 else nI L.length)) ∧ M' = M) := by
  refine mw_of (by decide) (Nat.le_of_ble_eq_true rfl) ?_
  intro p e s m below meth c ls E hr hk hnm hM hl
  have hx := E.x
  have hb := E.b
  have E : mw_E p m c bb_Rs_answer 1 s _ D z "IdentityIssuer$Response" := E
  have hl : lv_has ls 1 [(0, .ref d)] := hl
  have hS : va_S (mw_A z) s.heap s.heap [] := va_S.rf
  obtain ⟨mo, wc⟩ := hcl.cell
  refine lv_aload_n hx hb dd_Rs_answer_0 rfl (lv_at hl 0 rfl) ?_
  refine gf_Rs_12 E hM wd rfl dd_Rs_answer_1 ?_
  refine mw_V (As := []) (rest := []) E (la_empty (k := L.length) l D z (M) hcl (rfl)) ky_AL_isEmpty kv_AL_isEmpty tw_Rs_57 hM hS wc rfl rfl rfl hl.1 rfl (Nat.le_of_ble_eq_true rfl) dd_Rs_answer_4 (by first | decide | exact ⟨by dsimp only; omega, by dsimp only; omega⟩) (by decide) (fun v M1 H locs hp hM hS => ?_)
  obtain ⟨rfl, hq⟩ := hp
  have hq := hq.symm
  subst hq
  refine W.eq (g2 := F0 m 7 ls [.int (zI (decide (L.length = 0)))]) rfl ?_
  refine lv_if_eq (tgt := 16) hx hb dd_Rs_answer_7 (by decide) (fun h7 => ?_) (fun h7 => ?_)
  ·
    refine lv_aload_n hx hb dd_Rs_answer_16 rfl (lv_at hl 0 rfl) ?_
    refine gf_Rs_12 E hM wd rfl dd_Rs_answer_17 ?_
    refine mw_V (As := []) (rest := []) E (la_size (k := L.length) l D z (M) hcl (rfl)) ky_AL_size kv_AL_size tw_Rs_26 hM hS wc rfl rfl rfl hl.1 rfl (Nat.le_of_ble_eq_true rfl) dd_Rs_answer_20 (by first | decide | exact ⟨by dsimp only; omega, by dsimp only; omega⟩) (by decide) (fun v M1 H locs hp hM hS => ?_)
    obtain ⟨rfl, hq⟩ := hp
    have hq := hq.symm
    subst hq
    refine W.eq (g2 := F0 m 23 ls [.int (nI L.length)]) rfl ?_
    refine mr_i E hr hk hM hS (by decide) (by decide) ?_ dd_Rs_answer_23
    exact ⟨by rw [if_neg (of_decide_eq_false (zI_0.mp h7))], rfl⟩
  ·
    refine lv_sipush (v := -1004) hx hb dd_Rs_answer_10 (by decide) ?_
    refine lv_goto (tgt := 23) hx hb dd_Rs_answer_13 (by decide) ?_
    refine mr_i E hr hk hM hS (by decide) (by decide) ?_ dd_Rs_answer_23
    exact ⟨by rw [if_pos (of_decide_eq_true (Bool.of_not_eq_false (fun q => h7 (zI_0.mpr q))))], rfl⟩
theorem cc_Rs_certificate (l : Launch) (D : va_G) (z : Nat) (M : mw_M) (d cl cr : Nat) (r_f r_e r_g : Int32) (ss : List Nat) (i n : Nat) (EF CF : Nat → Nat → Int32) (ent ca ce : Nat → Nat) (wd : M d = some (.inr (5, [.ref cl, .int (r_f), .int (r_e), .int (r_g)]))) (hcl : al_at D M cl cr (ss.map ca)) (hi : ss[i]? = some n) (hn : ct_is M EF CF ent ca ce n) : mw_C l yy_Rs_certificate bb_Rs_certificate 2 (Option.some (Jvm.ClassFile.FieldType.object "IdentityIssuer$Certificate")) 3 64 0 0 D z M [.ref d, .int (nI i)] (fun v M' => v = some (.ref (ca n)) ∧ M' = M) := by
  refine mw_of (by decide) (Nat.le_of_ble_eq_true rfl) ?_
  intro p e s m below meth c ls E hr hk hnm hM hl
  have hx := E.x
  have hb := E.b
  have E : mw_E p m c bb_Rs_certificate 2 s _ D z "IdentityIssuer$Response" := E
  have hl : lv_has ls 2 [(0, .ref d), (1, .int (nI i))] := hl
  have hS : va_S (mw_A z) s.heap s.heap [] := va_S.rf
  obtain ⟨mo, wc⟩ := hcl.cell
  refine lv_aload_n hx hb dd_Rs_certificate_0 rfl (lv_at hl 0 rfl) ?_
  refine gf_Rs_12 E hM wd rfl dd_Rs_certificate_1 ?_
  refine lv_iload_n hx hb dd_Rs_certificate_4 rfl (lv_at hl 1 rfl) ?_
  refine mw_V (As := [.int (nI i)]) (rest := []) E (la_get (y := ca n) l D z (M) hcl (ls_map hi)) ky_AL_get kv_AL_get tw_Rs_30 hM hS wc rfl rfl rfl hl.1 rfl (Nat.le_of_ble_eq_true rfl) dd_Rs_certificate_5 (by first | decide | exact ⟨by dsimp only; omega, by dsimp only; omega⟩) (by decide) (fun v M1 H locs hp hM hS => ?_)
  obtain ⟨rfl, hq⟩ := hp
  have hq := hq.symm
  subst hq
  have wn : M (ca n) = some (.inr (11, [.ref (ent (ce n)), .int (nI n), .int (CF n 2), .int (CF n 3), .int (CF n 4)])) := (hn).1
  have we : M (ent (ce n)) = some (.inr (9, [.int (EF (ce n) 0), .int (EF (ce n) 1), .int (EF (ce n) 2), .int (EF (ce n) 3), .int (EF (ce n) 4), .int (EF (ce n) 5)])) := (hn).2
  refine W.eq (g2 := F0 m 8 ls [.ref (ca n)]) rfl ?_
  refine va_castY (C := "IdentityIssuer$Certificate") hx hb E.o (E.t _ tw_Rs_34) (E.N.2.2.1 ("IdentityIssuer$Certificate", "IdentityIssuer$Certificate") (by decide)) (mw_recv E.K hM rfl wn) dd_Rs_certificate_8 ?_
  refine mr_a E hr hk (Or.inl ⟨_, rfl⟩) (Or.inr ⟨_, rfl⟩) hM hS (by decide) (by decide) ?_ dd_Rs_certificate_11
  exact ⟨rfl, rfl⟩
theorem cc_Ag_fresh (l : Launch) (D : va_G) (z : Nat) (M : mw_M) (d x kl kr : Nat) (a_i a_s a_f a_e a_g : Int32) (e_n e_i e_p e_s e_t e_f clk : Int32) (ss : List Nat) (EF CF : Nat → Nat → Int32) (ent ca ce : Nat → Nat) (wd : M d = some (.inr (10, [.int (a_i), .ref kl, .int (a_s), .int (a_f), .int (a_e), .int (a_g)]))) (wx : M x = some (.inr (9, [.int (e_n), .int (e_i), .int (e_p), .int (e_s), .int (e_t), .int (e_f)]))) (hkl : al_at D M kl kr (ss.map ca)) (hss : ∀ n : Nat, n ∈ ss → ct_is M EF CF ent ca ce n) (hln : ss.length ≤ 15) : mw_C l yy_Ag_fresh bb_Ag_fresh 5 (Option.some (Jvm.ClassFile.FieldType.object "IdentityIssuer$Certificate")) 3 64 0 0 D z M [.ref d, .ref x, .int (clk)] (fun v M' => v = some (match ss.find? (fh_p EF CF ce e_n clk) with | some n => .ref (ca n) | none => .null) ∧ M' = M) := by
  refine mw_of (by decide) (Nat.le_of_ble_eq_true rfl) ?_
  intro p e s m below meth c ls E hr hk hnm hM hl
  have hx := E.x
  have hb := E.b
  have E : mw_E p m c bb_Ag_fresh 5 s _ D z "IdentityIssuer$Agent" := E
  have hl : lv_has ls 5 [(0, .ref d), (1, .ref x), (2, .int (clk))] := hl
  have hS : va_S (mw_A z) s.heap s.heap [] := va_S.rf
  obtain ⟨mo, wk⟩ := hkl.cell
  refine lv_iconst (v := nI 0) hx hb dd_Ag_fresh_0 (by decide) ?_
  refine lv_istore_n (lv' := [(3, .int (nI 0)), (0, .ref d), (1, .ref x), (2, .int (clk))]) hx hb dd_Ag_fresh_1 rfl hl (by decide) rfl (fun ls hl => ?_)
  have loop2 : ∀ (d9 : Nat) (i : Nat) (H : Heap) (locs : List Loc) (ls : Array Slot), i + d9 = ss.length → ss.find? (fh_p EF CF ce e_n clk) = (ss.drop i).find? (fh_p EF CF ce e_n clk) → mw_at D mg_cl z M H → va_S (mw_A z) s.heap H locs → lv_has ls 5 [(3, .int (nI i)), (0, .ref d), (1, .ref x), (2, .int (clk))] → W p l e ({ frames := 3, cells := 0, slots := 0, locals := 64 } : Room) s m ([.ref d, .ref x, .int (clk)] : List Value).toArray below meth c H locs (0) (0) (MQ below (mw_Q D z (fun v M' => v = some (match ss.find? (fh_p EF CF ce e_n clk) with | some n => .ref (ca n) | none => .null) ∧ M' = M)) ([.ref d, .ref x, .int (clk)] : List Value).toArray s 0 0 (mw_A z)) (F0 m 2 ls []) := by
    intro d9
    induction d9 with
    | zero =>
      intro i H locs ls hi hu hM hS hl
      refine lv_iload_n hx hb dd_Ag_fresh_2 rfl (lv_at hl 0 rfl) ?_
      refine lv_aload_n hx hb dd_Ag_fresh_3 rfl (lv_at hl 1 rfl) ?_
      refine gf_Ag_10 E hM wd rfl dd_Ag_fresh_4 ?_
      refine mw_V (As := []) (rest := [.int (nI i)]) E (la_size (k := ss.length) l D z (M) hkl (List.length_map _)) ky_AL_size kv_AL_size tw_Ag_30 hM hS wk rfl rfl rfl hl.1 rfl (Nat.le_of_ble_eq_true rfl) dd_Ag_fresh_7 (by first | decide | exact ⟨by dsimp only; omega, by dsimp only; omega⟩) (by decide) (fun v M1 H locs hp hM hS => ?_)
      obtain ⟨rfl, hq⟩ := hp
      have hq := hq.symm
      subst hq
      refine W.eq (g2 := F0 m 10 ls [.int (nI ss.length), .int (nI i)]) rfl ?_
      refine lv_icmp_ge (tgt := 67) hx hb dd_Ag_fresh_10 (by decide) (fun h10 => ?_) (fun h10 => ?_)
      ·
        rw [nI_leI (by omega) (by omega)] at h10
        refine lv_null hx hb dd_Ag_fresh_67 ?_
        refine mr_a E hr hk (Or.inl ⟨_, rfl⟩) (Or.inl rfl) hM hS (by decide) (by decide) ?_ dd_Ag_fresh_68
        exact ⟨by rw [ls_none (by omega) hu], rfl⟩
      ·
        rw [nI_leI (by omega) (by omega)] at h10
        omega
    | succ d9 ih =>
      intro i H locs ls hi hu hM hS hl
      refine lv_iload_n hx hb dd_Ag_fresh_2 rfl (lv_at hl 0 rfl) ?_
      refine lv_aload_n hx hb dd_Ag_fresh_3 rfl (lv_at hl 1 rfl) ?_
      refine gf_Ag_10 E hM wd rfl dd_Ag_fresh_4 ?_
      refine mw_V (As := []) (rest := [.int (nI i)]) E (la_size (k := ss.length) l D z (M) hkl (List.length_map _)) ky_AL_size kv_AL_size tw_Ag_30 hM hS wk rfl rfl rfl hl.1 rfl (Nat.le_of_ble_eq_true rfl) dd_Ag_fresh_7 (by first | decide | exact ⟨by dsimp only; omega, by dsimp only; omega⟩) (by decide) (fun v M1 H locs hp hM hS => ?_)
      obtain ⟨rfl, hq⟩ := hp
      have hq := hq.symm
      subst hq
      refine W.eq (g2 := F0 m 10 ls [.int (nI ss.length), .int (nI i)]) rfl ?_
      refine lv_icmp_ge (tgt := 67) hx hb dd_Ag_fresh_10 (by decide) (fun h10 => ?_) (fun h10 => ?_)
      ·
        rw [nI_leI (by omega) (by omega)] at h10
        omega
      ·
        rw [nI_leI (by omega) (by omega)] at h10
        refine lv_aload_n hx hb dd_Ag_fresh_13 rfl (lv_at hl 1 rfl) ?_
        refine gf_Ag_10 E hM wd rfl dd_Ag_fresh_14 ?_
        refine lv_iload_n hx hb dd_Ag_fresh_17 rfl (lv_at hl 0 rfl) ?_
        obtain ⟨sn, hs⟩ : ∃ sn, ss[i]? = some sn := ⟨_, List.getElem?_eq_getElem (by omega)⟩
        refine mw_V (As := [.int (nI i)]) (rest := []) E (la_get (y := ca sn) l D z (M) hkl (ls_map hs)) ky_AL_get kv_AL_get tw_Ag_34 hM hS wk rfl rfl rfl hl.1 rfl (Nat.le_of_ble_eq_true rfl) dd_Ag_fresh_18 (by first | decide | exact ⟨by dsimp only; omega, by dsimp only; omega⟩) (by decide) (fun v M1 H locs hp hM hS => ?_)
        obtain ⟨rfl, hq⟩ := hp
        have hq := hq.symm
        subst hq
        have wn : M (ca sn) = some (.inr (11, [.ref (ent (ce sn)), .int (nI sn), .int (CF sn 2), .int (CF sn 3), .int (CF sn 4)])) := (hss sn (List.mem_of_getElem? hs)).1
        have we : M (ent (ce sn)) = some (.inr (9, [.int (EF (ce sn) 0), .int (EF (ce sn) 1), .int (EF (ce sn) 2), .int (EF (ce sn) 3), .int (EF (ce sn) 4), .int (EF (ce sn) 5)])) := (hss sn (List.mem_of_getElem? hs)).2
        refine W.eq (g2 := F0 m 21 ls [.ref (ca sn)]) rfl ?_
        refine va_castY (C := "IdentityIssuer$Certificate") hx hb E.o (E.t _ tw_Ag_38) (E.N.2.2.1 ("IdentityIssuer$Certificate", "IdentityIssuer$Certificate") (by decide)) (mw_recv E.K hM rfl wn) dd_Ag_fresh_21 ?_
        refine lv_astore (lv' := [(4, .ref (ca sn)), (3, .int (nI i)), (0, .ref d), (1, .ref x), (2, .int (clk))]) hx hb dd_Ag_fresh_24 hl (by decide) rfl (fun ls hl => ?_)
        refine lv_aload hx hb dd_Ag_fresh_26 (lv_at hl 0 rfl) ?_
        refine gf_Ag_53 E hM wn rfl dd_Ag_fresh_28 ?_
        refine gf_Ag_57 E hM we rfl dd_Ag_fresh_31 ?_
        refine lv_aload_n hx hb dd_Ag_fresh_34 rfl (lv_at hl 3 rfl) ?_
        refine gf_Ag_57 E hM wx rfl dd_Ag_fresh_35 ?_
        refine lv_icmp_ne (tgt := 61) hx hb dd_Ag_fresh_38 (by decide) (fun h38 => ?_) (fun h38 => ?_)
        ·
          refine lv_iinc (k := 1) (v := nI (i + 1)) (lv' := [(3, .int (nI (i + 1))), (4, .ref (ca sn)), (0, .ref d), (1, .ref x), (2, .int (clk))]) hx hb dd_Ag_fresh_61 hl rfl (nI_1 _) (by decide) rfl (fun ls hl => ?_)
          refine lv_goto (tgt := 2) hx hb dd_Ag_fresh_64 (by decide) ?_
          exact ih (i + 1) H locs ls (by omega) (ls_find hs (by unfold fh_p; rw [decide_eq_false h38]; rfl) hu) hM hS (lv_sub hl [0, 2, 3, 4] rfl)
        ·
          refine lv_iconst (v := nI 2) hx hb dd_Ag_fresh_41 (by decide) ?_
          refine lv_iload_n hx hb dd_Ag_fresh_42 rfl (lv_at hl 4 rfl) ?_
          refine lv_imul hx hb dd_Ag_fresh_43 ?_
          refine lv_aload hx hb dd_Ag_fresh_44 (lv_at hl 0 rfl) ?_
          refine gf_Ag_62 E hM wn rfl dd_Ag_fresh_46 ?_
          refine lv_aload hx hb dd_Ag_fresh_49 (lv_at hl 0 rfl) ?_
          refine gf_Ag_65 E hM wn rfl dd_Ag_fresh_51 ?_
          refine lv_iadd hx hb dd_Ag_fresh_54 ?_
          refine lv_icmp_ge (tgt := 61) hx hb dd_Ag_fresh_55 (by decide) (fun h55 => ?_) (fun h55 => ?_)
          ·
            refine lv_iinc (k := 1) (v := nI (i + 1)) (lv' := [(3, .int (nI (i + 1))), (4, .ref (ca sn)), (0, .ref d), (1, .ref x), (2, .int (clk))]) hx hb dd_Ag_fresh_61 hl rfl (nI_1 _) (by decide) rfl (fun ls hl => ?_)
            refine lv_goto (tgt := 2) hx hb dd_Ag_fresh_64 (by decide) ?_
            exact ih (i + 1) H locs ls (by omega) (ls_find hs (by unfold fh_p; rw [decide_eq_false (fun q => Int32.not_lt.mpr h55 q)]; exact Bool.and_false _) hu) hM hS (lv_sub hl [0, 2, 3, 4] rfl)
          ·
            refine lv_aload hx hb dd_Ag_fresh_58 (lv_at hl 0 rfl) ?_
            refine mr_a E hr hk (Or.inl ⟨_, rfl⟩) (Or.inr ⟨_, rfl⟩) hM hS (by decide) (by decide) ?_ dd_Ag_fresh_60
            exact ⟨by rw [ls_found hs (by unfold fh_p; rw [decide_eq_true h38, decide_eq_true (Int32.not_le.mp h55)]; rfl) hu], rfl⟩
  exact loop2 ss.length 0 s.heap [] ls (by omega) rfl hM hS (lv_sub hl [0, 1, 2, 3] rfl)
theorem cc_Ag_keepCertificates (l : Launch) (D : va_G) (z : Nat) (M : mw_M) (d kl kr rl r0 : Nat) (a_i a_s a_f a_e a_g : Int32) (L0 ss : List Nat) (EF CF : Nat → Nat → Int32) (ent ca ce : Nat → Nat) (wd : M d = some (.inr (10, [.int (a_i), .ref kl, .int (a_s), .int (a_f), .int (a_e), .int (a_g)]))) (hkl : al_at D M kl kr L0) (hrl : al_at D M rl r0 (ss.map ca)) (hss : ∀ n : Nat, n ∈ ss → ct_is M EF CF ent ca ce n) (hln : ss.length ≤ 12) (hne : kl ≠ rl) (hrr : r0 = kr → r0 = D.2 200 0) : mw_C l yy_Ag_keepCertificates bb_Ag_keepCertificates 3 (Option.none : Option Jvm.ClassFile.FieldType) 7 157 12 180 D z M [.ref d, .ref rl] (fun v M' => v = none ∧ ∃ k1, al_at D M' kl k1 (ss.map ca) ∧ mw_fr (fun q => q = kl ∨ q = kr) M M' ∧ (k1 = kr ∨ M k1 = none)) := by
  refine mw_of (by decide) (Nat.le_of_ble_eq_true rfl) ?_
  intro p e s m below meth c ls E hr hk hnm hM hl
  have hx := E.x
  have hb := E.b
  have E : mw_E p m c bb_Ag_keepCertificates 3 s _ D z "IdentityIssuer$Agent" := E
  have hl : lv_has ls 3 [(0, .ref d), (1, .ref rl)] := hl
  have hS : va_S (mw_A z) s.heap s.heap [] := va_S.rf
  have hF : mw_fr (fun q => q = kl ∨ q = kr) M M := mw_fr.rf
  obtain ⟨mo1, wk⟩ := hkl.cell
  obtain ⟨mo2, wr⟩ := hrl.cell
  refine lv_aload_n hx hb dd_Ag_keepCertificates_0 rfl (lv_at hl 0 rfl) ?_
  refine gf_Ag_10 E hM wd rfl dd_Ag_keepCertificates_1 ?_
  refine mw_V (As := []) (rest := []) E (la_clear l D z (M) hkl) ky_AL_clear kv_AL_clear tw_Ag_23 hM hS wk rfl rfl rfl hl.1 rfl (Nat.le_of_ble_eq_true rfl) dd_Ag_keepCertificates_4 (by first | decide | exact ⟨by dsimp only; omega, by dsimp only; omega⟩) (by decide) (fun v M1 H locs hp hM hS => ?_)
  obtain ⟨rfl, hL2, hF2⟩ := hp
  have hrl := hrl.fr hL2.1 hF2 (fun q => q.elim (Ne.symm hne) (hkl.nr wr)) (fun y => (fun q => q.elim (hrl.nr wk).symm (fun q => y (hrl.zr (hrr q)))))
  have hss := fun n hn => (hss n hn).fr hF2 (fun q9 ci vs w0 hc => (fun q => q.elim (mw_ne w0 wk (fun e9 => by cases e9; exact absurd hc (by decide))) (hkl.nr w0)))
  have wd := hF2.at wd (fun q => q.elim (mw_ne wd wk (fun q => by cases q)) (hkl.nr wd))
  have wr := hF2.at wr (fun q => q.elim (Ne.symm hne) (hkl.nr wr))
  have hkl := hL2
  obtain ⟨mo9, wk⟩ := hkl.cell
  have hF := hF.tr2 hF2 (fun q h => Or.inl (h))
  refine W.eq (g2 := F0 m 7 ls []) rfl ?_
  refine lv_iconst (v := nI 0) hx hb dd_Ag_keepCertificates_7 (by decide) ?_
  refine lv_istore_n (lv' := [(2, .int (nI 0)), (0, .ref d), (1, .ref rl)]) hx hb dd_Ag_keepCertificates_8 rfl hl (by decide) rfl (fun ls hl => ?_)
  have loop9 : ∀ (d9 : Nat) (i k1 : Nat) (M1 : mw_M) (H : Heap) (locs : List Loc) (ls : Array Slot), i + d9 = ss.length → al_at D M1 kl k1 ((ss.take i).map ca) → al_at D M1 rl r0 (ss.map ca) → M1 d = some (.inr (10, [.int (a_i), .ref kl, .int (a_s), .int (a_f), .int (a_e), .int (a_g)])) → (∀ n : Nat, n ∈ ss → ct_is M1 EF CF ent ca ce n) → mw_fr (fun q => q = kl ∨ q = kr) M M1 → (k1 = kr ∨ M k1 = none) → (r0 = k1 → r0 = D.2 200 0) → mw_at D mg_cl z M1 H → va_S (mw_A z) s.heap H locs → lv_has ls 3 [(2, .int (nI i)), (0, .ref d), (1, .ref rl)] → W p l e ({ frames := 7, cells := 12, slots := 180, locals := 157 } : Room) s m ([.ref d, .ref rl] : List Value).toArray below meth c H locs (i) (15 * i) (MQ below (mw_Q D z (fun v M' => v = none ∧ ∃ k1, al_at D M' kl k1 (ss.map ca) ∧ mw_fr (fun q => q = kl ∨ q = kr) M M' ∧ (k1 = kr ∨ M k1 = none))) ([.ref d, .ref rl] : List Value).toArray s 12 180 (mw_A z)) (F0 m 9 ls []) := by
    intro d9
    induction d9 with
    | zero =>
      intro i k1 M1 H locs ls hi hkl hrl wd hss hF har hrr hM hS hl
      obtain ⟨mo1, wk⟩ := hkl.cell
      obtain ⟨mo2, wr⟩ := hrl.cell
      refine lv_iload_n hx hb dd_Ag_keepCertificates_9 rfl (lv_at hl 0 rfl) ?_
      refine lv_aload_n hx hb dd_Ag_keepCertificates_10 rfl (lv_at hl 2 rfl) ?_
      refine mw_V (As := []) (rest := [.int (nI i)]) E (la_size (k := ss.length) l D z (M1) hrl (List.length_map _)) ky_AL_size kv_AL_size tw_Ag_30 hM hS wr rfl rfl rfl hl.1 rfl (Nat.le_of_ble_eq_true rfl) dd_Ag_keepCertificates_11 (by first | decide | exact ⟨by dsimp only; omega, by dsimp only; omega⟩) (by decide) (fun v M1 H locs hp hM hS => ?_)
      obtain ⟨rfl, hq⟩ := hp
      have hq := hq.symm
      subst hq
      refine W.eq (g2 := F0 m 14 ls [.int (nI ss.length), .int (nI i)]) rfl ?_
      refine lv_icmp_ge (tgt := 39) hx hb dd_Ag_keepCertificates_14 (by decide) (fun h14 => ?_) (fun h14 => ?_)
      ·
        rw [nI_leI (by omega) (by omega)] at h14
        refine mr_v E hr hk hM hS (by omega) (by omega) ?_ dd_Ag_keepCertificates_39
        rw [show i = ss.length by omega, List.take_length] at hkl
        exact ⟨rfl, k1, hkl, hF, har⟩
      ·
        rw [nI_leI (by omega) (by omega)] at h14
        omega
    | succ d9 ih =>
      intro i k1 M1 H locs ls hi hkl hrl wd hss hF har hrr hM hS hl
      obtain ⟨mo1, wk⟩ := hkl.cell
      obtain ⟨mo2, wr⟩ := hrl.cell
      refine lv_iload_n hx hb dd_Ag_keepCertificates_9 rfl (lv_at hl 0 rfl) ?_
      refine lv_aload_n hx hb dd_Ag_keepCertificates_10 rfl (lv_at hl 2 rfl) ?_
      refine mw_V (As := []) (rest := [.int (nI i)]) E (la_size (k := ss.length) l D z (M1) hrl (List.length_map _)) ky_AL_size kv_AL_size tw_Ag_30 hM hS wr rfl rfl rfl hl.1 rfl (Nat.le_of_ble_eq_true rfl) dd_Ag_keepCertificates_11 (by first | decide | exact ⟨by dsimp only; omega, by dsimp only; omega⟩) (by decide) (fun v M1 H locs hp hM hS => ?_)
      obtain ⟨rfl, hq⟩ := hp
      have hq := hq.symm
      subst hq
      refine W.eq (g2 := F0 m 14 ls [.int (nI ss.length), .int (nI i)]) rfl ?_
      refine lv_icmp_ge (tgt := 39) hx hb dd_Ag_keepCertificates_14 (by decide) (fun h14 => ?_) (fun h14 => ?_)
      ·
        rw [nI_leI (by omega) (by omega)] at h14
        omega
      ·
        rw [nI_leI (by omega) (by omega)] at h14
        refine lv_aload_n hx hb dd_Ag_keepCertificates_17 rfl (lv_at hl 1 rfl) ?_
        refine gf_Ag_10 E hM wd rfl dd_Ag_keepCertificates_18 ?_
        refine lv_aload_n hx hb dd_Ag_keepCertificates_21 rfl (lv_at hl 2 rfl) ?_
        refine lv_iload_n hx hb dd_Ag_keepCertificates_22 rfl (lv_at hl 0 rfl) ?_
        obtain ⟨sn, hs⟩ : ∃ sn, ss[i]? = some sn := ⟨_, List.getElem?_eq_getElem (by omega)⟩
        refine mw_V (As := [.int (nI i)]) (rest := [.ref kl]) E (la_get (y := ca sn) l D z (M1) hrl (ls_map hs)) ky_AL_get kv_AL_get tw_Ag_34 hM hS wr rfl rfl rfl hl.1 rfl (Nat.le_of_ble_eq_true rfl) dd_Ag_keepCertificates_23 (by first | decide | exact ⟨by dsimp only; omega, by dsimp only; omega⟩) (by decide) (fun v M1 H locs hp hM hS => ?_)
        obtain ⟨rfl, hq⟩ := hp
        have hq := hq.symm
        subst hq
        have wn : M1 (ca sn) = some (.inr (11, [.ref (ent (ce sn)), .int (nI sn), .int (CF sn 2), .int (CF sn 3), .int (CF sn 4)])) := (hss sn (List.mem_of_getElem? hs)).1
        have we : M1 (ent (ce sn)) = some (.inr (9, [.int (EF (ce sn) 0), .int (EF (ce sn) 1), .int (EF (ce sn) 2), .int (EF (ce sn) 3), .int (EF (ce sn) 4), .int (EF (ce sn) 5)])) := (hss sn (List.mem_of_getElem? hs)).2
        refine W.eq (g2 := F0 m 26 ls [.ref (ca sn), .ref kl]) rfl ?_
        refine va_castY (C := "IdentityIssuer$Certificate") hx hb E.o (E.t _ tw_Ag_38) (E.N.2.2.1 ("IdentityIssuer$Certificate", "IdentityIssuer$Certificate") (by decide)) (mw_recv E.K hM rfl wn) dd_Ag_keepCertificates_26 ?_
        refine mw_V (As := [.ref (ca sn)]) (rest := []) E (la_add (y := ca sn) l D z (M1) hkl (by rw [List.length_map, List.length_take]; omega) (ct_els (fun n hn => hss n (List.mem_of_mem_take hn))) wn rfl (by decide +kernel) (by decide)) ky_AL_add kv_AL_add tw_Ag_40 hM hS wk rfl rfl rfl hl.1 rfl (Nat.le_of_ble_eq_true rfl) dd_Ag_keepCertificates_29 (⟨(by omega : i + 1 ≤ 12), (by omega : 15 * i + 15 ≤ 180)⟩) (by decide) (fun v M1 H locs hp hM hS => ?_)
        obtain ⟨rfl, k2, hL2, hF2, har2⟩ := hp
        have hr9_0 := row_new hrl har2 hrr
        have hrl := hrl.fr hL2.1 hF2 (fun q => q.elim (Ne.symm hne) (hkl.nr wr)) (fun y => (fun q => q.elim (hrl.nr wk).symm (fun q => y (hrl.zr (hrr q)))))
        have hss := fun n hn => (hss n hn).fr hF2 (fun q9 ci vs w0 hc => (fun q => q.elim (mw_ne w0 wk (fun e9 => by cases e9; exact absurd hc (by decide))) (hkl.nr w0)))
        have wd := hF2.at wd (fun q => q.elim (mw_ne wd wk (fun q => by cases q)) (hkl.nr wd))
        have wr := hF2.at wr (fun q => q.elim (Ne.symm hne) (hkl.nr wr))
        have wn := hF2.at wn (fun q => q.elim (mw_ne wn wk (fun q => by cases q)) (hkl.nr wn))
        have we := hF2.at we (fun q => q.elim (mw_ne we wk (fun q => by cases q)) (hkl.nr we))
        have hrr := hr9_0
        have hkl := hL2
        rw [show (ss.take i).map ca ++ [ca sn] = (ss.take (i + 1)).map ca by rw [ls_take hs, List.map_append]; rfl] at hkl
        obtain ⟨mo9, wk⟩ := hkl.cell
        have har3 := row_tr hF har har2
        have hF := hF.tr2 hF2 (fun q h => h.elim (fun e => Or.inl (Or.inl e)) (fun e => har.elim (fun e1 => Or.inl (Or.inr (e.trans e1))) (fun y => Or.inr (by rw [e]; exact y))))
        have har := har3
        refine W.eq (g2 := F0 m 32 ls [.int (1)]) rfl ?_
        refine lv_pop hx hb dd_Ag_keepCertificates_32 rfl ?_
        refine lv_iinc (k := 0) (v := nI (i + 1)) (lv' := [(2, .int (nI (i + 1))), (0, .ref d), (1, .ref rl)]) hx hb dd_Ag_keepCertificates_33 hl rfl (nI_1 _) (by decide) rfl (fun ls hl => ?_)
        refine lv_goto (tgt := 9) hx hb dd_Ag_keepCertificates_36 (by decide) ?_
        refine W.widen (k := i + 1) (n := 15 * (i + 1)) (by omega) (by omega) ?_
        exact ih (i + 1) _ M1 H locs ls (by omega) hkl hrl wd hss hF har hrr hM hS (lv_sub hl [0, 1, 2] rfl)
  exact loop9 ss.length 0 kr M1 H locs ls (by omega) hkl hrl wd hss hF (Or.inl rfl) hrr hM hS (lv_sub hl [0, 1, 2] rfl)
theorem cc_Ag_attestAgain (l : Launch) (D : va_G) (z : Nat) (M : mw_M) (d kl kr : Nat) (a_i a_s a_f a_e a_g : Int32) (s0 : Int32) (L0 : List Nat) (wd : M d = some (.inr (10, [.int (a_i), .ref kl, .int (a_s), .int (a_f), .int (a_e), .int (a_g)]))) (hkl : al_at D M kl kr L0) : mw_C l yy_Ag_attestAgain bb_Ag_attestAgain 2 (Option.none : Option Jvm.ClassFile.FieldType) 1 23 0 0 D z M [.ref d, .int (s0)] (fun v M' => v = none ∧ M' d = some (.inr (10, [.int (a_i), .ref kl, .int (s0), .int (nI 0), .int (nI 0), .int (nI 0)])) ∧ al_at D M' kl kr [] ∧ mw_fr (fun q => q = d ∨ q = kl ∨ q = kr) M M') := by
  refine mw_of (by decide) (Nat.le_of_ble_eq_true rfl) ?_
  intro p e s m below meth c ls E hr hk hnm hM hl
  have hx := E.x
  have hb := E.b
  have E : mw_E p m c bb_Ag_attestAgain 2 s _ D z "IdentityIssuer$Agent" := E
  have hl : lv_has ls 2 [(0, .ref d), (1, .int (s0))] := hl
  have hS : va_S (mw_A z) s.heap s.heap [] := va_S.rf
  have hF : mw_fr (fun q => q = d ∨ q = kl ∨ q = kr) M M := mw_fr.rf
  obtain ⟨mo1, wk⟩ := hkl.cell
  refine lv_aload_n hx hb dd_Ag_attestAgain_0 rfl (lv_at hl 0 rfl) ?_
  refine lv_iload_n hx hb dd_Ag_attestAgain_1 rfl (lv_at hl 1 rfl) ?_
  refine pf_Ag_20 E hM hS wd (Nat.le_of_ble_eq_true rfl) dd_Ag_attestAgain_2 (fun H locs hM hS => ?_)
  have hM : mw_at D mg_cl z (va_up M d (some (.inr (10, [.int (a_i), .ref kl, .int (s0), .int (a_f), .int (a_e), .int (a_g)])))) H := hM
  obtain ⟨M1, hM1⟩ : ∃ M9 : mw_M, M9 = va_up M d (some (.inr (10, [.int (a_i), .ref kl, .int (s0), .int (a_f), .int (a_e), .int (a_g)]))) := ⟨_, rfl⟩
  rw [← hM1] at hM
  have hkl := hkl.up hM1 wd (mw_ne wd wk (fun q => by cases q))
  have wk := mw_uu hM1 wk (mw_ne wk wd (fun q => by cases q))
  have wd := mw_us hM1
  have hF := mw_fu hM1 hF (Or.inl rfl)
  refine lv_aload_n hx hb dd_Ag_attestAgain_5 rfl (lv_at hl 0 rfl) ?_
  refine gf_Ag_10 E hM wd rfl dd_Ag_attestAgain_6 ?_
  refine mw_V (As := []) (rest := []) E (la_clear l D z (M1) hkl) ky_AL_clear kv_AL_clear tw_Ag_23 hM hS wk rfl rfl rfl hl.1 rfl (Nat.le_of_ble_eq_true rfl) dd_Ag_attestAgain_9 (by first | decide | exact ⟨by dsimp only; omega, by dsimp only; omega⟩) (by decide) (fun v M1 H locs hp hM hS => ?_)
  obtain ⟨rfl, hL2, hF2⟩ := hp
  have wd := hF2.at wd (fun q => q.elim (mw_ne wd wk (fun q => by cases q)) (hkl.nr wd))
  have hkl := hL2
  obtain ⟨mo9, wk⟩ := hkl.cell
  have hF := hF.tr2 hF2 (fun q h => Or.inl (Or.inr h))
  refine W.eq (g2 := F0 m 12 ls []) rfl ?_
  refine lv_aload_n hx hb dd_Ag_attestAgain_12 rfl (lv_at hl 0 rfl) ?_
  refine lv_iconst (v := nI 0) hx hb dd_Ag_attestAgain_13 (by decide) ?_
  refine lv_iconst (v := nI 0) hx hb dd_Ag_attestAgain_14 (by decide) ?_
  refine lv_iconst (v := nI 0) hx hb dd_Ag_attestAgain_15 (by decide) ?_
  refine mw_V (As := [.int (nI 0), .int (nI 0), .int (nI 0)]) (rest := []) E (cc_Ag_keepBundles l D z (M1) d kl a_i s0 a_f a_e a_g (nI 0) (nI 0) (nI 0) wd) ky_Ag_keepBundles kv_Ag_keepBundles tw_Ag_26 hM hS wd rfl rfl rfl hl.1 rfl (Nat.le_of_ble_eq_true rfl) dd_Ag_attestAgain_16 (by first | decide | exact ⟨by dsimp only; omega, by dsimp only; omega⟩) (by decide) (fun v M1 H locs hp hM hS => ?_)
  obtain ⟨rfl, wd2, hF2⟩ := hp
  have hkl := hkl.fr (mw_st0 (mw_stZ E.Z) hM) hF2 (mw_ne wk wd (fun q => by cases q)) (fun y => (hkl.nr wd).symm)
  have wk := hF2.at wk (mw_ne wk wd (fun q => by cases q))
  have wd := wd2
  have hF := hF.tr2 hF2 (fun q h => Or.inl (Or.inl h))
  refine W.eq (g2 := F0 m 19 ls []) rfl ?_
  refine mr_v E hr hk hM hS (by decide) (by decide) ?_ dd_Ag_attestAgain_19
  exact ⟨rfl, wd, hkl, hF⟩
