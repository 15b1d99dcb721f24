/-! the reference: sync -/
theorem mq_ss_s (A : Nat → Nat → Int32) (a n : Nat) : mq_ss A a (n + 1) = mq_ss A a n ++ (if mq_k A a n = true then [mq_sr A a n] else []) := by
  unfold mq_ss
  rw [List.range_succ, List.filter_append, List.map_append]
  congr 1
  by_cases hk : mq_k A a n = true
  · rw [List.filter_cons_of_pos hk, if_pos hk]
    rfl
  · rw [List.filter_cons_of_neg hk, if_neg hk]
    rfl
theorem mq_ss_c {A A1 : Nat → Nat → Int32} {a : Nat} (n : Nat) (h : ∀ e : Nat, e < n → A1 26 (60 * a + e) = A 26 (60 * a + e)) : mq_ss A1 a n = mq_ss A a n := by
  unfold mq_ss
  have h1 : (List.range n).filter (mq_k A1 a) = (List.range n).filter (mq_k A a) := List.filter_congr (fun e he => by
    unfold mq_k
    rw [h e (List.mem_range.mp he)])
  rw [h1]
  exact List.map_congr_left (fun e he => by
    unfold mq_sr
    rw [h e (List.mem_range.mp (List.mem_filter.mp he).1)])
theorem up_up {f : Nat → Int32} {k : Nat} {x y : Int32} : upd (upd f k x) k y = upd f k y := by
  funext j
  by_cases e : j = k
  · rw [e, up_s, up_s]
  · rw [up_n e, up_n e, up_n e]
theorem mq_kT {A : Nat → Nat → Int32} {a e : Nat} (h : A 26 (60 * a + e) ≠ 0) : mq_k A a e = true := by unfold mq_k; rw [decide_eq_false h]; rfl
theorem mq_kF {A : Nat → Nat → Int32} {a e : Nat} (h : A 26 (60 * a + e) = 0) : mq_k A a e = false := by unfold mq_k; rw [decide_eq_true h]; rfl
theorem mq_lk_c {A A1 : Nat → Nat → Int32} {a e : Nat} {c : Int32} (h1 : A1 26 (60 * a + e) = A 26 (60 * a + e)) (h2 : A1 28 (60 * a + e) = A 28 (60 * a + e)) (h3 : A1 29 (60 * a + e) = A 29 (60 * a + e)) : mq_lk A1 c a e = mq_lk A c a e := by
  unfold mq_lk
  rw [h1, h2, h3]
theorem mq_lkF {A : Nat → Nat → Int32} {a e : Nat} {c : Int32} (h : mq_lk A c a e = false) : A 26 (60 * a + e) ≠ 0 := fun q => by
  unfold mq_lk at h
  rw [decide_eq_true q, Bool.true_or] at h
  cases h
theorem mq_th_c {A A1 : Nat → Nat → Int32} (h : A1 16 = A 16) (e : Nat) : mq_th A1 e = mq_th A e := by unfold mq_th; rw [h]
theorem mq_f2_c {A A1 : Nat → Nat → Int32} (h : A1 18 = A 18) (u : Int32) (e : Nat) : ru_f2 (mq_EF A1) u e = ru_f2 (mq_EF A) u e := by rw [mq_f2q, mq_f2q, h]
def mq_fr (A : Nat → Nat → Int32) (clk : Int32) (a e : Nat) : Option Nat := if mq_lk A clk a e = true then none else some (mq_sr A a e)
theorem rn_es_y {ent : Nat → Bool} {f : Nat → Option Nat} {A : Nat → Nat → Int32} {ns e : Nat} (ht : mq_th A e = true) (h : ent e = true) (h2 : f e = none) : rn_go ent f (mq_es A (e + 1)) ns = ((rn_go ent f (mq_es A e) ns).1 + 1, (rn_go ent f (mq_es A e) ns).2 ++ [(rn_go ent f (mq_es A e) ns).1 + 1]) ∧ rn_N ent f (mq_es A (e + 1)) = rn_N ent f (mq_es A e) ++ [e] := by
  rw [mq_es_y ht, rn_go_s]
  unfold rn_st
  rw [if_pos h, h2]
  exact ⟨rfl, rn_N_y h h2⟩
theorem rn_es_k {ent : Nat → Bool} {f : Nat → Option Nat} {A : Nat → Nat → Int32} {ns e n : Nat} (ht : mq_th A e = true) (h : ent e = true) (h2 : f e = some n) : rn_go ent f (mq_es A (e + 1)) ns = ((rn_go ent f (mq_es A e) ns).1, (rn_go ent f (mq_es A e) ns).2 ++ [n]) ∧ rn_N ent f (mq_es A (e + 1)) = rn_N ent f (mq_es A e) := by
  rw [mq_es_y ht, rn_go_s]
  unfold rn_st
  rw [if_pos h, h2]
  exact ⟨rfl, rn_N_n (Or.inr ⟨n, h2⟩)⟩
theorem rn_es_n {ent : Nat → Bool} {f : Nat → Option Nat} {A : Nat → Nat → Int32} {ns e : Nat} (h : (mq_th A e && ent e) = false) : rn_go ent f (mq_es A (e + 1)) ns = rn_go ent f (mq_es A e) ns ∧ rn_N ent f (mq_es A (e + 1)) = rn_N ent f (mq_es A e) := by
  cases ht : mq_th A e with
  | false => rw [mq_es_n ht]; exact ⟨rfl, rfl⟩
  | true =>
    rw [ht, Bool.true_and] at h
    rw [mq_es_y ht, rn_go_s]
    unfold rn_st
    rw [if_neg (by rw [h]; decide)]
    exact ⟨rfl, rn_N_n (Or.inl h)⟩
/-- what each entry's place holds behind a sync -/
def sy_e (A A1 : Nat → Nat → Int32) (N : List Nat) (ns ka cl lf a e : Nat) (gm tn : Nat → Nat) : Prop := A1 26 (60 * a + e) = 0 ∨ (A 26 (60 * a + e) ≠ 0 ∧ A1 26 (60 * a + e) = A 26 (60 * a + e) ∧ A1 27 (60 * a + e) = A 27 (60 * a + e) ∧ A1 28 (60 * a + e) = A 28 (60 * a + e) ∧ A1 29 (60 * a + e) = A 29 (60 * a + e)) ∨ ∃ i : Nat, N[i]? = some e ∧ A1 26 (60 * a + e) = nI (ns + 1 + i) ∧ A1 27 (60 * a + e) = nI ka ∧ A1 28 (60 * a + e) = nI cl ∧ A1 29 (60 * a + e) = nI (min (cl + tn e) (gm ka + lf))
theorem sy_e.app {A A1 : Nat → Nat → Int32} {N : List Nat} {ns ka cl lf a e x : Nat} {gm tn : Nat → Nat} (h : sy_e A A1 N ns ka cl lf a e gm tn) : sy_e A A1 (N ++ [x]) ns ka cl lf a e gm tn :=
  h.imp id (fun h => h.imp id (fun ⟨i, h1, h2⟩ => ⟨i, by rw [List.getElem?_append_left (List.getElem?_eq_some_iff.mp h1).1]; exact h1, h2⟩))
theorem sy_e.c {A A1 A2 : Nat → Nat → Int32} {N : List Nat} {ns ka cl lf a e : Nat} {gm tn : Nat → Nat} (h : sy_e A A1 N ns ka cl lf a e gm tn) (h1 : A2 26 (60 * a + e) = A1 26 (60 * a + e)) (h2 : A2 27 (60 * a + e) = A1 27 (60 * a + e)) (h3 : A2 28 (60 * a + e) = A1 28 (60 * a + e)) (h4 : A2 29 (60 * a + e) = A1 29 (60 * a + e)) : sy_e A A2 N ns ka cl lf a e gm tn := by
  unfold sy_e
  rw [h1, h2, h3, h4]
  exact h
theorem sy_cn {A : Nat → Nat → Int32} {u : Int32} {e : Nat} {q : Nat → Bool} {p : Nat → Bool} (h : (mq_th A e && ru_f2 (mq_EF A) u e) = false) (hp : ∀ x : Nat, p x = (ru_f2 (mq_EF A) u x && q x) := by intro x; rfl) : (mq_es A (e + 1)).countP p = (mq_es A e).countP p := by
  cases ht : mq_th A e with
  | false => rw [mq_es_n ht]
  | true =>
    rw [ht, Bool.true_and] at h
    rw [mq_es_y ht, List.countP_append, List.countP_cons_of_neg (by rw [hp, h]; exact Bool.false_ne_true)]
    rfl
set_option maxHeartbeats 4000000 in
set_option maxRecDepth 100000 in
theorem cc_Mo_sync_x (l : Launch) (D : va_G) (z : Nat) (M : mw_M) (mm : Nat) (ra : Nat → Nat) (V : Nat → Int32) (A : Nat → Nat → Int32) (S : Nat → Int64) (a na mk ns lf cl kc ka : Nat) (pr : Int32) (gm tn : Nat → Nat) (hR : mq_R D M mm ra V A S) (hv23 : V 23 = nI na) (hna : na ≤ 3) (ha : a < na) (hv15 : V 15 = nI mk) (hmk : mk ≤ 60) (hv0 : V 0 = nI lf) (hv1 : V 1 = nI cl) (hv9 : V 9 = nI kc) (hv11 : V 11 = nI ka) (hv12 : V 12 = pr) (hv14 : V 14 = nI ns) (hka : ka < kc) (hkc : kc ≤ 600) (hgm : ∀ j : Nat, j < kc → A 10 j = nI (gm j) ∧ gm j < 2 ^ 20) (hlf : lf < 2 ^ 20) (hcl : cl < 2 ^ 20) (hns : ns < 2 ^ 20) (htn : ∀ e : Nat, e < mk → A 20 e = nI (tn e) ∧ tn e < 2 ^ 20) (hx9 : 0 < (mq_es A mk).countP (fun e => ru_f2 (mq_EF A) (ru_set (mq_EF A) (mq_es A mk) (A 24 a) (A 25 a)) e && mq_lk A (nI cl) a e) ∧ mo_good kc lf gm (nI ka) cl = false) : mw_C l yy_Mo_sync bb_Mo_sync 5 (Option.some Jvm.ClassFile.FieldType.int) 1 26 0 0 D z M [.ref mm, .int (nI a)] (fun v M' => v = some (.int (-1005)) ∧ M' = M) := by
  refine mw_of (by decide) (Nat.le_of_ble_eq_true rfl) ?_
  intro p e s m below meth c ls E hr hk hnm hM hl
  have hx := E.x
  have hb := E.b
  have E : mw_E p m c bb_Mo_sync 5 s _ D z "IdentityIssuerModel" := E
  have hl : lv_has ls 5 [(0, .ref mm), (1, .int (nI a))] := hl
  have hS : va_S (mw_A z) s.heap s.heap [] := va_S.rf
  have ha0 : a < 3 := by omega
  obtain ⟨u, hu0⟩ : ∃ u9 : Int32, u9 = (ru_set (mq_EF A) (mq_es A mk) (A 24 a) (A 25 a)) := ⟨_, rfl⟩
  have hv14o := hv14
  have hv0o := hv0
  have hv1o := hv1
  have hv9o := hv9
  have hv11o := hv11
  have hv15o := hv15
  rw [← hu0] at hx9
  refine lv_iload_n hx hb dd_Mo_sync_0 rfl (lv_at hl 1 rfl) ?_
  refine lv_iconst (v := nI 0) hx hb dd_Mo_sync_1 (by decide) ?_
  refine lv_aload_n hx hb dd_Mo_sync_2 rfl (lv_at hl 0 rfl) ?_
  refine gf_Mo_173 E hM hR.m ((mo_at (by decide)).trans (congrArg some (mq_vi rfl hv23))) dd_Mo_sync_3 ?_
  refine lv_iconst (v := nI 1) hx hb dd_Mo_sync_6 (by decide) ?_
  refine lv_isub hx hb dd_Mo_sync_7 ?_
  refine mw_S (As := [.int (nI a), .int (nI 0), .int ((nI na) - (nI 1))]) (rest := []) E (cc_Mo_outside l D z (M) (nI a) (nI 0) (nI na - nI 1)) ky_Mo_outside kv_Mo_outside tw_Mo_118 hM hS rfl hl.1 rfl (Nat.le_of_ble_eq_true rfl) dd_Mo_sync_8 (by first | decide | exact ⟨by dsimp only; omega, by dsimp only; omega⟩) (by decide) (fun v M1 H locs hp hM hS => ?_)
  obtain ⟨rfl, hq⟩ := hp
  have hq := hq.symm
  subst hq
  rw [mo_out_has (by omega), mo_hasN ha (by omega)]
  refine W.eq (g2 := F0 m 11 ls [.int (zI false)]) rfl ?_
  refine lv_if_eq (tgt := 18) hx hb dd_Mo_sync_11 (by decide) (fun h11 => ?_) (fun h11 => ?_)
  ·
    refine lv_aload_n hx hb dd_Mo_sync_18 rfl (lv_at hl 0 rfl) ?_
    refine lv_iload_n hx hb dd_Mo_sync_19 rfl (lv_at hl 1 rfl) ?_
    refine mw_V (As := [.int (nI a)]) (rest := []) E (cc_Mo_reach l D z (M) mm ra V A S a mk hR ha0 hv15 hmk) ky_Mo_reach kv_Mo_reach tw_Mo_189 hM hS hR.m rfl rfl rfl hl.1 rfl (Nat.le_of_ble_eq_true rfl) dd_Mo_sync_20 (by first | decide | exact ⟨by dsimp only; omega, by dsimp only; omega⟩) (by decide) (fun v M1 H locs hp hM hS => ?_)
    obtain ⟨rfl, hq⟩ := hp
    have hq := hq.symm
    subst hq
    refine W.eq (g2 := F0 m 23 ls [.int ((ru_set (mq_EF A) (mq_es A mk) (A 24 a) (A 25 a)))]) rfl ?_
    refine mw_topi (y := u) (hu0.symm) ?_
    refine lv_istore_n (lv' := [(2, .int (u)), (0, .ref mm), (1, .int (nI a))]) hx hb dd_Mo_sync_23 rfl hl (by decide) rfl (fun ls hl => ?_)
    refine lv_iconst (v := nI 0) hx hb dd_Mo_sync_24 (by decide) ?_
    refine lv_istore_n (lv' := [(3, .int (nI 0)), (2, .int (u)), (0, .ref mm), (1, .int (nI a))]) hx hb dd_Mo_sync_25 rfl hl (by decide) rfl (fun ls hl => ?_)
    refine lv_iconst (v := nI 0) hx hb dd_Mo_sync_26 (by decide) ?_
    refine lv_istore (lv' := [(4, .int (nI 0)), (3, .int (nI 0)), (2, .int (u)), (0, .ref mm), (1, .int (nI a))]) hx hb dd_Mo_sync_27 hl (by decide) rfl (fun ls hl => ?_)
    have join72 : ∀ (n0 : Nat) (H : Heap) (locs : List Loc) (ls : Array Slot), n0 = (mq_es A mk).countP (fun e => ru_f2 (mq_EF A) u e && mq_lk A (nI cl) a e) → mw_at D mg_cl z M H → va_S (mw_A z) s.heap H locs → lv_has ls 5 [(3, .int (nI n0)), (2, .int (u)), (0, .ref mm), (1, .int (nI a))] → W p l e ({ frames := 1, cells := 0, slots := 0, locals := 26 } : Room) s m ([.ref mm, .int (nI a)] : List Value).toArray below meth c H locs (0) (0) (MQ below (mw_Q D z (fun v M' => v = some (.int (-1005)) ∧ M' = M)) ([.ref mm, .int (nI a)] : List Value).toArray s 0 0 (mw_A z)) (F0 m 72 ls []) := by
      intro n0 H locs ls hn0 hM hS hl
      have hcle : n0 ≤ 60 := by
        rw [hn0]
        exact Nat.le_trans List.countP_le_length (Nat.le_trans (mq_es_len A mk) hmk)
      refine lv_iload_n hx hb dd_Mo_sync_72 rfl (lv_at hl 0 rfl) ?_
      refine lv_if_le (tgt := 91) hx hb dd_Mo_sync_73 (by decide) (fun h73 => ?_) (fun h73 => ?_)
      ·
        exact absurd (nI_le0 (by have := hcle; omega) h73) (by rw [hn0]; omega)
      ·
        have e73 := nI_nle0 (by have := hcle; omega) h73
        refine lv_aload_n hx hb dd_Mo_sync_76 rfl (lv_at hl 2 rfl) ?_
        refine lv_aload_n hx hb dd_Mo_sync_77 rfl (lv_at hl 2 rfl) ?_
        refine gf_Mo_183 E hM hR.m ((mo_at (by decide)).trans (congrArg some (mq_vi rfl hv11))) dd_Mo_sync_78 ?_
        refine mw_V (As := [.int (nI ka)]) (rest := []) E (cc_Mo_isGood l D z (M) mm (mq_v ra V) (ra 10) lf kc cl (nI ka) pr (A 10) gm (nI ka) hR.m (mq_vi rfl hv0) (mq_vi rfl hv1) (mq_vi rfl hv9) (mq_va rfl) (mq_vi rfl hv11) (mq_vi rfl hv12) (hR.w 10 rfl (by decide)) hgm hlf hkc hcl) ky_Mo_isGood kv_Mo_isGood tw_Mo_198 hM hS hR.m rfl rfl rfl hl.1 rfl (Nat.le_of_ble_eq_true rfl) dd_Mo_sync_81 (by first | decide | exact ⟨by dsimp only; omega, by dsimp only; omega⟩) (by decide) (fun v M1 H locs hp hM hS => ?_)
        obtain ⟨rfl, hq⟩ := hp
        have hq := hq.symm
        subst hq
        refine W.eq (g2 := F0 m 84 ls [.int (zI (mo_good kc lf gm (nI ka) cl))]) rfl ?_
        refine lv_if_ne (tgt := 91) hx hb dd_Mo_sync_84 (by decide) (fun h84 => ?_) (fun h84 => ?_)
        ·
          exact absurd (zI_0.mpr hx9.2) h84
        ·
          refine lv_sipush (v := -1005) hx hb dd_Mo_sync_87 (by decide) ?_
          refine mr_i E hr hk hM hS (by decide) (by decide) ?_ dd_Mo_sync_90
          exact ⟨rfl, rfl⟩
    have loop29 : ∀ (d9 : Nat) (n0 e0 : Nat) (H : Heap) (locs : List Loc) (ls : Array Slot), e0 + d9 = mk → n0 = (mq_es A e0).countP (fun e => ru_f2 (mq_EF A) u e && mq_lk A (nI cl) a e) → mw_at D mg_cl z M H → va_S (mw_A z) s.heap H locs → lv_has ls 5 [(3, .int (nI n0)), (4, .int (nI e0)), (2, .int (u)), (0, .ref mm), (1, .int (nI a))] → W p l e ({ frames := 1, cells := 0, slots := 0, locals := 26 } : Room) s m ([.ref mm, .int (nI a)] : List Value).toArray below meth c H locs (0) (0) (MQ below (mw_Q D z (fun v M' => v = some (.int (-1005)) ∧ M' = M)) ([.ref mm, .int (nI a)] : List Value).toArray s 0 0 (mw_A z)) (F0 m 29 ls []) := by
      intro d9
      induction d9 with
      | zero =>
        intro n0 e0 H locs ls hp hu hM hS hl
        refine lv_iload hx hb dd_Mo_sync_29 (lv_at hl 1 rfl) ?_
        refine lv_aload_n hx hb dd_Mo_sync_31 rfl (lv_at hl 3 rfl) ?_
        refine gf_Mo_167 E hM hR.m ((mo_at (by decide)).trans (congrArg some (mq_vi rfl hv15))) dd_Mo_sync_32 ?_
        refine lv_icmp_ge (tgt := 72) hx hb dd_Mo_sync_35 (by decide) (fun h35 => ?_) (fun h35 => ?_)
        ·
          rw [nI_leI (by omega) (by omega)] at h35
          exact join72 n0 H locs ls (by rw [hu, show e0 = mk by omega]) hM hS (lv_sub hl [0, 2, 3, 4] rfl)
        ·
          rw [nI_leI (by omega) (by omega)] at h35
          omega
      | succ d9 ih =>
        intro n0 e0 H locs ls hp hu hM hS hl
        refine lv_iload hx hb dd_Mo_sync_29 (lv_at hl 1 rfl) ?_
        refine lv_aload_n hx hb dd_Mo_sync_31 rfl (lv_at hl 3 rfl) ?_
        refine gf_Mo_167 E hM hR.m ((mo_at (by decide)).trans (congrArg some (mq_vi rfl hv15))) dd_Mo_sync_32 ?_
        refine lv_icmp_ge (tgt := 72) hx hb dd_Mo_sync_35 (by decide) (fun h35 => ?_) (fun h35 => ?_)
        ·
          rw [nI_leI (by omega) (by omega)] at h35
          omega
        ·
          rw [nI_leI (by omega) (by omega)] at h35
          refine lv_aload_n hx hb dd_Mo_sync_38 rfl (lv_at hl 3 rfl) ?_
          refine lv_iload_n hx hb dd_Mo_sync_39 rfl (lv_at hl 2 rfl) ?_
          refine lv_iload hx hb dd_Mo_sync_40 (lv_at hl 1 rfl) ?_
          refine mw_V (As := [.int (u), .int (nI e0)]) (rest := []) E (cc_Mo_entitled l D z (M) mm ra V A S u e0 hR (by omega)) ky_Mo_entitled kv_Mo_entitled tw_Mo_192 hM hS hR.m rfl rfl rfl hl.1 rfl (Nat.le_of_ble_eq_true rfl) dd_Mo_sync_42 (by first | decide | exact ⟨by dsimp only; omega, by dsimp only; omega⟩) (by decide) (fun v M1 H locs hp hM hS => ?_)
          obtain ⟨rfl, hq⟩ := hp
          have hq := hq.symm
          subst hq
          refine W.eq (g2 := F0 m 45 ls [.int (zI (mq_th A e0 && ru_f2 (mq_EF A) u e0))]) rfl ?_
          refine lv_if_eq (tgt := 64) hx hb dd_Mo_sync_45 (by decide) (fun h45 => ?_) (fun h45 => ?_)
          ·
            refine lv_iload_n hx hb dd_Mo_sync_64 rfl (lv_at hl 0 rfl) ?_
            refine lv_istore_n (lv' := [(3, .int (nI n0)), (4, .int (nI e0)), (2, .int (u)), (0, .ref mm), (1, .int (nI a))]) hx hb dd_Mo_sync_65 rfl hl (by decide) rfl (fun ls hl => ?_)
            refine lv_iinc (k := 1) (v := nI (e0 + 1)) (lv' := [(4, .int (nI (e0 + 1))), (3, .int (nI n0)), (2, .int (u)), (0, .ref mm), (1, .int (nI a))]) hx hb dd_Mo_sync_66 hl rfl (nI_1 _) (by decide) rfl (fun ls hl => ?_)
            refine lv_goto (tgt := 29) hx hb dd_Mo_sync_69 (by decide) ?_
            exact ih n0 (e0 + 1) H locs ls (by omega) (by rw [sy_cn (p := (fun e => ru_f2 (mq_EF A) u e && mq_lk A (nI cl) a e)) (zI_0.mp h45)]; exact hu) hM hS (lv_sub hl [1, 0, 2, 3, 4] rfl)
          ·
            have ht9 : (mq_th A e0 && ru_f2 (mq_EF A) u e0) = true := Bool.of_not_eq_false (fun q => h45 (zI_0.mpr q))
            rw [Bool.and_eq_true] at ht9
            refine lv_aload_n hx hb dd_Mo_sync_48 rfl (lv_at hl 3 rfl) ?_
            refine lv_iload_n hx hb dd_Mo_sync_49 rfl (lv_at hl 4 rfl) ?_
            refine lv_iload hx hb dd_Mo_sync_50 (lv_at hl 1 rfl) ?_
            refine mw_V (As := [.int (nI a), .int (nI e0)]) (rest := []) E (cc_Mo_lacks l D z (M) mm ra V A S a e0 hR ha0 (by omega)) ky_Mo_lacks kv_Mo_lacks tw_Mo_195 hM hS hR.m rfl rfl rfl hl.1 rfl (Nat.le_of_ble_eq_true rfl) dd_Mo_sync_52 (by first | decide | exact ⟨by dsimp only; omega, by dsimp only; omega⟩) (by decide) (fun v M1 H locs hp hM hS => ?_)
            obtain ⟨rfl, hq⟩ := hp
            have hq := hq.symm
            subst hq
            rw [hv1]
            refine W.eq (g2 := F0 m 55 ls [.int (zI (mq_lk A (nI cl) a e0))]) rfl ?_
            refine lv_if_eq (tgt := 64) hx hb dd_Mo_sync_55 (by decide) (fun h55 => ?_) (fun h55 => ?_)
            ·
              refine lv_iload_n hx hb dd_Mo_sync_64 rfl (lv_at hl 0 rfl) ?_
              refine lv_istore_n (lv' := [(3, .int (nI n0)), (4, .int (nI e0)), (2, .int (u)), (0, .ref mm), (1, .int (nI a))]) hx hb dd_Mo_sync_65 rfl hl (by decide) rfl (fun ls hl => ?_)
              refine lv_iinc (k := 1) (v := nI (e0 + 1)) (lv' := [(4, .int (nI (e0 + 1))), (3, .int (nI n0)), (2, .int (u)), (0, .ref mm), (1, .int (nI a))]) hx hb dd_Mo_sync_66 hl rfl (nI_1 _) (by decide) rfl (fun ls hl => ?_)
              refine lv_goto (tgt := 29) hx hb dd_Mo_sync_69 (by decide) ?_
              exact ih n0 (e0 + 1) H locs ls (by omega) (by rw [mq_es_y ht9.1, List.countP_append, List.countP_cons_of_neg (by rw [zI_0.mp h55, Bool.and_false]; decide)]; exact hu) hM hS (lv_sub hl [1, 0, 2, 3, 4] rfl)
            ·
              refine lv_iload_n hx hb dd_Mo_sync_58 rfl (lv_at hl 0 rfl) ?_
              refine lv_iconst (v := nI 1) hx hb dd_Mo_sync_59 (by decide) ?_
              refine lv_iadd hx hb dd_Mo_sync_60 ?_
              refine mw_topi (y := nI (n0 + 1)) (nI_add _ _) ?_
              refine lv_goto (tgt := 65) hx hb dd_Mo_sync_61 (by decide) ?_
              refine lv_istore_n (lv' := [(3, .int (nI (n0 + 1))), (4, .int (nI e0)), (2, .int (u)), (0, .ref mm), (1, .int (nI a))]) hx hb dd_Mo_sync_65 rfl hl (by decide) rfl (fun ls hl => ?_)
              refine lv_iinc (k := 1) (v := nI (e0 + 1)) (lv' := [(4, .int (nI (e0 + 1))), (3, .int (nI (n0 + 1))), (2, .int (u)), (0, .ref mm), (1, .int (nI a))]) hx hb dd_Mo_sync_66 hl rfl (nI_1 _) (by decide) rfl (fun ls hl => ?_)
              refine lv_goto (tgt := 29) hx hb dd_Mo_sync_69 (by decide) ?_
              exact ih (n0 + 1) (e0 + 1) H locs ls (by omega) (by rw [mq_es_y ht9.1, List.countP_append, List.countP_cons_of_pos (by rw [ht9.2, Bool.of_not_eq_false (fun q => h55 (zI_0.mpr q))]; rfl), ← hu]; rfl) hM hS (lv_sub hl [1, 0, 2, 3, 4] rfl)
    exact loop29 mk 0 0 H locs ls (by omega) rfl hM hS (lv_sub hl [1, 0, 2, 3, 4] rfl)
  ·
    exact absurd rfl h11
theorem va_up_idI (V : Nat → Int32) (k : Nat) : va_up V k (V k) = V := by
  funext j
  by_cases e : j = k
  · rw [e, va_up_self]
  · rw [va_up_ne _ _ e]
set_option maxHeartbeats 4000000 in
set_option maxRecDepth 100000 in
theorem cc_Mo_sync_y (l : Launch) (D : va_G) (z : Nat) (M : mw_M) (mm : Nat) (ra : Nat → Nat) (V : Nat → Int32) (A : Nat → Nat → Int32) (S : Nat → Int64) (a na mk ns lf cl kc ka : Nat) (pr : Int32) (gm tn : Nat → Nat) (hR : mq_R D M mm ra V A S) (hv23 : V 23 = nI na) (hna : na ≤ 3) (ha : a < na) (hv15 : V 15 = nI mk) (hmk : mk ≤ 60) (hv0 : V 0 = nI lf) (hv1 : V 1 = nI cl) (hv9 : V 9 = nI kc) (hv11 : V 11 = nI ka) (hv12 : V 12 = pr) (hv14 : V 14 = nI ns) (hka : ka < kc) (hkc : kc ≤ 600) (hgm : ∀ j : Nat, j < kc → A 10 j = nI (gm j) ∧ gm j < 2 ^ 20) (hlf : lf < 2 ^ 20) (hcl : cl < 2 ^ 20) (hns : ns < 2 ^ 20) (htn : ∀ e : Nat, e < mk → A 20 e = nI (tn e) ∧ tn e < 2 ^ 20) (hok : (mq_es A mk).countP (fun e => ru_f2 (mq_EF A) (ru_set (mq_EF A) (mq_es A mk) (A 24 a) (A 25 a)) e && mq_lk A (nI cl) a e) = 0 ∨ mo_good kc lf gm (nI ka) cl = true) (f0 : Nat) (hf0 : f0 ≤ kc) (hf4 : kc ≤ f0 + 4) (hgd : ∀ k : Nat, k < kc → (mo_good kc lf gm (nI k) cl = true ↔ f0 ≤ k)) : mw_C l yy_Mo_sync bb_Mo_sync 5 (Option.some Jvm.ClassFile.FieldType.int) 1 26 0 0 D z M [.ref mm, .int (nI a)] (fun v M' => v = some (.int (nI ((mq_es A mk).countP (fun e => ru_f2 (mq_EF A) (ru_set (mq_EF A) (mq_es A mk) (A 24 a) (A 25 a)) e && mq_lk A (nI cl) a e)))) ∧ (∃ ns1 L1 A1, rn_go (ru_f2 (mq_EF A) (ru_set (mq_EF A) (mq_es A mk) (A 24 a) (A 25 a))) (mq_fr A (nI cl) a) (mq_es A mk) ns = (ns1, L1) ∧ mq_R D M' mm ra (va_up V 14 (nI ns1)) A1 S ∧ mq_ss A1 a mk = L1 ∧ (∀ k : Nat, k ≠ 26 → k ≠ 27 → k ≠ 28 → k ≠ 29 → k ≠ 30 → k ≠ 31 → k ≠ 32 → A1 k = A k) ∧ (∀ q : Nat, (q < 60 * a ∨ 60 * a + mk ≤ q) → A1 26 q = A 26 q ∧ A1 27 q = A 27 q ∧ A1 28 q = A 28 q ∧ A1 29 q = A 29 q) ∧ (∀ e : Nat, e < mk → sy_e A A1 (rn_N (ru_f2 (mq_EF A) (ru_set (mq_EF A) (mq_es A mk) (A 24 a) (A 25 a))) (mq_fr A (nI cl) a) (mq_es A mk)) ns ka cl lf a e gm tn) ∧ A1 31 = upd (A 31) a (nI (kc - f0)) ∧ (∀ i : Nat, i < kc - f0 → A1 30 (4 * a + i) = nI (f0 + i)) ∧ (∀ q : Nat, (q < 4 * a ∨ 4 * a + 4 ≤ q) → A1 30 q = A 30 q) ∧ A1 32 = upd (A 32) a (V 22) ∧ ns ≤ ns1 ∧ ns1 ≤ ns + mk) ∧ mw_fr (mq_P mm ra) M M') := by
  refine mw_of (by decide) (Nat.le_of_ble_eq_true rfl) ?_
  intro p e s m below meth c ls E hr hk hnm hM hl
  have hx := E.x
  have hb := E.b
  have E : mw_E p m c bb_Mo_sync 5 s _ D z "IdentityIssuerModel" := E
  have hl : lv_has ls 5 [(0, .ref mm), (1, .int (nI a))] := hl
  have hS : va_S (mw_A z) s.heap s.heap [] := va_S.rf
  have hF : mw_fr (mq_P mm ra) M M := mw_fr.rf
  have ha0 : a < 3 := by omega
  obtain ⟨u, hu0⟩ : ∃ u9 : Int32, u9 = (ru_set (mq_EF A) (mq_es A mk) (A 24 a) (A 25 a)) := ⟨_, rfl⟩
  have hv14o := hv14
  have hv0o := hv0
  have hv1o := hv1
  have hv9o := hv9
  have hv11o := hv11
  have hv15o := hv15
  rw [← hu0] at hok
  refine lv_iload_n hx hb dd_Mo_sync_0 rfl (lv_at hl 1 rfl) ?_
  refine lv_iconst (v := nI 0) hx hb dd_Mo_sync_1 (by decide) ?_
  refine lv_aload_n hx hb dd_Mo_sync_2 rfl (lv_at hl 0 rfl) ?_
  refine gf_Mo_173 E hM hR.m ((mo_at (by decide)).trans (congrArg some (mq_vi rfl hv23))) dd_Mo_sync_3 ?_
  refine lv_iconst (v := nI 1) hx hb dd_Mo_sync_6 (by decide) ?_
  refine lv_isub hx hb dd_Mo_sync_7 ?_
  refine mw_S (As := [.int (nI a), .int (nI 0), .int ((nI na) - (nI 1))]) (rest := []) E (cc_Mo_outside l D z (M) (nI a) (nI 0) (nI na - nI 1)) ky_Mo_outside kv_Mo_outside tw_Mo_118 hM hS rfl hl.1 rfl (Nat.le_of_ble_eq_true rfl) dd_Mo_sync_8 (by first | decide | exact ⟨by dsimp only; omega, by dsimp only; omega⟩) (by decide) (fun v M1 H locs hp hM hS => ?_)
  obtain ⟨rfl, hq⟩ := hp
  have hq := hq.symm
  subst hq
  rw [mo_out_has (by omega), mo_hasN ha (by omega)]
  refine W.eq (g2 := F0 m 11 ls [.int (zI false)]) rfl ?_
  refine lv_if_eq (tgt := 18) hx hb dd_Mo_sync_11 (by decide) (fun h11 => ?_) (fun h11 => ?_)
  ·
    refine lv_aload_n hx hb dd_Mo_sync_18 rfl (lv_at hl 0 rfl) ?_
    refine lv_iload_n hx hb dd_Mo_sync_19 rfl (lv_at hl 1 rfl) ?_
    refine mw_V (As := [.int (nI a)]) (rest := []) E (cc_Mo_reach l D z (M) mm ra V A S a mk hR ha0 hv15 hmk) ky_Mo_reach kv_Mo_reach tw_Mo_189 hM hS hR.m rfl rfl rfl hl.1 rfl (Nat.le_of_ble_eq_true rfl) dd_Mo_sync_20 (by first | decide | exact ⟨by dsimp only; omega, by dsimp only; omega⟩) (by decide) (fun v M1 H locs hp hM hS => ?_)
    obtain ⟨rfl, hq⟩ := hp
    have hq := hq.symm
    subst hq
    refine W.eq (g2 := F0 m 23 ls [.int ((ru_set (mq_EF A) (mq_es A mk) (A 24 a) (A 25 a)))]) rfl ?_
    refine mw_topi (y := u) (hu0.symm) ?_
    refine lv_istore_n (lv' := [(2, .int (u)), (0, .ref mm), (1, .int (nI a))]) hx hb dd_Mo_sync_23 rfl hl (by decide) rfl (fun ls hl => ?_)
    refine lv_iconst (v := nI 0) hx hb dd_Mo_sync_24 (by decide) ?_
    refine lv_istore_n (lv' := [(3, .int (nI 0)), (2, .int (u)), (0, .ref mm), (1, .int (nI a))]) hx hb dd_Mo_sync_25 rfl hl (by decide) rfl (fun ls hl => ?_)
    refine lv_iconst (v := nI 0) hx hb dd_Mo_sync_26 (by decide) ?_
    refine lv_istore (lv' := [(4, .int (nI 0)), (3, .int (nI 0)), (2, .int (u)), (0, .ref mm), (1, .int (nI a))]) hx hb dd_Mo_sync_27 hl (by decide) rfl (fun ls hl => ?_)
    have join72 : ∀ (n0 : Nat) (H : Heap) (locs : List Loc) (ls : Array Slot), n0 = (mq_es A mk).countP (fun e => ru_f2 (mq_EF A) u e && mq_lk A (nI cl) a e) → mw_at D mg_cl z M H → va_S (mw_A z) s.heap H locs → lv_has ls 5 [(3, .int (nI n0)), (2, .int (u)), (0, .ref mm), (1, .int (nI a))] → W p l e ({ frames := 1, cells := 0, slots := 0, locals := 26 } : Room) s m ([.ref mm, .int (nI a)] : List Value).toArray below meth c H locs (0) (0) (MQ below (mw_Q D z (fun v M' => v = some (.int (nI ((mq_es A mk).countP (fun e => ru_f2 (mq_EF A) (ru_set (mq_EF A) (mq_es A mk) (A 24 a) (A 25 a)) e && mq_lk A (nI cl) a e)))) ∧ (∃ ns1 L1 A1, rn_go (ru_f2 (mq_EF A) (ru_set (mq_EF A) (mq_es A mk) (A 24 a) (A 25 a))) (mq_fr A (nI cl) a) (mq_es A mk) ns = (ns1, L1) ∧ mq_R D M' mm ra (va_up V 14 (nI ns1)) A1 S ∧ mq_ss A1 a mk = L1 ∧ (∀ k : Nat, k ≠ 26 → k ≠ 27 → k ≠ 28 → k ≠ 29 → k ≠ 30 → k ≠ 31 → k ≠ 32 → A1 k = A k) ∧ (∀ q : Nat, (q < 60 * a ∨ 60 * a + mk ≤ q) → A1 26 q = A 26 q ∧ A1 27 q = A 27 q ∧ A1 28 q = A 28 q ∧ A1 29 q = A 29 q) ∧ (∀ e : Nat, e < mk → sy_e A A1 (rn_N (ru_f2 (mq_EF A) (ru_set (mq_EF A) (mq_es A mk) (A 24 a) (A 25 a))) (mq_fr A (nI cl) a) (mq_es A mk)) ns ka cl lf a e gm tn) ∧ A1 31 = upd (A 31) a (nI (kc - f0)) ∧ (∀ i : Nat, i < kc - f0 → A1 30 (4 * a + i) = nI (f0 + i)) ∧ (∀ q : Nat, (q < 4 * a ∨ 4 * a + 4 ≤ q) → A1 30 q = A 30 q) ∧ A1 32 = upd (A 32) a (V 22) ∧ ns ≤ ns1 ∧ ns1 ≤ ns + mk) ∧ mw_fr (mq_P mm ra) M M')) ([.ref mm, .int (nI a)] : List Value).toArray s 0 0 (mw_A z)) (F0 m 72 ls []) := by
      intro n0 H locs ls hn0 hM hS hl
      have hcle : n0 ≤ 60 := by
        rw [hn0]
        exact Nat.le_trans List.countP_le_length (Nat.le_trans (mq_es_len A mk) hmk)
      have join91 : ∀ (hT9 : True) (H : Heap) (locs : List Loc) (ls : Array Slot), True → mw_at D mg_cl z M H → va_S (mw_A z) s.heap H locs → lv_has ls 5 [(3, .int (nI n0)), (2, .int (u)), (0, .ref mm), (1, .int (nI a))] → W p l e ({ frames := 1, cells := 0, slots := 0, locals := 26 } : Room) s m ([.ref mm, .int (nI a)] : List Value).toArray below meth c H locs (0) (0) (MQ below (mw_Q D z (fun v M' => v = some (.int (nI ((mq_es A mk).countP (fun e => ru_f2 (mq_EF A) (ru_set (mq_EF A) (mq_es A mk) (A 24 a) (A 25 a)) e && mq_lk A (nI cl) a e)))) ∧ (∃ ns1 L1 A1, rn_go (ru_f2 (mq_EF A) (ru_set (mq_EF A) (mq_es A mk) (A 24 a) (A 25 a))) (mq_fr A (nI cl) a) (mq_es A mk) ns = (ns1, L1) ∧ mq_R D M' mm ra (va_up V 14 (nI ns1)) A1 S ∧ mq_ss A1 a mk = L1 ∧ (∀ k : Nat, k ≠ 26 → k ≠ 27 → k ≠ 28 → k ≠ 29 → k ≠ 30 → k ≠ 31 → k ≠ 32 → A1 k = A k) ∧ (∀ q : Nat, (q < 60 * a ∨ 60 * a + mk ≤ q) → A1 26 q = A 26 q ∧ A1 27 q = A 27 q ∧ A1 28 q = A 28 q ∧ A1 29 q = A 29 q) ∧ (∀ e : Nat, e < mk → sy_e A A1 (rn_N (ru_f2 (mq_EF A) (ru_set (mq_EF A) (mq_es A mk) (A 24 a) (A 25 a))) (mq_fr A (nI cl) a) (mq_es A mk)) ns ka cl lf a e gm tn) ∧ A1 31 = upd (A 31) a (nI (kc - f0)) ∧ (∀ i : Nat, i < kc - f0 → A1 30 (4 * a + i) = nI (f0 + i)) ∧ (∀ q : Nat, (q < 4 * a ∨ 4 * a + 4 ≤ q) → A1 30 q = A 30 q) ∧ A1 32 = upd (A 32) a (V 22) ∧ ns ≤ ns1 ∧ ns1 ≤ ns + mk) ∧ mw_fr (mq_P mm ra) M M')) ([.ref mm, .int (nI a)] : List Value).toArray s 0 0 (mw_A z)) (F0 m 91 ls []) := by
        intro hT9 H locs ls hT hM hS hl
        refine lv_iconst (v := nI 0) hx hb dd_Mo_sync_91 (by decide) ?_
        refine lv_istore (lv' := [(4, .int (nI 0)), (3, .int (nI n0)), (2, .int (u)), (0, .ref mm), (1, .int (nI a))]) hx hb dd_Mo_sync_92 hl (by decide) rfl (fun ls hl => ?_)
        have loop94 : ∀ (d9 : Nat) (e0 ns1 : Nat) (L1 : List Nat) (V1 : Nat → Int32) (A1 : Nat → Nat → Int32) (M1 : mw_M) (H : Heap) (locs : List Loc) (ls : Array Slot), e0 + d9 = mk → mq_R D M1 mm ra V1 A1 S → V1 = va_up V 14 (nI ns1) → rn_go (ru_f2 (mq_EF A) u) (mq_fr A (nI cl) a) (mq_es A e0) ns = (ns1, L1) → mq_ss A1 a e0 = L1 → (∀ k : Nat, k ≠ 26 → k ≠ 27 → k ≠ 28 → k ≠ 29 → A1 k = A k) → (∀ q : Nat, (q < 60 * a ∨ 60 * a + e0 ≤ q) → A1 26 q = A 26 q ∧ A1 27 q = A 27 q ∧ A1 28 q = A 28 q ∧ A1 29 q = A 29 q) → (∀ e : Nat, e < e0 → sy_e A A1 (rn_N (ru_f2 (mq_EF A) u) (mq_fr A (nI cl) a) (mq_es A e0)) ns ka cl lf a e gm tn) → (ns ≤ ns1 ∧ ns1 ≤ ns + e0) → mw_fr (mq_P mm ra) M M1 → mw_at D mg_cl z M1 H → va_S (mw_A z) s.heap H locs → lv_has ls 5 [(4, .int (nI e0)), (3, .int (nI n0)), (2, .int (u)), (0, .ref mm), (1, .int (nI a))] → W p l e ({ frames := 1, cells := 0, slots := 0, locals := 26 } : Room) s m ([.ref mm, .int (nI a)] : List Value).toArray below meth c H locs (0) (0) (MQ below (mw_Q D z (fun v M' => v = some (.int (nI ((mq_es A mk).countP (fun e => ru_f2 (mq_EF A) (ru_set (mq_EF A) (mq_es A mk) (A 24 a) (A 25 a)) e && mq_lk A (nI cl) a e)))) ∧ (∃ ns1 L1 A1, rn_go (ru_f2 (mq_EF A) (ru_set (mq_EF A) (mq_es A mk) (A 24 a) (A 25 a))) (mq_fr A (nI cl) a) (mq_es A mk) ns = (ns1, L1) ∧ mq_R D M' mm ra (va_up V 14 (nI ns1)) A1 S ∧ mq_ss A1 a mk = L1 ∧ (∀ k : Nat, k ≠ 26 → k ≠ 27 → k ≠ 28 → k ≠ 29 → k ≠ 30 → k ≠ 31 → k ≠ 32 → A1 k = A k) ∧ (∀ q : Nat, (q < 60 * a ∨ 60 * a + mk ≤ q) → A1 26 q = A 26 q ∧ A1 27 q = A 27 q ∧ A1 28 q = A 28 q ∧ A1 29 q = A 29 q) ∧ (∀ e : Nat, e < mk → sy_e A A1 (rn_N (ru_f2 (mq_EF A) (ru_set (mq_EF A) (mq_es A mk) (A 24 a) (A 25 a))) (mq_fr A (nI cl) a) (mq_es A mk)) ns ka cl lf a e gm tn) ∧ A1 31 = upd (A 31) a (nI (kc - f0)) ∧ (∀ i : Nat, i < kc - f0 → A1 30 (4 * a + i) = nI (f0 + i)) ∧ (∀ q : Nat, (q < 4 * a ∨ 4 * a + 4 ≤ q) → A1 30 q = A 30 q) ∧ A1 32 = upd (A 32) a (V 22) ∧ ns ≤ ns1 ∧ ns1 ≤ ns + mk) ∧ mw_fr (mq_P mm ra) M M')) ([.ref mm, .int (nI a)] : List Value).toArray s 0 0 (mw_A z)) (F0 m 94 ls []) := by
          intro d9
          induction d9 with
          | zero =>
            intro e0 ns1 L1 V1 A1 M1 H locs ls hp hR hV hgo hss hA ho hse hn1 hF hM hS hl
            have hv15 : V1 15 = nI mk := by rw [hV, va_up_ne _ _ (by decide)]; exact hv15o
            have hv0 : V1 0 = nI lf := by rw [hV, va_up_ne _ _ (by decide)]; exact hv0o
            have hv1 : V1 1 = nI cl := by rw [hV, va_up_ne _ _ (by decide)]; exact hv1o
            have hv9 : V1 9 = nI kc := by rw [hV, va_up_ne _ _ (by decide)]; exact hv9o
            have hv11 : V1 11 = nI ka := by rw [hV, va_up_ne _ _ (by decide)]; exact hv11o
            have hv14 : V1 14 = nI ns1 := by rw [hV]; exact va_up_self _ _ _
            refine lv_iload hx hb dd_Mo_sync_94 (lv_at hl 0 rfl) ?_
            refine lv_aload_n hx hb dd_Mo_sync_96 rfl (lv_at hl 3 rfl) ?_
            refine gf_Mo_167 E hM hR.m ((mo_at (by decide)).trans (congrArg some (mq_vi rfl hv15))) dd_Mo_sync_97 ?_
            refine lv_icmp_ge (tgt := 152) hx hb dd_Mo_sync_100 (by decide) (fun h100 => ?_) (fun h100 => ?_)
            ·
              rw [nI_leI (by omega) (by omega)] at h100
              refine lv_aload_n hx hb dd_Mo_sync_152 rfl (lv_at hl 3 rfl) ?_
              refine gf_Mo_69 E hM hR.m ((mo_at (by decide)).trans (congrArg some (mq_va rfl))) dd_Mo_sync_153 ?_
              have w31 : M1 (ra 31) = some (.inl (D.1 100, 3, .inl (A1 31))) := hR.w 31 rfl (by decide)
              refine lv_iload_n hx hb dd_Mo_sync_156 rfl (lv_at hl 4 rfl) ?_
              refine lv_iconst (v := nI 0) hx hb dd_Mo_sync_157 (by decide) ?_
              have w31 : M1 (ra 31) = some (.inl (D.1 100, 3, .inl (A1 31))) := hR.w 31 rfl (by decide)
              refine mw_iast hx hb E.K hM E.zz hS 0 w31 rfl (vp_in_nI (by omega) (by omega)) dd_Mo_sync_158 (fun H locs hM hS => ?_)
              rw [nI_clamp (by omega)] at hM
              have hM : mw_at D mg_cl z (va_up M1 (ra 31) (some (.inl (D.1 100, 3, .inl ((upd (A1 31) a (nI 0))))))) H := hM
              obtain ⟨M1, hM1⟩ : ∃ M9 : mw_M, M9 = va_up M1 (ra 31) (some (.inl (D.1 100, 3, .inl ((upd (A1 31) a (nI 0)))))) := ⟨_, rfl⟩
              rw [← hM1] at hM
              obtain ⟨A21, hA21⟩ : ∃ A9 : Nat → Nat → Int32, A9 = va_up A1 31 (upd (A1 31) a (nI 0)) := ⟨_, rfl⟩
              have hR := hR.setA 31 rfl (by decide) hM1 hA21
              have hF := mw_fu hM1 hF (mq_Pa (k := 31) rfl)
              rw [show e0 = mk by omega] at hgo hss hse ho
              have hB0 : ∀ k : Nat, k ≠ 30 → k ≠ 31 → A21 k = A1 k := fun k _ h2 => by rw [hA21, va_up_ne _ _ h2]
              have h310 : A21 31 = upd (A 31) a (nI (0 - f0)) := by rw [hA21, va_up_self, hA 31 (by decide) (by decide) (by decide) (by decide), Nat.zero_sub]
              have h300 : A21 30 = A 30 := by rw [hA21, va_up_ne _ _ (by decide), hA 30 (by decide) (by decide) (by decide) (by decide)]
              refine lv_iconst (v := nI 0) hx hb dd_Mo_sync_159 (by decide) ?_
              refine lv_istore (lv' := [(4, .int (nI 0)), (3, .int (nI n0)), (2, .int (u)), (0, .ref mm), (1, .int (nI a))]) hx hb dd_Mo_sync_160 hl (by decide) rfl (fun ls hl => ?_)
              have hv12 : V1 12 = pr := by rw [hV, va_up_ne _ _ (by decide)]; exact hv12
              have hv22 : V1 22 = V 22 := by rw [hV, va_up_ne _ _ (by decide)]
              have loop162 : ∀ (c9 : Nat) (k0 : Nat) (A2 : Nat → Nat → Int32) (M2 : mw_M) (H : Heap) (locs : List Loc) (ls : Array Slot), k0 + c9 = kc → mq_R D M2 mm ra V1 A2 S → (∀ k : Nat, k ≠ 30 → k ≠ 31 → A2 k = A1 k) → A2 31 = upd (A 31) a (nI (k0 - f0)) → (∀ i : Nat, i < k0 - f0 → A2 30 (4 * a + i) = nI (f0 + i)) → (∀ q : Nat, (q < 4 * a ∨ 4 * a + 4 ≤ q) → A2 30 q = A 30 q) → mw_fr (mq_P mm ra) M M2 → mw_at D mg_cl z M2 H → va_S (mw_A z) s.heap H locs → lv_has ls 5 [(4, .int (nI k0)), (3, .int (nI n0)), (0, .ref mm), (1, .int (nI a))] → W p l e ({ frames := 1, cells := 0, slots := 0, locals := 26 } : Room) s m ([.ref mm, .int (nI a)] : List Value).toArray below meth c H locs (0) (0) (MQ below (mw_Q D z (fun v M' => v = some (.int (nI ((mq_es A mk).countP (fun e => ru_f2 (mq_EF A) (ru_set (mq_EF A) (mq_es A mk) (A 24 a) (A 25 a)) e && mq_lk A (nI cl) a e)))) ∧ (∃ ns1 L1 A1, rn_go (ru_f2 (mq_EF A) (ru_set (mq_EF A) (mq_es A mk) (A 24 a) (A 25 a))) (mq_fr A (nI cl) a) (mq_es A mk) ns = (ns1, L1) ∧ mq_R D M' mm ra (va_up V 14 (nI ns1)) A1 S ∧ mq_ss A1 a mk = L1 ∧ (∀ k : Nat, k ≠ 26 → k ≠ 27 → k ≠ 28 → k ≠ 29 → k ≠ 30 → k ≠ 31 → k ≠ 32 → A1 k = A k) ∧ (∀ q : Nat, (q < 60 * a ∨ 60 * a + mk ≤ q) → A1 26 q = A 26 q ∧ A1 27 q = A 27 q ∧ A1 28 q = A 28 q ∧ A1 29 q = A 29 q) ∧ (∀ e : Nat, e < mk → sy_e A A1 (rn_N (ru_f2 (mq_EF A) (ru_set (mq_EF A) (mq_es A mk) (A 24 a) (A 25 a))) (mq_fr A (nI cl) a) (mq_es A mk)) ns ka cl lf a e gm tn) ∧ A1 31 = upd (A 31) a (nI (kc - f0)) ∧ (∀ i : Nat, i < kc - f0 → A1 30 (4 * a + i) = nI (f0 + i)) ∧ (∀ q : Nat, (q < 4 * a ∨ 4 * a + 4 ≤ q) → A1 30 q = A 30 q) ∧ A1 32 = upd (A 32) a (V 22) ∧ ns ≤ ns1 ∧ ns1 ≤ ns + mk) ∧ mw_fr (mq_P mm ra) M M')) ([.ref mm, .int (nI a)] : List Value).toArray s 0 0 (mw_A z)) (F0 m 162 ls []) := by
                intro c9
                induction c9 with
                | zero =>
                  intro k0 A2 M2 H locs ls hp9 hR hB h31 h30 h30o hF hM hS hl
                  refine lv_iload hx hb dd_Mo_sync_162 (lv_at hl 0 rfl) ?_
                  refine lv_aload_n hx hb dd_Mo_sync_164 rfl (lv_at hl 2 rfl) ?_
                  refine gf_Mo_112 E hM hR.m ((mo_at (by decide)).trans (congrArg some (mq_vi rfl hv9))) dd_Mo_sync_165 ?_
                  refine lv_icmp_ge (tgt := 213) hx hb dd_Mo_sync_168 (by decide) (fun h168 => ?_) (fun h168 => ?_)
                  ·
                    rw [nI_leI (by omega) (by omega)] at h168
                    refine lv_aload_n hx hb dd_Mo_sync_213 rfl (lv_at hl 2 rfl) ?_
                    refine gf_Mo_72 E hM hR.m ((mo_at (by decide)).trans (congrArg some (mq_va rfl))) dd_Mo_sync_214 ?_
                    have w32 : M2 (ra 32) = some (.inl (D.1 100, 3, .inl (A2 32))) := hR.w 32 rfl (by decide)
                    refine lv_iload_n hx hb dd_Mo_sync_217 rfl (lv_at hl 3 rfl) ?_
                    refine lv_aload_n hx hb dd_Mo_sync_218 rfl (lv_at hl 2 rfl) ?_
                    refine gf_Mo_170 E hM hR.m ((mo_at (by decide)).trans (congrArg some (mq_vi rfl hv22))) dd_Mo_sync_219 ?_
                    have w32 : M2 (ra 32) = some (.inl (D.1 100, 3, .inl (A2 32))) := hR.w 32 rfl (by decide)
                    refine mw_iast hx hb E.K hM E.zz hS 0 w32 rfl (vp_in_nI (by omega) (by omega)) dd_Mo_sync_222 (fun H locs hM hS => ?_)
                    rw [nI_clamp (by omega)] at hM
                    have hM : mw_at D mg_cl z (va_up M2 (ra 32) (some (.inl (D.1 100, 3, .inl ((upd (A2 32) a (V 22))))))) H := hM
                    obtain ⟨M1, hM1⟩ : ∃ M9 : mw_M, M9 = va_up M2 (ra 32) (some (.inl (D.1 100, 3, .inl ((upd (A2 32) a (V 22)))))) := ⟨_, rfl⟩
                    rw [← hM1] at hM
                    obtain ⟨A22, hA22⟩ : ∃ A9 : Nat → Nat → Int32, A9 = va_up A2 32 (upd (A2 32) a (V 22)) := ⟨_, rfl⟩
                    have hR := hR.setA 32 rfl (by decide) hM1 hA22
                    have hF := mw_fu hM1 hF (mq_Pa (k := 32) rfl)
                    refine lv_iload_n hx hb dd_Mo_sync_223 rfl (lv_at hl 1 rfl) ?_
                    refine mr_i E hr hk hM hS (by decide) (by decide) ?_ dd_Mo_sync_224
                    rw [hu0] at hgo hse hn0
                    have c26 : A22 26 = A1 26 := by rw [hA22, va_up_ne _ _ (by decide), hB 26 (by decide) (by decide)]
                    have c27 : A22 27 = A1 27 := by rw [hA22, va_up_ne _ _ (by decide), hB 27 (by decide) (by decide)]
                    have c28 : A22 28 = A1 28 := by rw [hA22, va_up_ne _ _ (by decide), hB 28 (by decide) (by decide)]
                    have c29 : A22 29 = A1 29 := by rw [hA22, va_up_ne _ _ (by decide), hB 29 (by decide) (by decide)]
                    refine ⟨by rw [hn0], ⟨ns1, L1, A22, hgo, by rw [← hV]; exact hR, ?_, fun k h1 h2 h3 h4 h5 h6 h7 => by rw [hA22, va_up_ne _ _ h7, hB k h5 h6]; exact hA k h1 h2 h3 h4, fun q hq => ?_, fun e he => ?_, ?_, fun i hi => ?_, fun q hq => ?_, ?_, hn1.1, by omega⟩, hF⟩
                    · rw [mq_ss_c mk (fun e _ => by rw [c26])]
                      exact hss
                    · rw [c26, c27, c28, c29]
                      exact ho q hq
                    · exact (hse e he).c (by rw [c26]) (by rw [c27]) (by rw [c28]) (by rw [c29])
                    · rw [hA22, va_up_ne _ _ (by decide), h31, show k0 = kc by omega]
                    · rw [hA22, va_up_ne _ _ (by decide)]
                      exact h30 i (by omega)
                    · rw [hA22, va_up_ne _ _ (by decide)]
                      exact h30o q hq
                    · rw [hA22, va_up_self, hB 32 (by decide) (by decide), hA 32 (by decide) (by decide) (by decide) (by decide)]
                  ·
                    rw [nI_leI (by omega) (by omega)] at h168
                    omega
                | succ c9 ih5 =>
                  intro k0 A2 M2 H locs ls hp9 hR hB h31 h30 h30o hF hM hS hl
                  refine lv_iload hx hb dd_Mo_sync_162 (lv_at hl 0 rfl) ?_
                  refine lv_aload_n hx hb dd_Mo_sync_164 rfl (lv_at hl 2 rfl) ?_
                  refine gf_Mo_112 E hM hR.m ((mo_at (by decide)).trans (congrArg some (mq_vi rfl hv9))) dd_Mo_sync_165 ?_
                  refine lv_icmp_ge (tgt := 213) hx hb dd_Mo_sync_168 (by decide) (fun h168 => ?_) (fun h168 => ?_)
                  ·
                    rw [nI_leI (by omega) (by omega)] at h168
                    omega
                  ·
                    rw [nI_leI (by omega) (by omega)] at h168
                    refine lv_aload_n hx hb dd_Mo_sync_171 rfl (lv_at hl 2 rfl) ?_
                    refine lv_iload hx hb dd_Mo_sync_172 (lv_at hl 0 rfl) ?_
                    refine mw_V (As := [.int (nI k0)]) (rest := []) E (cc_Mo_isGood l D z (M2) mm (mq_v ra V1) (ra 10) lf kc cl (nI ka) pr (A2 10) gm (nI k0) hR.m (mq_vi rfl hv0) (mq_vi rfl hv1) (mq_vi rfl hv9) (mq_va rfl) (mq_vi rfl hv11) (mq_vi rfl hv12) (hR.w 10 rfl (by decide)) (by rw [hB 10 (by decide) (by decide), hA 10 (by decide) (by decide) (by decide) (by decide)]; exact hgm) hlf hkc hcl) ky_Mo_isGood kv_Mo_isGood tw_Mo_198 hM hS hR.m rfl rfl rfl hl.1 rfl (Nat.le_of_ble_eq_true rfl) dd_Mo_sync_174 (by first | decide | exact ⟨by dsimp only; omega, by dsimp only; omega⟩) (by decide) (fun v M1 H locs hp hM hS => ?_)
                    obtain ⟨rfl, hq⟩ := hp
                    have hq := hq.symm
                    subst hq
                    refine W.eq (g2 := F0 m 177 ls [.int (zI (mo_good kc lf gm (nI k0) cl))]) rfl ?_
                    refine lv_if_eq (tgt := 207) hx hb dd_Mo_sync_177 (by decide) (fun h177 => ?_) (fun h177 => ?_)
                    ·
                      have hnf : ¬ f0 ≤ k0 := fun q => absurd ((hgd k0 (by omega)).mpr q) (by rw [zI_0.mp h177]; decide)
                      refine lv_iinc (k := 0) (v := nI (k0 + 1)) (lv' := [(4, .int (nI (k0 + 1))), (3, .int (nI n0)), (0, .ref mm), (1, .int (nI a))]) hx hb dd_Mo_sync_207 hl rfl (nI_1 _) (by decide) rfl (fun ls hl => ?_)
                      refine lv_goto (tgt := 162) hx hb dd_Mo_sync_210 (by decide) ?_
                      exact ih5 (k0 + 1) A2 M2 H locs ls (by omega) hR hB (by rw [h31, show k0 + 1 - f0 = k0 - f0 by omega]) (fun i h => absurd h (by omega)) h30o hF hM hS (lv_sub hl [0, 1, 2, 3] rfl)
                    ·
                      have hyf : f0 ≤ k0 := (hgd k0 (by omega)).mp (Bool.of_not_eq_false (fun q => h177 (zI_0.mpr q)))
                      refine lv_aload_n hx hb dd_Mo_sync_180 rfl (lv_at hl 2 rfl) ?_
                      refine gf_Mo_66 E hM hR.m ((mo_at (by decide)).trans (congrArg some (mq_va rfl))) dd_Mo_sync_181 ?_
                      have w30 : M2 (ra 30) = some (.inl (D.1 100, 12, .inl (A2 30))) := hR.w 30 rfl (by decide)
                      refine lv_iconst (v := nI 4) hx hb dd_Mo_sync_184 (by decide) ?_
                      refine lv_iload_n hx hb dd_Mo_sync_185 rfl (lv_at hl 3 rfl) ?_
                      refine lv_imul hx hb dd_Mo_sync_186 ?_
                      refine mw_topi (y := nI (4 * a)) (pk_mul _ _) ?_
                      refine lv_aload_n hx hb dd_Mo_sync_187 rfl (lv_at hl 2 rfl) ?_
                      refine gf_Mo_69 E hM hR.m ((mo_at (by decide)).trans (congrArg some (mq_va rfl))) dd_Mo_sync_188 ?_
                      have w31 : M2 (ra 31) = some (.inl (D.1 100, 3, .inl (A2 31))) := hR.w 31 rfl (by decide)
                      refine lv_iload_n hx hb dd_Mo_sync_191 rfl (lv_at hl 3 rfl) ?_
                      refine mw_iald hx hb E.K hM 0 w31 rfl (vp_in_nI (by omega) (by omega)) dd_Mo_sync_192 ?_
                      refine mw_topi (y := (A2 31) a) (by rw [nI_clamp (by omega)]) ?_
                      refine mw_topi (y := nI (k0 - f0)) (by rw [h31]; exact up_s) ?_
                      refine lv_iadd hx hb dd_Mo_sync_193 ?_
                      refine mw_topi (y := nI ((4 * a) + (k0 - f0))) (nI_add _ _) ?_
                      refine lv_iload hx hb dd_Mo_sync_194 (lv_at hl 0 rfl) ?_
                      have w30 : M2 (ra 30) = some (.inl (D.1 100, 12, .inl (A2 30))) := hR.w 30 rfl (by decide)
                      refine mw_iast hx hb E.K hM E.zz hS 0 w30 rfl (vp_in_nI (by omega) (by omega)) dd_Mo_sync_196 (fun H locs hM hS => ?_)
                      rw [nI_clamp (by omega)] at hM
                      have hM : mw_at D mg_cl z (va_up M2 (ra 30) (some (.inl (D.1 100, 12, .inl ((upd (A2 30) ((4 * a) + (k0 - f0)) (nI k0))))))) H := hM
                      obtain ⟨M1, hM1⟩ : ∃ M9 : mw_M, M9 = va_up M2 (ra 30) (some (.inl (D.1 100, 12, .inl ((upd (A2 30) ((4 * a) + (k0 - f0)) (nI k0)))))) := ⟨_, rfl⟩
                      rw [← hM1] at hM
                      obtain ⟨A23, hA23⟩ : ∃ A9 : Nat → Nat → Int32, A9 = va_up A2 30 (upd (A2 30) ((4 * a) + (k0 - f0)) (nI k0)) := ⟨_, rfl⟩
                      have hR := hR.setA 30 rfl (by decide) hM1 hA23
                      have hF := mw_fu hM1 hF (mq_Pa (k := 30) rfl)
                      have c31 : A23 31 = A2 31 := by rw [hA23, va_up_ne _ _ (by decide)]
                      refine lv_aload_n hx hb dd_Mo_sync_197 rfl (lv_at hl 2 rfl) ?_
                      refine gf_Mo_69 E hM hR.m ((mo_at (by decide)).trans (congrArg some (mq_va rfl))) dd_Mo_sync_198 ?_
                      have w31 : M1 (ra 31) = some (.inl (D.1 100, 3, .inl (A23 31))) := hR.w 31 rfl (by decide)
                      refine lv_iload_n hx hb dd_Mo_sync_201 rfl (lv_at hl 3 rfl) ?_
                      refine lv_dup2_11 hx hb dd_Mo_sync_202 rfl rfl ?_
                      refine mw_iald hx hb E.K hM 0 w31 rfl (vp_in_nI (by omega) (by omega)) dd_Mo_sync_203 ?_
                      refine mw_topi (y := (A23 31) a) (by rw [nI_clamp (by omega)]) ?_
                      refine mw_topi (y := nI (k0 - f0)) (by rw [c31, h31]; exact up_s) ?_
                      refine lv_iconst (v := nI 1) hx hb dd_Mo_sync_204 (by decide) ?_
                      refine lv_iadd hx hb dd_Mo_sync_205 ?_
                      refine mw_topi (y := nI ((k0 - f0) + 1)) (nI_add _ _) ?_
                      have w31 : M1 (ra 31) = some (.inl (D.1 100, 3, .inl (A23 31))) := hR.w 31 rfl (by decide)
                      refine mw_iast hx hb E.K hM E.zz hS 0 w31 rfl (vp_in_nI (by omega) (by omega)) dd_Mo_sync_206 (fun H locs hM hS => ?_)
                      rw [nI_clamp (by omega)] at hM
                      have hM : mw_at D mg_cl z (va_up M1 (ra 31) (some (.inl (D.1 100, 3, .inl ((upd (A23 31) a (nI ((k0 - f0) + 1)))))))) H := hM
                      obtain ⟨M1, hM1⟩ : ∃ M9 : mw_M, M9 = va_up M1 (ra 31) (some (.inl (D.1 100, 3, .inl ((upd (A23 31) a (nI ((k0 - f0) + 1))))))) := ⟨_, rfl⟩
                      rw [← hM1] at hM
                      obtain ⟨A24, hA24⟩ : ∃ A9 : Nat → Nat → Int32, A9 = va_up A23 31 (upd (A23 31) a (nI ((k0 - f0) + 1))) := ⟨_, rfl⟩
                      have hR := hR.setA 31 rfl (by decide) hM1 hA24
                      have hF := mw_fu hM1 hF (mq_Pa (k := 31) rfl)
                      refine lv_iinc (k := 0) (v := nI (k0 + 1)) (lv' := [(4, .int (nI (k0 + 1))), (3, .int (nI n0)), (0, .ref mm), (1, .int (nI a))]) hx hb dd_Mo_sync_207 hl rfl (nI_1 _) (by decide) rfl (fun ls hl => ?_)
                      refine lv_goto (tgt := 162) hx hb dd_Mo_sync_210 (by decide) ?_
                      refine ih5 (k0 + 1) _ M1 H locs ls (by omega) hR (fun k h1 h2 => by rw [hA24, va_up_ne _ _ h2, hA23, va_up_ne _ _ h1]; exact hB k h1 h2) (by rw [hA24, va_up_self, c31, h31, up_up, show k0 + 1 - f0 = k0 - f0 + 1 by omega]) (fun i hi9 => ?_) (fun q hq9 => ?_) hF hM hS (lv_sub hl [0, 1, 2, 3] rfl)
                      · rw [hA24, va_up_ne _ _ (by decide), hA23, va_up_self]
                        by_cases e9 : i = k0 - f0
                        · rw [e9, up_s, show f0 + (k0 - f0) = k0 by omega]
                        · rw [up_n (by omega)]
                          exact h30 i (by omega)
                      · rw [hA24, va_up_ne _ _ (by decide), hA23, va_up_self, up_n (by omega)]
                        exact h30o q hq9
              exact loop162 kc 0 A21 M1 H locs ls (by omega) hR hB0 h310 (fun i h => absurd h (by omega)) (fun q _ => by rw [h300]) hF hM hS (lv_sub hl [0, 1, 3, 4] rfl)
            ·
              rw [nI_leI (by omega) (by omega)] at h100
              omega
          | succ d9 ih =>
            intro e0 ns1 L1 V1 A1 M1 H locs ls hp hR hV hgo hss hA ho hse hn1 hF hM hS hl
            have hv15 : V1 15 = nI mk := by rw [hV, va_up_ne _ _ (by decide)]; exact hv15o
            have hv0 : V1 0 = nI lf := by rw [hV, va_up_ne _ _ (by decide)]; exact hv0o
            have hv1 : V1 1 = nI cl := by rw [hV, va_up_ne _ _ (by decide)]; exact hv1o
            have hv9 : V1 9 = nI kc := by rw [hV, va_up_ne _ _ (by decide)]; exact hv9o
            have hv11 : V1 11 = nI ka := by rw [hV, va_up_ne _ _ (by decide)]; exact hv11o
            have hv14 : V1 14 = nI ns1 := by rw [hV]; exact va_up_self _ _ _
            refine lv_iload hx hb dd_Mo_sync_94 (lv_at hl 0 rfl) ?_
            refine lv_aload_n hx hb dd_Mo_sync_96 rfl (lv_at hl 3 rfl) ?_
            refine gf_Mo_167 E hM hR.m ((mo_at (by decide)).trans (congrArg some (mq_vi rfl hv15))) dd_Mo_sync_97 ?_
            refine lv_icmp_ge (tgt := 152) hx hb dd_Mo_sync_100 (by decide) (fun h100 => ?_) (fun h100 => ?_)
            ·
              rw [nI_leI (by omega) (by omega)] at h100
              omega
            ·
              rw [nI_leI (by omega) (by omega)] at h100
              refine lv_aload_n hx hb dd_Mo_sync_103 rfl (lv_at hl 3 rfl) ?_
              refine lv_iload_n hx hb dd_Mo_sync_104 rfl (lv_at hl 2 rfl) ?_
              refine lv_iload hx hb dd_Mo_sync_105 (lv_at hl 0 rfl) ?_
              refine mw_V (As := [.int (u), .int (nI e0)]) (rest := []) E (cc_Mo_entitled l D z (M1) mm ra V1 A1 S u e0 hR (by omega)) ky_Mo_entitled kv_Mo_entitled tw_Mo_192 hM hS hR.m rfl rfl rfl hl.1 rfl (Nat.le_of_ble_eq_true rfl) dd_Mo_sync_107 (by first | decide | exact ⟨by dsimp only; omega, by dsimp only; omega⟩) (by decide) (fun v M1 H locs hp hM hS => ?_)
              obtain ⟨rfl, hq⟩ := hp
              have hq := hq.symm
              subst hq
              rw [mq_th_c (hA 16 (by decide) (by decide) (by decide) (by decide)), mq_f2_c (hA 18 (by decide) (by decide) (by decide) (by decide))]
              refine W.eq (g2 := F0 m 110 ls [.int (zI (mq_th A e0 && ru_f2 (mq_EF A) u e0))]) rfl ?_
              have ho0 := ho (60 * a + e0) (Or.inr (Nat.le_refl _))
              refine lv_if_ne (tgt := 129) hx hb dd_Mo_sync_110 (by decide) (fun h110 => ?_) (fun h110 => ?_)
              ·
                have ht9 : (mq_th A e0 && ru_f2 (mq_EF A) u e0) = true := Bool.of_not_eq_false (fun q => h110 (zI_0.mpr q))
                rw [Bool.and_eq_true] at ht9
                refine lv_aload_n hx hb dd_Mo_sync_129 rfl (lv_at hl 3 rfl) ?_
                refine lv_iload_n hx hb dd_Mo_sync_130 rfl (lv_at hl 4 rfl) ?_
                refine lv_iload hx hb dd_Mo_sync_131 (lv_at hl 0 rfl) ?_
                refine mw_V (As := [.int (nI a), .int (nI e0)]) (rest := []) E (cc_Mo_lacks l D z (M1) mm ra V1 A1 S a e0 hR ha0 (by omega)) ky_Mo_lacks kv_Mo_lacks tw_Mo_195 hM hS hR.m rfl rfl rfl hl.1 rfl (Nat.le_of_ble_eq_true rfl) dd_Mo_sync_133 (by first | decide | exact ⟨by dsimp only; omega, by dsimp only; omega⟩) (by decide) (fun v M1 H locs hp hM hS => ?_)
                obtain ⟨rfl, hq⟩ := hp
                have hq := hq.symm
                subst hq
                rw [hv1, mq_lk_c ho0.1 ho0.2.2.1 ho0.2.2.2]
                refine W.eq (g2 := F0 m 136 ls [.int (zI (mq_lk A (nI cl) a e0))]) rfl ?_
                refine lv_if_eq (tgt := 146) hx hb dd_Mo_sync_136 (by decide) (fun h136 => ?_) (fun h136 => ?_)
                ·
                  have hlf9 : mq_lk A (nI cl) a e0 = false := zI_0.mp h136
                  have hk9 : A 26 (60 * a + e0) ≠ 0 := mq_lkF hlf9
                  have hr2 := rn_es_k (ent := (ru_f2 (mq_EF A) u)) (f := (mq_fr A (nI cl) a)) (ns := ns) (n := mq_sr A a e0) ht9.1 ht9.2 (by unfold mq_fr; rw [if_neg (by rw [hlf9]; decide)])
                  refine lv_iinc (k := 0) (v := nI (e0 + 1)) (lv' := [(4, .int (nI (e0 + 1))), (3, .int (nI n0)), (2, .int (u)), (0, .ref mm), (1, .int (nI a))]) hx hb dd_Mo_sync_146 hl rfl (nI_1 _) (by decide) rfl (fun ls hl => ?_)
                  refine lv_goto (tgt := 94) hx hb dd_Mo_sync_149 (by decide) ?_
                  exact ih (e0 + 1) ns1 (L1 ++ [mq_sr A a e0]) V1 A1 M1 H locs ls (by omega) hR hV (by rw [hr2.1, hgo]) (by rw [mq_ss_s, mq_kT (by rw [ho0.1]; exact hk9), if_pos rfl, hss]; unfold mq_sr; rw [ho0.1]) hA (fun q hq9 => ho q (by omega)) (fun e he => by rw [hr2.2]; by_cases e9 : e = e0; (rw [e9]; exact Or.inr (Or.inl ⟨hk9, ho0⟩)); exact hse e (by omega)) ⟨hn1.1, by omega⟩ hF hM hS (lv_sub hl [0, 1, 2, 3, 4] rfl)
                ·
                  refine lv_aload_n hx hb dd_Mo_sync_139 rfl (lv_at hl 3 rfl) ?_
                  refine lv_iload_n hx hb dd_Mo_sync_140 rfl (lv_at hl 4 rfl) ?_
                  refine lv_iload hx hb dd_Mo_sync_141 (lv_at hl 0 rfl) ?_
                  have hlt9 : mq_lk A (nI cl) a e0 = true := Bool.of_not_eq_false (fun q => h136 (zI_0.mpr q))
                  refine mw_V (As := [.int (nI a), .int (nI e0)]) (rest := []) E (cc_Mo_issue l D z (M1) mm ra V1 A1 S a e0 ns1 lf cl kc ka gm hR ha0 (by omega) hv0 hv1 hv11 hv14 hka hkc (by rw [hA 10 (by decide) (by decide) (by decide) (by decide)]; exact hgm) hlf hcl (tn e0) (by rw [hA 20 (by decide) (by decide) (by decide) (by decide)]; exact htn e0 (by omega))) ky_Mo_issue kv_Mo_issue tw_Mo_201 hM hS hR.m rfl rfl rfl hl.1 rfl (Nat.le_of_ble_eq_true rfl) dd_Mo_sync_143 (by first | decide | exact ⟨by dsimp only; omega, by dsimp only; omega⟩) (by decide) (fun v M1 H locs hp hM hS => ?_)
                  obtain ⟨rfl, ⟨V2, A2, hR, hV2, hA2⟩, hF2⟩ := hp
                  have hF := hF.trans hF2
                  have hr2 := rn_es_y (ent := (ru_f2 (mq_EF A) u)) (f := (mq_fr A (nI cl) a)) (ns := ns) ht9.1 ht9.2 (by unfold mq_fr; rw [if_pos hlt9])
                  have b26 : A2 26 = upd (A1 26) (60 * a + e0) (nI (ns1 + 1)) := by rw [hA2]; rfl
                  have b27 : A2 27 = upd (A1 27) (60 * a + e0) (nI ka) := by rw [hA2]; rfl
                  have b28 : A2 28 = upd (A1 28) (60 * a + e0) (nI cl) := by rw [hA2]; rfl
                  have b29 : A2 29 = upd (A1 29) (60 * a + e0) (nI (min (cl + tn e0) (gm ka + lf))) := by rw [hA2]; exact va_up_self _ _ _
                  have hlen : (rn_N (ru_f2 (mq_EF A) u) (mq_fr A (nI cl) a) (mq_es A e0)).length = ns1 - ns := by
                    have h9 := (rn_1 (ru_f2 (mq_EF A) u) (mq_fr A (nI cl) a) ns (mq_es A e0)).1
                    rw [hgo] at h9
                    have h9 : ns1 = ns + _ := h9
                    omega
                  have hne2 : nI (ns1 + 1) ≠ 0 := nI_ne0 (by omega) (by omega)
                  refine W.eq (g2 := F0 m 146 ls []) rfl ?_
                  refine lv_iinc (k := 0) (v := nI (e0 + 1)) (lv' := [(4, .int (nI (e0 + 1))), (3, .int (nI n0)), (2, .int (u)), (0, .ref mm), (1, .int (nI a))]) hx hb dd_Mo_sync_146 hl rfl (nI_1 _) (by decide) rfl (fun ls hl => ?_)
                  refine lv_goto (tgt := 94) hx hb dd_Mo_sync_149 (by decide) ?_
                  refine ih (e0 + 1) (ns1 + 1) (L1 ++ [ns1 + 1]) V2 A2 M1 H locs ls (by omega) hR (by rw [hV2, hV]; funext k; by_cases e9 : k = 14; (rw [e9, va_up_self, va_up_self]); rw [va_up_ne _ _ e9, va_up_ne _ _ e9, va_up_ne _ _ e9]) (by rw [hr2.1, hgo]) ?_ (fun k h1 h2 h3 h4 => by rw [hA2, va_up_ne _ _ h4, va_up_ne _ _ h3, va_up_ne _ _ h2, va_up_ne _ _ h1]; exact hA k h1 h2 h3 h4) (fun q hq9 => by rw [b26, b27, b28, b29, up_n (by omega), up_n (by omega), up_n (by omega), up_n (by omega)]; exact ho q (by omega)) (fun e he => ?_) ⟨by omega, by omega⟩ hF hM hS (lv_sub hl [0, 1, 2, 3, 4] rfl)
                  · rw [mq_ss_s, mq_kT (by rw [b26, up_s]; exact hne2), if_pos rfl, mq_ss_c e0 (fun e he => by rw [b26, up_n (by omega)]), hss]
                    unfold mq_sr
                    rw [b26, up_s, nI_clamp (by omega)]
                  · rw [hr2.2]
                    by_cases e9 : e = e0
                    · rw [e9]
                      refine Or.inr (Or.inr ⟨ns1 - ns, ?_, ?_, ?_, ?_, ?_⟩)
                      · rw [← hlen, List.getElem?_concat_length]
                      · rw [b26, up_s, show ns + 1 + (ns1 - ns) = ns1 + 1 by omega]
                      · rw [b27, up_s]
                      · rw [b28, up_s]
                      · rw [b29, up_s]
                    · exact ((hse e (by omega)).c (by rw [b26, up_n (by omega)]) (by rw [b27, up_n (by omega)]) (by rw [b28, up_n (by omega)]) (by rw [b29, up_n (by omega)])).app
              ·
                refine lv_aload_n hx hb dd_Mo_sync_113 rfl (lv_at hl 3 rfl) ?_
                refine gf_Mo_54 E hM hR.m ((mo_at (by decide)).trans (congrArg some (mq_va rfl))) dd_Mo_sync_114 ?_
                have w26 : M1 (ra 26) = some (.inl (D.1 100, 180, .inl (A1 26))) := hR.w 26 rfl (by decide)
                refine lv_bipush (v := nI 60) hx hb dd_Mo_sync_117 (by decide) ?_
                refine lv_iload_n hx hb dd_Mo_sync_119 rfl (lv_at hl 4 rfl) ?_
                refine lv_imul hx hb dd_Mo_sync_120 ?_
                refine mw_topi (y := nI (60 * a)) (pk_mul _ _) ?_
                refine lv_iload hx hb dd_Mo_sync_121 (lv_at hl 0 rfl) ?_
                refine lv_iadd hx hb dd_Mo_sync_123 ?_
                refine mw_topi (y := nI ((60 * a) + e0)) (nI_add _ _) ?_
                refine lv_iconst (v := nI 0) hx hb dd_Mo_sync_124 (by decide) ?_
                have w26 : M1 (ra 26) = some (.inl (D.1 100, 180, .inl (A1 26))) := hR.w 26 rfl (by decide)
                refine mw_iast hx hb E.K hM E.zz hS 0 w26 rfl (vp_in_nI (by omega) (by omega)) dd_Mo_sync_125 (fun H locs hM hS => ?_)
                rw [nI_clamp (by omega)] at hM
                have hM : mw_at D mg_cl z (va_up M1 (ra 26) (some (.inl (D.1 100, 180, .inl ((upd (A1 26) ((60 * a) + e0) (nI 0))))))) H := hM
                obtain ⟨M1, hM1⟩ : ∃ M9 : mw_M, M9 = va_up M1 (ra 26) (some (.inl (D.1 100, 180, .inl ((upd (A1 26) ((60 * a) + e0) (nI 0)))))) := ⟨_, rfl⟩
                rw [← hM1] at hM
                obtain ⟨A25, hA25⟩ : ∃ A9 : Nat → Nat → Int32, A9 = va_up A1 26 (upd (A1 26) ((60 * a) + e0) (nI 0)) := ⟨_, rfl⟩
                have hR := hR.setA 26 rfl (by decide) hM1 hA25
                have hF := mw_fu hM1 hF (mq_Pa (k := 26) rfl)
                have hz2 : A25 26 (60 * a + e0) = 0 := by rw [hA25, va_up_self, up_s]; rfl
                have hk2 : ∀ q : Nat, q ≠ 60 * a + e0 → A25 26 q = A1 26 q := fun q hq9 => by rw [hA25, va_up_self, up_n hq9]
                have hr2 := rn_es_n (f := (mq_fr A (nI cl) a)) (ns := ns) (zI_0.mp h110)
                refine lv_goto (tgt := 146) hx hb dd_Mo_sync_126 (by decide) ?_
                refine lv_iinc (k := 0) (v := nI (e0 + 1)) (lv' := [(4, .int (nI (e0 + 1))), (3, .int (nI n0)), (2, .int (u)), (0, .ref mm), (1, .int (nI a))]) hx hb dd_Mo_sync_146 hl rfl (nI_1 _) (by decide) rfl (fun ls hl => ?_)
                refine lv_goto (tgt := 94) hx hb dd_Mo_sync_149 (by decide) ?_
                exact ih (e0 + 1) ns1 L1 V1 A25 M1 H locs ls (by omega) hR hV (hr2.1.trans hgo) (by rw [mq_ss_s, mq_kF hz2, if_neg (by decide), List.append_nil, mq_ss_c e0 (fun e he => hk2 _ (by omega))]; exact hss) (fun k h1 h2 h3 h4 => by rw [hA25, va_up_ne _ _ h1]; exact hA k h1 h2 h3 h4) (fun q hq9 => by rw [hk2 q (by omega), hA25, va_up_ne _ _ (by decide), va_up_ne _ _ (by decide), va_up_ne _ _ (by decide)]; exact ho q (by omega)) (fun e he => by rw [hr2.2]; by_cases e9 : e = e0; (rw [e9]; exact Or.inl hz2); exact (hse e (by omega)).c (hk2 _ (by omega)) (by rw [hA25, va_up_ne _ _ (by decide)]) (by rw [hA25, va_up_ne _ _ (by decide)]) (by rw [hA25, va_up_ne _ _ (by decide)])) ⟨hn1.1, by omega⟩ hF hM hS (lv_sub hl [0, 1, 2, 3, 4] rfl)
        exact loop94 mk 0 ns [] V A M H locs ls (by omega) hR (by rw [← hv14]; exact (va_up_idI V 14).symm) rfl rfl (fun _ _ _ _ _ => rfl) (fun _ _ => ⟨rfl, rfl, rfl, rfl⟩) (fun e h => absurd h (by omega)) ⟨Nat.le_refl _, by omega⟩ mw_fr.rf hM hS (lv_sub hl [0, 1, 2, 3, 4] rfl)
      refine lv_iload_n hx hb dd_Mo_sync_72 rfl (lv_at hl 0 rfl) ?_
      refine lv_if_le (tgt := 91) hx hb dd_Mo_sync_73 (by decide) (fun h73 => ?_) (fun h73 => ?_)
      ·
        have e73 := nI_le0 (by have := hcle; omega) h73
        exact join91 trivial H locs ls trivial hM hS (lv_sub hl [0, 1, 2, 3] rfl)
      ·
        have e73 := nI_nle0 (by have := hcle; omega) h73
        refine lv_aload_n hx hb dd_Mo_sync_76 rfl (lv_at hl 2 rfl) ?_
        refine lv_aload_n hx hb dd_Mo_sync_77 rfl (lv_at hl 2 rfl) ?_
        refine gf_Mo_183 E hM hR.m ((mo_at (by decide)).trans (congrArg some (mq_vi rfl hv11))) dd_Mo_sync_78 ?_
        refine mw_V (As := [.int (nI ka)]) (rest := []) E (cc_Mo_isGood l D z (M) mm (mq_v ra V) (ra 10) lf kc cl (nI ka) pr (A 10) gm (nI ka) hR.m (mq_vi rfl hv0) (mq_vi rfl hv1) (mq_vi rfl hv9) (mq_va rfl) (mq_vi rfl hv11) (mq_vi rfl hv12) (hR.w 10 rfl (by decide)) hgm hlf hkc hcl) ky_Mo_isGood kv_Mo_isGood tw_Mo_198 hM hS hR.m rfl rfl rfl hl.1 rfl (Nat.le_of_ble_eq_true rfl) dd_Mo_sync_81 (by first | decide | exact ⟨by dsimp only; omega, by dsimp only; omega⟩) (by decide) (fun v M1 H locs hp hM hS => ?_)
        obtain ⟨rfl, hq⟩ := hp
        have hq := hq.symm
        subst hq
        refine W.eq (g2 := F0 m 84 ls [.int (zI (mo_good kc lf gm (nI ka) cl))]) rfl ?_
        refine lv_if_ne (tgt := 91) hx hb dd_Mo_sync_84 (by decide) (fun h84 => ?_) (fun h84 => ?_)
        ·
          exact join91 trivial H locs ls trivial hM hS (lv_sub hl [0, 1, 2, 3] rfl)
        ·
          exact absurd (hok.elim (fun q => absurd e73 (by rw [hn0, q]; decide)) id) (by rw [zI_0.mp h84]; decide)
    have loop29 : ∀ (d9 : Nat) (n0 e0 : Nat) (H : Heap) (locs : List Loc) (ls : Array Slot), e0 + d9 = mk → n0 = (mq_es A e0).countP (fun e => ru_f2 (mq_EF A) u e && mq_lk A (nI cl) a e) → mw_at D mg_cl z M H → va_S (mw_A z) s.heap H locs → lv_has ls 5 [(3, .int (nI n0)), (4, .int (nI e0)), (2, .int (u)), (0, .ref mm), (1, .int (nI a))] → W p l e ({ frames := 1, cells := 0, slots := 0, locals := 26 } : Room) s m ([.ref mm, .int (nI a)] : List Value).toArray below meth c H locs (0) (0) (MQ below (mw_Q D z (fun v M' => v = some (.int (nI ((mq_es A mk).countP (fun e => ru_f2 (mq_EF A) (ru_set (mq_EF A) (mq_es A mk) (A 24 a) (A 25 a)) e && mq_lk A (nI cl) a e)))) ∧ (∃ ns1 L1 A1, rn_go (ru_f2 (mq_EF A) (ru_set (mq_EF A) (mq_es A mk) (A 24 a) (A 25 a))) (mq_fr A (nI cl) a) (mq_es A mk) ns = (ns1, L1) ∧ mq_R D M' mm ra (va_up V 14 (nI ns1)) A1 S ∧ mq_ss A1 a mk = L1 ∧ (∀ k : Nat, k ≠ 26 → k ≠ 27 → k ≠ 28 → k ≠ 29 → k ≠ 30 → k ≠ 31 → k ≠ 32 → A1 k = A k) ∧ (∀ q : Nat, (q < 60 * a ∨ 60 * a + mk ≤ q) → A1 26 q = A 26 q ∧ A1 27 q = A 27 q ∧ A1 28 q = A 28 q ∧ A1 29 q = A 29 q) ∧ (∀ e : Nat, e < mk → sy_e A A1 (rn_N (ru_f2 (mq_EF A) (ru_set (mq_EF A) (mq_es A mk) (A 24 a) (A 25 a))) (mq_fr A (nI cl) a) (mq_es A mk)) ns ka cl lf a e gm tn) ∧ A1 31 = upd (A 31) a (nI (kc - f0)) ∧ (∀ i : Nat, i < kc - f0 → A1 30 (4 * a + i) = nI (f0 + i)) ∧ (∀ q : Nat, (q < 4 * a ∨ 4 * a + 4 ≤ q) → A1 30 q = A 30 q) ∧ A1 32 = upd (A 32) a (V 22) ∧ ns ≤ ns1 ∧ ns1 ≤ ns + mk) ∧ mw_fr (mq_P mm ra) M M')) ([.ref mm, .int (nI a)] : List Value).toArray s 0 0 (mw_A z)) (F0 m 29 ls []) := by
      intro d9
      induction d9 with
      | zero =>
        intro n0 e0 H locs ls hp hu hM hS hl
        refine lv_iload hx hb dd_Mo_sync_29 (lv_at hl 1 rfl) ?_
        refine lv_aload_n hx hb dd_Mo_sync_31 rfl (lv_at hl 3 rfl) ?_
        refine gf_Mo_167 E hM hR.m ((mo_at (by decide)).trans (congrArg some (mq_vi rfl hv15))) dd_Mo_sync_32 ?_
        refine lv_icmp_ge (tgt := 72) hx hb dd_Mo_sync_35 (by decide) (fun h35 => ?_) (fun h35 => ?_)
        ·
          rw [nI_leI (by omega) (by omega)] at h35
          exact join72 n0 H locs ls (by rw [hu, show e0 = mk by omega]) hM hS (lv_sub hl [0, 2, 3, 4] rfl)
        ·
          rw [nI_leI (by omega) (by omega)] at h35
          omega
      | succ d9 ih =>
        intro n0 e0 H locs ls hp hu hM hS hl
        refine lv_iload hx hb dd_Mo_sync_29 (lv_at hl 1 rfl) ?_
        refine lv_aload_n hx hb dd_Mo_sync_31 rfl (lv_at hl 3 rfl) ?_
        refine gf_Mo_167 E hM hR.m ((mo_at (by decide)).trans (congrArg some (mq_vi rfl hv15))) dd_Mo_sync_32 ?_
        refine lv_icmp_ge (tgt := 72) hx hb dd_Mo_sync_35 (by decide) (fun h35 => ?_) (fun h35 => ?_)
        ·
          rw [nI_leI (by omega) (by omega)] at h35
          omega
        ·
          rw [nI_leI (by omega) (by omega)] at h35
          refine lv_aload_n hx hb dd_Mo_sync_38 rfl (lv_at hl 3 rfl) ?_
          refine lv_iload_n hx hb dd_Mo_sync_39 rfl (lv_at hl 2 rfl) ?_
          refine lv_iload hx hb dd_Mo_sync_40 (lv_at hl 1 rfl) ?_
          refine mw_V (As := [.int (u), .int (nI e0)]) (rest := []) E (cc_Mo_entitled l D z (M) mm ra V A S u e0 hR (by omega)) ky_Mo_entitled kv_Mo_entitled tw_Mo_192 hM hS hR.m rfl rfl rfl hl.1 rfl (Nat.le_of_ble_eq_true rfl) dd_Mo_sync_42 (by first | decide | exact ⟨by dsimp only; omega, by dsimp only; omega⟩) (by decide) (fun v M1 H locs hp hM hS => ?_)
          obtain ⟨rfl, hq⟩ := hp
          have hq := hq.symm
          subst hq
          refine W.eq (g2 := F0 m 45 ls [.int (zI (mq_th A e0 && ru_f2 (mq_EF A) u e0))]) rfl ?_
          refine lv_if_eq (tgt := 64) hx hb dd_Mo_sync_45 (by decide) (fun h45 => ?_) (fun h45 => ?_)
          ·
            refine lv_iload_n hx hb dd_Mo_sync_64 rfl (lv_at hl 0 rfl) ?_
            refine lv_istore_n (lv' := [(3, .int (nI n0)), (4, .int (nI e0)), (2, .int (u)), (0, .ref mm), (1, .int (nI a))]) hx hb dd_Mo_sync_65 rfl hl (by decide) rfl (fun ls hl => ?_)
            refine lv_iinc (k := 1) (v := nI (e0 + 1)) (lv' := [(4, .int (nI (e0 + 1))), (3, .int (nI n0)), (2, .int (u)), (0, .ref mm), (1, .int (nI a))]) hx hb dd_Mo_sync_66 hl rfl (nI_1 _) (by decide) rfl (fun ls hl => ?_)
            refine lv_goto (tgt := 29) hx hb dd_Mo_sync_69 (by decide) ?_
            exact ih n0 (e0 + 1) H locs ls (by omega) (by rw [sy_cn (p := (fun e => ru_f2 (mq_EF A) u e && mq_lk A (nI cl) a e)) (zI_0.mp h45)]; exact hu) hM hS (lv_sub hl [1, 0, 2, 3, 4] rfl)
          ·
            have ht9 : (mq_th A e0 && ru_f2 (mq_EF A) u e0) = true := Bool.of_not_eq_false (fun q => h45 (zI_0.mpr q))
            rw [Bool.and_eq_true] at ht9
            refine lv_aload_n hx hb dd_Mo_sync_48 rfl (lv_at hl 3 rfl) ?_
            refine lv_iload_n hx hb dd_Mo_sync_49 rfl (lv_at hl 4 rfl) ?_
            refine lv_iload hx hb dd_Mo_sync_50 (lv_at hl 1 rfl) ?_
            refine mw_V (As := [.int (nI a), .int (nI e0)]) (rest := []) E (cc_Mo_lacks l D z (M) mm ra V A S a e0 hR ha0 (by omega)) ky_Mo_lacks kv_Mo_lacks tw_Mo_195 hM hS hR.m rfl rfl rfl hl.1 rfl (Nat.le_of_ble_eq_true rfl) dd_Mo_sync_52 (by first | decide | exact ⟨by dsimp only; omega, by dsimp only; omega⟩) (by decide) (fun v M1 H locs hp hM hS => ?_)
            obtain ⟨rfl, hq⟩ := hp
            have hq := hq.symm
            subst hq
            rw [hv1]
            refine W.eq (g2 := F0 m 55 ls [.int (zI (mq_lk A (nI cl) a e0))]) rfl ?_
            refine lv_if_eq (tgt := 64) hx hb dd_Mo_sync_55 (by decide) (fun h55 => ?_) (fun h55 => ?_)
            ·
              refine lv_iload_n hx hb dd_Mo_sync_64 rfl (lv_at hl 0 rfl) ?_
              refine lv_istore_n (lv' := [(3, .int (nI n0)), (4, .int (nI e0)), (2, .int (u)), (0, .ref mm), (1, .int (nI a))]) hx hb dd_Mo_sync_65 rfl hl (by decide) rfl (fun ls hl => ?_)
              refine lv_iinc (k := 1) (v := nI (e0 + 1)) (lv' := [(4, .int (nI (e0 + 1))), (3, .int (nI n0)), (2, .int (u)), (0, .ref mm), (1, .int (nI a))]) hx hb dd_Mo_sync_66 hl rfl (nI_1 _) (by decide) rfl (fun ls hl => ?_)
              refine lv_goto (tgt := 29) hx hb dd_Mo_sync_69 (by decide) ?_
              exact ih n0 (e0 + 1) H locs ls (by omega) (by rw [mq_es_y ht9.1, List.countP_append, List.countP_cons_of_neg (by rw [zI_0.mp h55, Bool.and_false]; decide)]; exact hu) hM hS (lv_sub hl [1, 0, 2, 3, 4] rfl)
            ·
              refine lv_iload_n hx hb dd_Mo_sync_58 rfl (lv_at hl 0 rfl) ?_
              refine lv_iconst (v := nI 1) hx hb dd_Mo_sync_59 (by decide) ?_
              refine lv_iadd hx hb dd_Mo_sync_60 ?_
              refine mw_topi (y := nI (n0 + 1)) (nI_add _ _) ?_
              refine lv_goto (tgt := 65) hx hb dd_Mo_sync_61 (by decide) ?_
              refine lv_istore_n (lv' := [(3, .int (nI (n0 + 1))), (4, .int (nI e0)), (2, .int (u)), (0, .ref mm), (1, .int (nI a))]) hx hb dd_Mo_sync_65 rfl hl (by decide) rfl (fun ls hl => ?_)
              refine lv_iinc (k := 1) (v := nI (e0 + 1)) (lv' := [(4, .int (nI (e0 + 1))), (3, .int (nI (n0 + 1))), (2, .int (u)), (0, .ref mm), (1, .int (nI a))]) hx hb dd_Mo_sync_66 hl rfl (nI_1 _) (by decide) rfl (fun ls hl => ?_)
              refine lv_goto (tgt := 29) hx hb dd_Mo_sync_69 (by decide) ?_
              exact ih (n0 + 1) (e0 + 1) H locs ls (by omega) (by rw [mq_es_y ht9.1, List.countP_append, List.countP_cons_of_pos (by rw [ht9.2, Bool.of_not_eq_false (fun q => h55 (zI_0.mpr q))]; rfl), ← hu]; rfl) hM hS (lv_sub hl [1, 0, 2, 3, 4] rfl)
    exact loop29 mk 0 0 H locs ls (by omega) rfl hM hS (lv_sub hl [1, 0, 2, 3, 4] rfl)
  ·
    exact absurd rfl h11
