/-! the reference: reading a certificate -/
def ti (g : Nat → Nat) (k lo hi p : Nat) : Option Nat := if p < k ∧ lo ≤ g p ∧ g p ≤ hi then none else some p
theorem ti_te (g : Nat → Nat) (k x p : Nat) : ti g k x x p = te g k x p := by
  unfold ti te
  by_cases h : p < k ∧ g p = x
  · rw [if_pos h, if_pos ⟨h.1, by omega, by omega⟩]
  · rw [if_neg h, if_neg (fun q => h ⟨q.1, by omega⟩)]
theorem ti_ta {g : Nat → Nat} {k : Nat} (hb : ∀ j : Nat, j < k → g j < 256) (p : Nat) : ti g k 0 255 p = ta k p := by
  unfold ti ta
  by_cases h : p < k
  · rw [if_pos h, if_pos ⟨h, by omega, by have := hb p h; omega⟩]
  · rw [if_neg h, if_neg (fun q => h q.1)]
theorem ti_lt {g : Nat → Nat} {k lo hi p : Nat} (h : p < 2 ^ 20) : ∀ q : Nat, ti g k lo hi p = some q → q < 2 ^ 20 := fun q e => by
  unfold ti at e
  split at e
  · cases e
  · cases e
    exact h
theorem ti_N {g : Nat → Nat} {k lo hi p : Nat} (h : ti g k lo hi p = none) : p < k ∧ lo ≤ g p ∧ g p ≤ hi := by
  unfold ti at h
  by_cases hc : p < k ∧ lo ≤ g p ∧ g p ≤ hi
  · exact hc
  · rw [if_neg hc] at h
    cases h
theorem ti_S {g : Nat → Nat} {k lo hi p q : Nat} (h : ti g k lo hi p = some q) : q = p ∧ ¬ (p < k ∧ lo ≤ g p ∧ g p ≤ hi) := by
  unfold ti at h
  by_cases hc : p < k ∧ lo ≤ g p ∧ g p ≤ hi
  · rw [if_pos hc] at h
    cases h
  · rw [if_neg hc] at h
    cases h
    exact ⟨rfl, hc⟩
theorem mo_outN {a lo hi : Nat} (ha : a < 2 ^ 31) (hl : lo < 2 ^ 31) (hh : hi < 2 ^ 31) : mo_out (nI a) (nI lo) (nI hi) = decide (¬ (lo ≤ a ∧ a ≤ hi)) := by
  unfold mo_out
  by_cases h1 : a < lo
  · rw [decide_eq_true ((nI_ltI ha hl).mpr h1), Bool.true_or, decide_eq_true (by omega)]
  · rw [decide_eq_false (fun q => h1 ((nI_ltI ha hl).mp q)), Bool.false_or]
    by_cases h2 : hi < a
    · rw [decide_eq_true ((nI_ltI hh ha).mpr h2), decide_eq_true (by omega)]
    · rw [decide_eq_false (fun q => h2 ((nI_ltI hh ha).mp q)), decide_eq_false (by omega)]
theorem mo_outM {lo hi : Nat} (hl : lo < 2 ^ 31) : mo_out (-1) (nI lo) (nI hi) = true := by
  unfold mo_out
  rw [decide_eq_true (show (-1 : Int32) < nI lo by
    rw [Int32.lt_iff_toInt_lt, nI_toInt hl]
    show (-1 : Int) < _
    omega), Bool.true_or]
def rv_s (V V2 : Nat → Int32) : Prop := ∀ j : Nat, j ≠ 50 → j ≠ 51 → j ≠ 8 → V2 j = V j
theorem rv_t {V V1 V2 : Nat → Int32} (h1 : rv_s V V1) (h2 : rv_s V1 V2) : rv_s V V2 := fun j a b c => (h2 j a b c).trans (h1 j a b c)
theorem or_6 {a b c : Option Nat} (h : a = b.or c) (hn : a = none) : b = none ∧ c = none := ⟨or_l (h.symm.trans hn), or_r (h.symm.trans hn)⟩
theorem nI_z0 {x : Nat} (h : x < 2 ^ 31) : (0 : Int32) ≤ nI x := by
  rw [Int32.le_iff_toInt_le, nI_toInt h]
  show (0 : Int) ≤ _
  omega
theorem cc_Mo_error (l : Launch) (D : va_G) (z : Nat) (M : mw_M) (mm : Nat) (ra : Nat → Nat) (V : Nat → Int32) (A : Nat → Nat → Int32) (S : Nat → Int64) (k : Nat) (g : Nat → Nat) (pl : Nat) (eo : Option Nat) (a : Nat) (hR : mq_R D M mm ra V A S) (hk0 : k ≤ 100) (hg : ∀ j : Nat, j < k → A 2 j = nI (g j) ∧ g j < 256) (hv3 : V 3 = nI k) (hv50 : V 50 = nI pl) (hv51 : V 51 = eN eo) (heo : ∀ q : Nat, eo = some q → q < 2 ^ 20) (hpl : pl < 2 ^ 19) (hpk0 : eo = none → pl ≤ k) (ha : eo = none → a ≤ k) (ha2 : a < 2 ^ 20) : mw_C l yy_Mo_error bb_Mo_error 2 (Option.none : Option Jvm.ClassFile.FieldType) 0 0 0 0 D z M [.ref mm, .int (nI a)] (fun v M' => v = none ∧ (∃ V2, mq_R D M' mm ra V2 A S ∧ V2 3 = nI k ∧ V2 50 = nI pl ∧ V2 51 = eN (eo.or (some a)) ∧ rv_s V V2) ∧ mw_fr (mq_P mm ra) M M') := by
  refine mw_of (by decide) (Nat.le_of_ble_eq_true rfl) ?_
  intro p e s m below meth c ls E hr hk hnm hM hl
  have hx := E.x
  have hb := E.b
  have E : mw_E p m c bb_Mo_error 2 s _ D z "IdentityIssuerModel" := E
  have hl : lv_has ls 2 [(0, .ref mm), (1, .int (nI a))] := hl
  have hS : va_S (mw_A z) s.heap s.heap [] := va_S.rf
  have hF : mw_fr (mq_P mm ra) M M := mw_fr.rf
  refine lv_aload_n hx hb dd_Mo_error_0 rfl (lv_at hl 0 rfl) ?_
  refine gf_Mo_288 E hM hR.m ((mo_at (by decide)).trans (congrArg some (mq_vi rfl hv51))) dd_Mo_error_1 ?_
  by_cases hpk : eo = none
  ·
    refine mw_topi (y := -1) (by rw [hpk]; rfl) ?_
    have ha := ha hpk
    refine lv_if_ge (tgt := 27) hx hb dd_Mo_error_4 (by decide) (fun h4 => ?_) (fun h4 => ?_)
    ·
      exact absurd h4 (by decide)
    ·
      refine lv_aload_n hx hb dd_Mo_error_7 rfl (lv_at hl 0 rfl) ?_
      refine lv_iload_n hx hb dd_Mo_error_8 rfl (lv_at hl 1 rfl) ?_
      refine lv_aload_n hx hb dd_Mo_error_9 rfl (lv_at hl 0 rfl) ?_
      refine gf_Mo_122 E hM hR.m ((mo_at (by decide)).trans (congrArg some (mq_vi rfl hv3))) dd_Mo_error_10 ?_
      refine lv_icmp_ge (tgt := 20) hx hb dd_Mo_error_13 (by decide) (fun h13 => ?_) (fun h13 => ?_)
      ·
        rw [nI_leI (by omega) (by omega)] at h13
        refine lv_aload_n hx hb dd_Mo_error_20 rfl (lv_at hl 0 rfl) ?_
        refine gf_Mo_122 E hM hR.m ((mo_at (by decide)).trans (congrArg some (mq_vi rfl hv3))) dd_Mo_error_21 ?_
        refine pf_Mo_288 E hM hS hR.m (by rw [mo_len]; decide) dd_Mo_error_24 (fun H locs hM hS => ?_)
        rw [mo_set (by decide), mq_vu rfl] at hM
        obtain ⟨V21, hV21⟩ : ∃ V9 : Nat → Int32, V9 = va_up V 51 (nI k) := ⟨_, rfl⟩
        rw [← hV21] at hM
        obtain ⟨M1, hM1⟩ : ∃ M9 : mw_M, M9 = va_up M mm (some (.inr (13, mo_l (mq_v ra V21)))) := ⟨_, rfl⟩
        rw [← hM1] at hM
        have hR := hR.setV hM1
        have hF := mw_fu hM1 hF (Or.inl rfl)
        have hv3 := mq_vn hV21 hv3 (by decide)
        have hv50 := mq_vn hV21 hv50 (by decide)
        have hv51 := mq_vs hV21
        refine mr_v E hr hk hM hS (by decide) (by decide) ?_ dd_Mo_error_27
        exact ⟨rfl, ⟨_, hR, hv3, hv50, by rw [hpk]; first | exact hv51 | (show _ = nI a; rw [show a = k by omega]; exact hv51), fun j _ h _ => by rw [hV21, va_up_ne _ _ h]⟩, hF⟩
      ·
        rw [nI_leI (by omega) (by omega)] at h13
        refine lv_iload_n hx hb dd_Mo_error_16 rfl (lv_at hl 1 rfl) ?_
        refine lv_goto (tgt := 24) hx hb dd_Mo_error_17 (by decide) ?_
        refine pf_Mo_288 E hM hS hR.m (by rw [mo_len]; decide) dd_Mo_error_24 (fun H locs hM hS => ?_)
        rw [mo_set (by decide), mq_vu rfl] at hM
        obtain ⟨V22, hV22⟩ : ∃ V9 : Nat → Int32, V9 = va_up V 51 (nI a) := ⟨_, rfl⟩
        rw [← hV22] at hM
        obtain ⟨M1, hM1⟩ : ∃ M9 : mw_M, M9 = va_up M mm (some (.inr (13, mo_l (mq_v ra V22)))) := ⟨_, rfl⟩
        rw [← hM1] at hM
        have hR := hR.setV hM1
        have hF := mw_fu hM1 hF (Or.inl rfl)
        have hv3 := mq_vn hV22 hv3 (by decide)
        have hv50 := mq_vn hV22 hv50 (by decide)
        have hv51 := mq_vs hV22
        refine mr_v E hr hk hM hS (by decide) (by decide) ?_ dd_Mo_error_27
        exact ⟨rfl, ⟨_, hR, hv3, hv50, by rw [hpk]; first | exact hv51 | (show _ = nI a; rw [show a = k by omega]; exact hv51), fun j _ h _ => by rw [hV22, va_up_ne _ _ h]⟩, hF⟩
  ·
    obtain ⟨q9, hq9⟩ : ∃ q9 : Nat, eo = some q9 := by
      cases eo with
      | none => exact absurd rfl hpk
      | some x => exact ⟨x, rfl⟩
    have hl9 := heo q9 hq9
    refine mw_topi (y := nI q9) (by rw [hq9]; rfl) ?_
    refine lv_if_ge (tgt := 27) hx hb dd_Mo_error_4 (by decide) (fun h4 => ?_) (fun h4 => ?_)
    ·
      refine mr_v E hr hk hM hS (by decide) (by decide) ?_ dd_Mo_error_27
      exact ⟨rfl, ⟨V, hR, hv3, hv50, by rw [hv51, hq9]; rfl, fun _ _ _ _ => rfl⟩, hF⟩
    ·
      exact absurd h4 (fun q => q (nI_z0 (by omega)))
theorem cc_Mo_in (l : Launch) (D : va_G) (z : Nat) (M : mw_M) (mm : Nat) (ra : Nat → Nat) (V : Nat → Int32) (A : Nat → Nat → Int32) (S : Nat → Int64) (k : Nat) (g : Nat → Nat) (pl : Nat) (eo : Option Nat) (lo hi : Nat) (hR : mq_R D M mm ra V A S) (hk0 : k ≤ 100) (hg : ∀ j : Nat, j < k → A 2 j = nI (g j) ∧ g j < 256) (hv3 : V 3 = nI k) (hv50 : V 50 = nI pl) (hv51 : V 51 = eN eo) (heo : ∀ q : Nat, eo = some q → q < 2 ^ 20) (hpl : pl < 2 ^ 19) (hpk0 : eo = none → pl ≤ k) (hlo : lo < 256) (hhi : hi < 256) : mw_C l yy_Mo_in bb_Mo_in 4 (Option.some Jvm.ClassFile.FieldType.int) 1 22 0 0 D z M [.ref mm, .int (nI lo), .int (nI hi)] (fun v M' => v = some (.int (if pl < k then nI (g pl) else -1)) ∧ (∃ V2, mq_R D M' mm ra V2 A S ∧ V2 3 = nI k ∧ V2 50 = nI (pl + 1) ∧ V2 51 = eN (eo.or (ti g k lo hi pl)) ∧ rv_s V V2) ∧ mw_fr (mq_P mm ra) M M') := by
  refine mw_of (by decide) (Nat.le_of_ble_eq_true rfl) ?_
  intro p e s m below meth c ls E hr hk hnm hM hl
  have hx := E.x
  have hb := E.b
  have E : mw_E p m c bb_Mo_in 4 s _ D z "IdentityIssuerModel" := E
  have hl : lv_has ls 4 [(0, .ref mm), (1, .int (nI lo)), (2, .int (nI hi))] := hl
  have hS : va_S (mw_A z) s.heap s.heap [] := va_S.rf
  have hF : mw_fr (mq_P mm ra) M M := mw_fr.rf
  have hrv : rv_s V V := fun _ _ _ _ => rfl
  have hgg : pl < k → g pl < 256 := fun q => (hg pl q).2
  refine lv_aload_n hx hb dd_Mo_in_0 rfl (lv_at hl 0 rfl) ?_
  refine gf_Mo_291 E hM hR.m ((mo_at (by decide)).trans (congrArg some (mq_vi rfl hv50))) dd_Mo_in_1 ?_
  refine lv_aload_n hx hb dd_Mo_in_4 rfl (lv_at hl 0 rfl) ?_
  refine gf_Mo_122 E hM hR.m ((mo_at (by decide)).trans (congrArg some (mq_vi rfl hv3))) dd_Mo_in_5 ?_
  refine lv_icmp_ge (tgt := 23) hx hb dd_Mo_in_8 (by decide) (fun h8 => ?_) (fun h8 => ?_)
  ·
    rw [nI_leI (by omega) (by omega)] at h8
    have hpk1 : ¬ pl < k := by omega
    refine lv_iconst (v := -1) hx hb dd_Mo_in_23 (by decide) ?_
    refine lv_istore_n (lv' := [(3, .int (-1)), (0, .ref mm), (1, .int (nI lo)), (2, .int (nI hi))]) hx hb dd_Mo_in_24 rfl hl (by decide) rfl (fun ls hl => ?_)
    refine lv_iload_n hx hb dd_Mo_in_25 rfl (lv_at hl 0 rfl) ?_
    refine lv_iload_n hx hb dd_Mo_in_26 rfl (lv_at hl 2 rfl) ?_
    refine lv_iload_n hx hb dd_Mo_in_27 rfl (lv_at hl 3 rfl) ?_
    refine mw_S (As := [.int (-1), .int (nI lo), .int (nI hi)]) (rest := []) E (cc_Mo_outside l D z (M) (-1) (nI lo) (nI hi)) ky_Mo_outside kv_Mo_outside tw_Mo_118 hM hS rfl hl.1 rfl (Nat.le_of_ble_eq_true rfl) dd_Mo_in_28 (by first | decide | exact ⟨by dsimp only; omega, by dsimp only; omega⟩) (by decide) (fun v M1 H locs hp hM hS => ?_)
    obtain ⟨rfl, hq⟩ := hp
    have hq := hq.symm
    subst hq
    rw [mo_outM (by omega)]
    refine W.eq (g2 := F0 m 31 ls [.int (zI true)]) rfl ?_
    refine lv_if_eq (tgt := 42) hx hb dd_Mo_in_31 (by decide) (fun h31 => ?_) (fun h31 => ?_)
    ·
      exact absurd h31 (by decide)
    ·
      have hti : ti g k lo hi pl = some pl := if_neg (fun q => hpk1 q.1)
      refine lv_aload_n hx hb dd_Mo_in_34 rfl (lv_at hl 1 rfl) ?_
      refine lv_aload_n hx hb dd_Mo_in_35 rfl (lv_at hl 1 rfl) ?_
      refine gf_Mo_291 E hM hR.m ((mo_at (by decide)).trans (congrArg some (mq_vi rfl hv50))) dd_Mo_in_36 ?_
      refine mw_V (As := [.int (nI pl)]) (rest := []) E (cc_Mo_error l D z (M) mm ra V A S k g (pl) eo (pl) hR hk0 hg hv3 hv50 hv51 heo (by omega) hpk0 (hpk0) (by omega)) ky_Mo_error kv_Mo_error tw_Mo_294 hM hS hR.m rfl rfl rfl hl.1 rfl (Nat.le_of_ble_eq_true rfl) dd_Mo_in_39 (by first | decide | exact ⟨by dsimp only; omega, by dsimp only; omega⟩) (by decide) (fun v M1 H locs hp hM hS => ?_)
      obtain ⟨rfl, ⟨V21, hR, hv3, hv50, hv51, hr2⟩, hF2⟩ := hp
      have hF := hF.trans hF2
      have hrv := rv_t hrv hr2
      obtain ⟨eo1, heo1⟩ : ∃ o9 : Option Nat, o9 = eo.or (some (pl)) := ⟨_, rfl⟩
      rw [← heo1] at hv51
      have hleo1 : ∀ q : Nat, eo1 = some q → q < 2 ^ 20 := by rw [heo1]; exact eN_or heo (some_lt (by omega))
      refine W.eq (g2 := F0 m 42 ls []) rfl ?_
      refine lv_aload_n hx hb dd_Mo_in_42 rfl (lv_at hl 1 rfl) ?_
      refine lv_dup hx hb dd_Mo_in_43 rfl ?_
      refine gf_Mo_291 E hM hR.m ((mo_at (by decide)).trans (congrArg some (mq_vi rfl hv50))) dd_Mo_in_44 ?_
      refine lv_iconst (v := nI 1) hx hb dd_Mo_in_47 (by decide) ?_
      refine lv_iadd hx hb dd_Mo_in_48 ?_
      refine mw_topi (y := nI (pl + 1)) (nI_add _ _) ?_
      refine pf_Mo_291 E hM hS hR.m (by rw [mo_len]; decide) dd_Mo_in_49 (fun H locs hM hS => ?_)
      rw [mo_set (by decide), mq_vu rfl] at hM
      obtain ⟨V22, hV22⟩ : ∃ V9 : Nat → Int32, V9 = va_up V21 50 (nI (pl + 1)) := ⟨_, rfl⟩
      rw [← hV22] at hM
      obtain ⟨M1, hM1⟩ : ∃ M9 : mw_M, M9 = va_up M1 mm (some (.inr (13, mo_l (mq_v ra V22)))) := ⟨_, rfl⟩
      rw [← hM1] at hM
      have hR := hR.setV hM1
      have hF := mw_fu hM1 hF (Or.inl rfl)
      have hv3 := mq_vn hV22 hv3 (by decide)
      have hv51 := mq_vn hV22 hv51 (by decide)
      have hv50 := mq_vs hV22
      refine lv_iload_n hx hb dd_Mo_in_52 rfl (lv_at hl 0 rfl) ?_
      refine mr_i E hr hk hM hS (by decide) (by decide) ?_ dd_Mo_in_53
      exact ⟨by rw [if_neg hpk1], ⟨_, hR, hv3, hv50, by rw [hti, ← heo1]; exact hv51, fun j a b c9 => by have h9 := hrv j a b c9; rw [hV22, va_up_ne _ _ a, h9]⟩, hF⟩
  ·
    rw [nI_leI (by omega) (by omega)] at h8
    have hpk1 : pl < k := by omega
    have hgp := (hg pl hpk1).2
    refine lv_aload_n hx hb dd_Mo_in_11 rfl (lv_at hl 0 rfl) ?_
    refine gf_Mo_7 E hM hR.m ((mo_at (by decide)).trans (congrArg some (mq_va rfl))) dd_Mo_in_12 ?_
    have w2 : M (ra 2) = some (.inl (D.1 100, 100, .inl (A 2))) := hR.w 2 rfl (by decide)
    refine lv_aload_n hx hb dd_Mo_in_15 rfl (lv_at hl 0 rfl) ?_
    refine gf_Mo_291 E hM hR.m ((mo_at (by decide)).trans (congrArg some (mq_vi rfl hv50))) dd_Mo_in_16 ?_
    refine mw_iald hx hb E.K hM 0 w2 rfl (vp_in_nI (by omega) (by omega)) dd_Mo_in_19 ?_
    refine mw_topi (y := (A 2) pl) (by rw [nI_clamp (by omega)]) ?_
    refine mw_topi (y := nI (g pl)) ((hg pl hpk1).1) ?_
    refine lv_goto (tgt := 24) hx hb dd_Mo_in_20 (by decide) ?_
    refine lv_istore_n (lv' := [(3, .int (nI (g pl))), (0, .ref mm), (1, .int (nI lo)), (2, .int (nI hi))]) hx hb dd_Mo_in_24 rfl hl (by decide) rfl (fun ls hl => ?_)
    refine lv_iload_n hx hb dd_Mo_in_25 rfl (lv_at hl 0 rfl) ?_
    refine lv_iload_n hx hb dd_Mo_in_26 rfl (lv_at hl 2 rfl) ?_
    refine lv_iload_n hx hb dd_Mo_in_27 rfl (lv_at hl 3 rfl) ?_
    refine mw_S (As := [.int (nI (g pl)), .int (nI lo), .int (nI hi)]) (rest := []) E (cc_Mo_outside l D z (M) (nI (g pl)) (nI lo) (nI hi)) ky_Mo_outside kv_Mo_outside tw_Mo_118 hM hS rfl hl.1 rfl (Nat.le_of_ble_eq_true rfl) dd_Mo_in_28 (by first | decide | exact ⟨by dsimp only; omega, by dsimp only; omega⟩) (by decide) (fun v M1 H locs hp hM hS => ?_)
    obtain ⟨rfl, hq⟩ := hp
    have hq := hq.symm
    subst hq
    rw [mo_outN (by omega) (by omega) (by omega)]
    refine W.eq (g2 := F0 m 31 ls [.int (zI (decide (¬ (lo ≤ g pl ∧ g pl ≤ hi))))]) rfl ?_
    refine lv_if_eq (tgt := 42) hx hb dd_Mo_in_31 (by decide) (fun h31 => ?_) (fun h31 => ?_)
    ·
      have hti : ti g k lo hi pl = none := if_pos ⟨hpk1, Classical.byContradiction (fun q => absurd (zI_0.mp h31) (by rw [decide_eq_true q]; decide))⟩
      refine lv_aload_n hx hb dd_Mo_in_42 rfl (lv_at hl 1 rfl) ?_
      refine lv_dup hx hb dd_Mo_in_43 rfl ?_
      refine gf_Mo_291 E hM hR.m ((mo_at (by decide)).trans (congrArg some (mq_vi rfl hv50))) dd_Mo_in_44 ?_
      refine lv_iconst (v := nI 1) hx hb dd_Mo_in_47 (by decide) ?_
      refine lv_iadd hx hb dd_Mo_in_48 ?_
      refine mw_topi (y := nI (pl + 1)) (nI_add _ _) ?_
      refine pf_Mo_291 E hM hS hR.m (by rw [mo_len]; decide) dd_Mo_in_49 (fun H locs hM hS => ?_)
      rw [mo_set (by decide), mq_vu rfl] at hM
      obtain ⟨V23, hV23⟩ : ∃ V9 : Nat → Int32, V9 = va_up V 50 (nI (pl + 1)) := ⟨_, rfl⟩
      rw [← hV23] at hM
      obtain ⟨M1, hM1⟩ : ∃ M9 : mw_M, M9 = va_up M mm (some (.inr (13, mo_l (mq_v ra V23)))) := ⟨_, rfl⟩
      rw [← hM1] at hM
      have hR := hR.setV hM1
      have hF := mw_fu hM1 hF (Or.inl rfl)
      have hv3 := mq_vn hV23 hv3 (by decide)
      have hv51 := mq_vn hV23 hv51 (by decide)
      have hv50 := mq_vs hV23
      refine lv_iload_n hx hb dd_Mo_in_52 rfl (lv_at hl 0 rfl) ?_
      refine mr_i E hr hk hM hS (by decide) (by decide) ?_ dd_Mo_in_53
      exact ⟨by rw [if_pos hpk1], ⟨_, hR, hv3, hv50, by rw [hti, Option.or_none]; exact hv51, fun j a b c9 => by have h9 := hrv j a b c9; rw [hV23, va_up_ne _ _ a, h9]⟩, hF⟩
    ·
      have hti : ti g k lo hi pl = some pl := if_neg (fun q => h31 (zI_0.mpr (decide_eq_false (fun q2 => q2 q.2))))
      refine lv_aload_n hx hb dd_Mo_in_34 rfl (lv_at hl 1 rfl) ?_
      refine lv_aload_n hx hb dd_Mo_in_35 rfl (lv_at hl 1 rfl) ?_
      refine gf_Mo_291 E hM hR.m ((mo_at (by decide)).trans (congrArg some (mq_vi rfl hv50))) dd_Mo_in_36 ?_
      refine mw_V (As := [.int (nI pl)]) (rest := []) E (cc_Mo_error l D z (M) mm ra V A S k g (pl) eo (pl) hR hk0 hg hv3 hv50 hv51 heo (by omega) hpk0 (hpk0) (by omega)) ky_Mo_error kv_Mo_error tw_Mo_294 hM hS hR.m rfl rfl rfl hl.1 rfl (Nat.le_of_ble_eq_true rfl) dd_Mo_in_39 (by first | decide | exact ⟨by dsimp only; omega, by dsimp only; omega⟩) (by decide) (fun v M1 H locs hp hM hS => ?_)
      obtain ⟨rfl, ⟨V24, hR, hv3, hv50, hv51, hr2⟩, hF2⟩ := hp
      have hF := hF.trans hF2
      have hrv := rv_t hrv hr2
      obtain ⟨eo1, heo1⟩ : ∃ o9 : Option Nat, o9 = eo.or (some (pl)) := ⟨_, rfl⟩
      rw [← heo1] at hv51
      have hleo1 : ∀ q : Nat, eo1 = some q → q < 2 ^ 20 := by rw [heo1]; exact eN_or heo (some_lt (by omega))
      refine W.eq (g2 := F0 m 42 ls []) rfl ?_
      refine lv_aload_n hx hb dd_Mo_in_42 rfl (lv_at hl 1 rfl) ?_
      refine lv_dup hx hb dd_Mo_in_43 rfl ?_
      refine gf_Mo_291 E hM hR.m ((mo_at (by decide)).trans (congrArg some (mq_vi rfl hv50))) dd_Mo_in_44 ?_
      refine lv_iconst (v := nI 1) hx hb dd_Mo_in_47 (by decide) ?_
      refine lv_iadd hx hb dd_Mo_in_48 ?_
      refine mw_topi (y := nI (pl + 1)) (nI_add _ _) ?_
      refine pf_Mo_291 E hM hS hR.m (by rw [mo_len]; decide) dd_Mo_in_49 (fun H locs hM hS => ?_)
      rw [mo_set (by decide), mq_vu rfl] at hM
      obtain ⟨V25, hV25⟩ : ∃ V9 : Nat → Int32, V9 = va_up V24 50 (nI (pl + 1)) := ⟨_, rfl⟩
      rw [← hV25] at hM
      obtain ⟨M1, hM1⟩ : ∃ M9 : mw_M, M9 = va_up M1 mm (some (.inr (13, mo_l (mq_v ra V25)))) := ⟨_, rfl⟩
      rw [← hM1] at hM
      have hR := hR.setV hM1
      have hF := mw_fu hM1 hF (Or.inl rfl)
      have hv3 := mq_vn hV25 hv3 (by decide)
      have hv51 := mq_vn hV25 hv51 (by decide)
      have hv50 := mq_vs hV25
      refine lv_iload_n hx hb dd_Mo_in_52 rfl (lv_at hl 0 rfl) ?_
      refine mr_i E hr hk hM hS (by decide) (by decide) ?_ dd_Mo_in_53
      exact ⟨by rw [if_pos hpk1], ⟨_, hR, hv3, hv50, by rw [hti, ← heo1]; exact hv51, fun j a b c9 => by have h9 := hrv j a b c9; rw [hV25, va_up_ne _ _ a, h9]⟩, hF⟩
theorem nr_E2 (g : Nat → Nat) (k p : Nat) : nr_E g k p = ((ti g k 2 2 p).or (ti g k 1 4 (p + 1))).or (if p + 1 < k ∧ 1 ≤ g (p + 1) ∧ g (p + 1) ≤ 4 then nr_2 g k (p + 2) (g (p + 1)) else none) := by
  rw [ti_te, Option.or_assoc]
  unfold nr_E ti
  by_cases h : p + 1 < k ∧ 1 ≤ g (p + 1) ∧ g (p + 1) ≤ 4
  · rw [if_pos h, if_pos h, if_pos h, Option.none_or]
  · rw [if_neg h, if_neg h, if_neg h, Option.or_none]
theorem nr_2bad {g : Nat → Nat} {k f s i x : Nat} (hb : ∀ j : Nat, j < k → g j < 256) (hfi : f + i ≤ k) (his : i < s) (hth : 0 < i → g f ≤ 127) (h : ti g k 0 (if i = 0 then 127 else 255) (f + i) = some x) : nr_2 g k f s = some x := by
  obtain ⟨rfl, hn⟩ := ti_S h
  unfold nr_2
  by_cases hc : f + i < k
  · have hi0 : i = 0 := by
      refine Classical.byContradiction (fun q => ?_)
      rw [if_neg q] at hn
      exact hn ⟨hc, by omega, by have := hb _ hc; omega⟩
    subst hi0
    rw [if_pos rfl] at hn
    rw [show th g k f = some f from if_pos ⟨hc, Classical.byContradiction (fun q => hn ⟨hc, by omega, by show g f ≤ 127; omega⟩)⟩]
    rfl
  · rw [show th g k f = none from if_neg (fun q => by
      by_cases hi0 : i = 0
      · subst hi0
        omega
      · have := hth (by omega)
        omega), Option.none_or, show tm k f (f + s) = some (f + i) from by
      unfold tm
      rw [if_pos (by omega)]
      congr 1
      omega]
    rfl
theorem nr_2ok {g : Nat → Nat} {k f s : Nat} (hfs : f + s ≤ k) (hth : g f ≤ 127) : nr_2 g k f s = tz g k f s := by
  unfold nr_2
  rw [show th g k f = none from if_neg (by omega), show tm k f (f + s) = none from if_neg (by omega), Option.none_or, Option.none_or]
set_option maxHeartbeats 4000000 in
set_option maxRecDepth 100000 in
theorem cc_Mo_inNumber (l : Launch) (D : va_G) (z : Nat) (M : mw_M) (mm : Nat) (ra : Nat → Nat) (V : Nat → Int32) (A : Nat → Nat → Int32) (S : Nat → Int64) (k : Nat) (g : Nat → Nat) (pl : Nat) (eo : Option Nat) (hR : mq_R D M mm ra V A S) (hk0 : k ≤ 100) (hg : ∀ j : Nat, j < k → A 2 j = nI (g j) ∧ g j < 256) (hv3 : V 3 = nI k) (hv50 : V 50 = nI pl) (hv51 : V 51 = eN eo) (heo : ∀ q : Nat, eo = some q → q < 2 ^ 20) (hpl : pl < 2 ^ 18) (hpk0 : eo = none → pl ≤ k) : mw_C l yy_Mo_inNumber bb_Mo_inNumber 5 (Option.some Jvm.ClassFile.FieldType.int) 2 45 0 0 D z M [.ref mm] (fun v M' => (∃ (V2 : Nat → Int32) (pl' : Nat) (v0 : Int32), v = some (.int v0) ∧ mq_R D M' mm ra V2 A S ∧ V2 3 = nI k ∧ V2 50 = nI pl' ∧ V2 51 = eN (eo.or (nr_E g k pl)) ∧ rv_s V V2 ∧ (4 ≤ pl → 4 ≤ pl') ∧ pl' ≤ pl + 6 ∧ (eo.or (nr_E g k pl) = none → pl' = np g pl ∧ pl' ≤ k ∧ v0 = nI (vf_v g pl) ∧ vf_v g pl < 2 ^ 31)) ∧ mw_fr (mq_P mm ra) M M') := by
  refine mw_of (by decide) (Nat.le_of_ble_eq_true rfl) ?_
  intro p e s m below meth c ls E hr hk hnm hM hl
  have hx := E.x
  have hb := E.b
  have E : mw_E p m c bb_Mo_inNumber 5 s _ D z "IdentityIssuerModel" := E
  have hl : lv_has ls 5 [(0, .ref mm)] := hl
  have hS : va_S (mw_A z) s.heap s.heap [] := va_S.rf
  have hF : mw_fr (mq_P mm ra) M M := mw_fr.rf
  have hrv : rv_s V V := fun _ _ _ _ => rfl
  have hbb : ∀ j : Nat, j < k → g j < 256 := fun j q => (hg j q).2
  refine lv_aload_n hx hb dd_Mo_inNumber_0 rfl (lv_at hl 0 rfl) ?_
  refine lv_iconst (v := nI 2) hx hb dd_Mo_inNumber_1 (by decide) ?_
  refine lv_iconst (v := nI 2) hx hb dd_Mo_inNumber_2 (by decide) ?_
  refine mw_V (As := [.int (nI 2), .int (nI 2)]) (rest := []) E (cc_Mo_in l D z (M) mm ra V A S k g (pl) eo 2 2 hR hk0 hg hv3 hv50 hv51 heo (by omega) hpk0 (by omega) (by omega)) ky_Mo_in kv_Mo_in tw_Mo_297 hM hS hR.m rfl rfl rfl hl.1 rfl (Nat.le_of_ble_eq_true rfl) dd_Mo_inNumber_3 (by first | decide | exact ⟨by dsimp only; omega, by dsimp only; omega⟩) (by decide) (fun v M1 H locs hp hM hS => ?_)
  obtain ⟨rfl, ⟨V21, hR, hv3, hv50, hv51, hr2⟩, hF2⟩ := hp
  have hF := hF.trans hF2
  have hrv := rv_t hrv hr2
  obtain ⟨eo1, heo1⟩ : ∃ o9 : Option Nat, o9 = eo.or (ti g k 2 2 (pl)) := ⟨_, rfl⟩
  rw [← heo1] at hv51
  have hleo1 : ∀ q : Nat, eo1 = some q → q < 2 ^ 20 := by rw [heo1]; exact eN_or heo (ti_lt (by omega))
  have hkeo1 : eo1 = none → pl + 1 ≤ k := fun q => (ti_N (or_6 heo1 q).2).1
  refine W.eq (g2 := F0 m 6 ls [.int (if pl < k then nI (g (pl)) else -1)]) rfl ?_
  refine lv_pop hx hb dd_Mo_inNumber_6 rfl ?_
  refine lv_aload_n hx hb dd_Mo_inNumber_7 rfl (lv_at hl 0 rfl) ?_
  refine lv_iconst (v := nI 1) hx hb dd_Mo_inNumber_8 (by decide) ?_
  refine lv_iconst (v := nI 4) hx hb dd_Mo_inNumber_9 (by decide) ?_
  refine mw_V (As := [.int (nI 1), .int (nI 4)]) (rest := []) E (cc_Mo_in l D z (M1) mm ra V21 A S k g (pl + 1) eo1 1 4 hR hk0 hg hv3 hv50 hv51 hleo1 (by omega) hkeo1 (by omega) (by omega)) ky_Mo_in kv_Mo_in tw_Mo_297 hM hS hR.m rfl rfl rfl hl.1 rfl (Nat.le_of_ble_eq_true rfl) dd_Mo_inNumber_10 (by first | decide | exact ⟨by dsimp only; omega, by dsimp only; omega⟩) (by decide) (fun v M1 H locs hp hM hS => ?_)
  obtain ⟨rfl, ⟨V22, hR, hv3, hv50, hv51, hr2⟩, hF2⟩ := hp
  have hF := hF.trans hF2
  have hrv := rv_t hrv hr2
  obtain ⟨eo2, heo2⟩ : ∃ o9 : Option Nat, o9 = eo1.or (ti g k 1 4 (pl + 1)) := ⟨_, rfl⟩
  rw [← heo2] at hv51
  have hleo2 : ∀ q : Nat, eo2 = some q → q < 2 ^ 20 := by rw [heo2]; exact eN_or hleo1 (ti_lt (by omega))
  have hkeo2 : eo2 = none → pl + 1 + 1 ≤ k := fun q => (ti_N (or_6 heo2 q).2).1
  refine W.eq (g2 := F0 m 13 ls [.int (if pl + 1 < k then nI (g (pl + 1)) else -1)]) rfl ?_
  have hE2 : eo.or (nr_E g k pl) = eo2.or (if pl + 1 < k ∧ 1 ≤ g (pl + 1) ∧ g (pl + 1) ≤ 4 then nr_2 g k (pl + 2) (g (pl + 1)) else none) := by rw [nr_E2, ← Option.or_assoc, ← Option.or_assoc, ← heo1, ← heo2]
  obtain ⟨mv, hmv⟩ : ∃ x : Int32, x = if pl + 1 < k then nI (g (pl + 1)) else -1 := ⟨_, rfl⟩
  rw [← hmv]
  cases he2 : eo2 with
  | some q9 =>
    rw [he2] at hE2 hv51 hleo2
    have hl9 := hleo2 q9 rfl
    have hv51 : V22 51 = nI q9 := hv51
    refine lv_istore_n (lv' := [(1, .int (mv)), (0, .ref mm)]) hx hb dd_Mo_inNumber_13 rfl hl (by decide) rfl (fun ls hl => ?_)
    refine lv_iconst (v := nI 0) hx hb dd_Mo_inNumber_14 (by decide) ?_
    refine lv_istore_n (lv' := [(2, .int (nI 0)), (1, .int (mv)), (0, .ref mm)]) hx hb dd_Mo_inNumber_15 rfl hl (by decide) rfl (fun ls hl => ?_)
    refine lv_aload_n hx hb dd_Mo_inNumber_16 rfl (lv_at hl 2 rfl) ?_
    refine gf_Mo_291 E hM hR.m ((mo_at (by decide)).trans (congrArg some (mq_vi rfl hv50))) dd_Mo_inNumber_17 ?_
    refine lv_istore_n (lv' := [(3, .int (nI (pl + 1 + 1))), (2, .int (nI 0)), (1, .int (mv)), (0, .ref mm)]) hx hb dd_Mo_inNumber_20 rfl hl (by decide) rfl (fun ls hl => ?_)
    refine lv_iconst (v := nI 0) hx hb dd_Mo_inNumber_21 (by decide) ?_
    refine lv_istore (lv' := [(4, .int (nI 0)), (3, .int (nI (pl + 1 + 1))), (2, .int (nI 0)), (1, .int (mv)), (0, .ref mm)]) hx hb dd_Mo_inNumber_22 hl (by decide) rfl (fun ls hl => ?_)
    refine lv_iload hx hb dd_Mo_inNumber_24 (lv_at hl 0 rfl) ?_
    refine lv_iload_n hx hb dd_Mo_inNumber_26 rfl (lv_at hl 3 rfl) ?_
    refine lv_icmp_ge (tgt := 68) hx hb dd_Mo_inNumber_27 (by decide) (fun h27 => ?_) (fun h27 => ?_)
    ·
      refine lv_aload_n hx hb dd_Mo_inNumber_68 rfl (lv_at hl 4 rfl) ?_
      refine gf_Mo_288 E hM hR.m ((mo_at (by decide)).trans (congrArg some (mq_vi rfl hv51))) dd_Mo_inNumber_69 ?_
      refine lv_if_ge (tgt := 108) hx hb dd_Mo_inNumber_72 (by decide) (fun h72 => ?_) (fun h72 => ?_)
      ·
        refine lv_iload_n hx hb dd_Mo_inNumber_108 rfl (lv_at hl 2 rfl) ?_
        refine mr_i E hr hk hM hS (by decide) (by decide) ?_ dd_Mo_inNumber_109
        exact ⟨⟨_, _, _, rfl, hR, hv3, hv50, by rw [hE2.trans rfl]; exact hv51, hrv, by omega, by omega, fun q => by rw [hE2.trans rfl] at q; cases q⟩, hF⟩
      ·
        exact absurd (nI_z0 (by omega)) h72
    ·
      refine lv_aload_n hx hb dd_Mo_inNumber_30 rfl (lv_at hl 4 rfl) ?_
      refine gf_Mo_288 E hM hR.m ((mo_at (by decide)).trans (congrArg some (mq_vi rfl hv51))) dd_Mo_inNumber_31 ?_
      refine lv_if_ge (tgt := 68) hx hb dd_Mo_inNumber_34 (by decide) (fun h34 => ?_) (fun h34 => ?_)
      ·
        refine lv_aload_n hx hb dd_Mo_inNumber_68 rfl (lv_at hl 4 rfl) ?_
        refine gf_Mo_288 E hM hR.m ((mo_at (by decide)).trans (congrArg some (mq_vi rfl hv51))) dd_Mo_inNumber_69 ?_
        refine lv_if_ge (tgt := 108) hx hb dd_Mo_inNumber_72 (by decide) (fun h72 => ?_) (fun h72 => ?_)
        ·
          refine lv_iload_n hx hb dd_Mo_inNumber_108 rfl (lv_at hl 2 rfl) ?_
          refine mr_i E hr hk hM hS (by decide) (by decide) ?_ dd_Mo_inNumber_109
          exact ⟨⟨_, _, _, rfl, hR, hv3, hv50, by rw [hE2.trans rfl]; exact hv51, hrv, by omega, by omega, fun q => by rw [hE2.trans rfl] at q; cases q⟩, hF⟩
        ·
          exact absurd (nI_z0 (by omega)) h72
      ·
        exact absurd (nI_z0 (by omega)) h34
  | none =>
    rw [he2] at hv51 hleo2 hE2
    have hc1 := ti_N (or_6 heo2 he2).2
    rw [if_pos hc1, Option.none_or] at hE2
    have heo1n := (or_6 heo2 he2).1
    obtain ⟨s0, hs0⟩ : ∃ s9 : Nat, s9 = g (pl + 1) := ⟨_, rfl⟩
    rw [← hs0] at hE2 hc1
    have hv51 : V22 51 = -1 := hv51
    refine mw_topi (y := nI s0) (by rw [hmv, if_pos hc1.1, ← hs0]) ?_
    refine lv_istore_n (lv' := [(1, .int (nI s0)), (0, .ref mm)]) hx hb dd_Mo_inNumber_13 rfl hl (by decide) rfl (fun ls hl => ?_)
    refine lv_iconst (v := nI 0) hx hb dd_Mo_inNumber_14 (by decide) ?_
    refine lv_istore_n (lv' := [(2, .int (nI 0)), (1, .int (nI s0)), (0, .ref mm)]) hx hb dd_Mo_inNumber_15 rfl hl (by decide) rfl (fun ls hl => ?_)
    refine lv_aload_n hx hb dd_Mo_inNumber_16 rfl (lv_at hl 2 rfl) ?_
    refine gf_Mo_291 E hM hR.m ((mo_at (by decide)).trans (congrArg some (mq_vi rfl hv50))) dd_Mo_inNumber_17 ?_
    refine lv_istore_n (lv' := [(3, .int (nI (pl + 1 + 1))), (2, .int (nI 0)), (1, .int (nI s0)), (0, .ref mm)]) hx hb dd_Mo_inNumber_20 rfl hl (by decide) rfl (fun ls hl => ?_)
    refine lv_iconst (v := nI 0) hx hb dd_Mo_inNumber_21 (by decide) ?_
    refine lv_istore (lv' := [(4, .int (nI 0)), (3, .int (nI (pl + 1 + 1))), (2, .int (nI 0)), (1, .int (nI s0)), (0, .ref mm)]) hx hb dd_Mo_inNumber_22 hl (by decide) rfl (fun ls hl => ?_)
    have loop24 : ∀ (d9 : Nat) (i : Nat) (V3 : Nat → Int32) (M3 : mw_M) (H : Heap) (locs : List Loc) (ls : Array Slot), i + d9 = s0 → pl + 2 + i ≤ k → (0 < i → g (pl + 2) ≤ 127) → mq_R D M3 mm ra V3 A S → V3 3 = nI k → V3 50 = nI (pl + 2 + i) → V3 51 = -1 → rv_s V V3 → mw_fr (mq_P mm ra) M M3 → mw_at D mg_cl z M3 H → va_S (mw_A z) s.heap H locs → lv_has ls 5 [(4, .int (nI i)), (3, .int (nI (pl + 1 + 1))), (2, .int (nI (nr_v g (pl + 2) i))), (1, .int (nI s0)), (0, .ref mm)] → W p l e ({ frames := 2, cells := 0, slots := 0, locals := 45 } : Room) s m ([.ref mm] : List Value).toArray below meth c H locs (0) (0) (MQ below (mw_Q D z (fun v M' => (∃ (V2 : Nat → Int32) (pl' : Nat) (v0 : Int32), v = some (.int v0) ∧ mq_R D M' mm ra V2 A S ∧ V2 3 = nI k ∧ V2 50 = nI pl' ∧ V2 51 = eN (eo.or (nr_E g k pl)) ∧ rv_s V V2 ∧ (4 ≤ pl → 4 ≤ pl') ∧ pl' ≤ pl + 6 ∧ (eo.or (nr_E g k pl) = none → pl' = np g pl ∧ pl' ≤ k ∧ v0 = nI (vf_v g pl) ∧ vf_v g pl < 2 ^ 31)) ∧ mw_fr (mq_P mm ra) M M')) ([.ref mm] : List Value).toArray s 0 0 (mw_A z)) (F0 m 24 ls []) := by
      intro d9
      induction d9 with
      | zero =>
        intro i V3 M3 H locs ls hi hik hth hR hv3 hv50 hv51 hrv hF hM hS hl
        refine lv_iload hx hb dd_Mo_inNumber_24 (lv_at hl 0 rfl) ?_
        refine lv_iload_n hx hb dd_Mo_inNumber_26 rfl (lv_at hl 3 rfl) ?_
        refine lv_icmp_ge (tgt := 68) hx hb dd_Mo_inNumber_27 (by decide) (fun h27 => ?_) (fun h27 => ?_)
        ·
          rw [nI_leI (by omega) (by omega)] at h27
          have hiE : i = s0 := by omega
          subst hiE
          have hth := hth (by omega)
          rw [nr_2ok (by omega) hth] at hE2
          refine lv_aload_n hx hb dd_Mo_inNumber_68 rfl (lv_at hl 4 rfl) ?_
          refine gf_Mo_288 E hM hR.m ((mo_at (by decide)).trans (congrArg some (mq_vi rfl hv51))) dd_Mo_inNumber_69 ?_
          refine lv_if_ge (tgt := 108) hx hb dd_Mo_inNumber_72 (by decide) (fun h72 => ?_) (fun h72 => ?_)
          ·
            exact absurd h72 (by decide)
          ·
            refine lv_iload_n hx hb dd_Mo_inNumber_75 rfl (lv_at hl 3 rfl) ?_
            refine lv_iconst (v := nI 1) hx hb dd_Mo_inNumber_76 (by decide) ?_
            refine lv_icmp_le (tgt := 108) hx hb dd_Mo_inNumber_77 (by decide) (fun h77 => ?_) (fun h77 => ?_)
            ·
              rw [nI_leI (by omega) (by omega)] at h77
              refine lv_iload_n hx hb dd_Mo_inNumber_108 rfl (lv_at hl 2 rfl) ?_
              refine mr_i E hr hk hM hS (by decide) (by decide) ?_ dd_Mo_inNumber_109
              have hE4 : eo.or (nr_E g k pl) = none := hE2.trans (if_neg (fun q => by omega))
              exact ⟨⟨_, _, _, rfl, hR, hv3, hv50, by rw [hE4]; exact hv51, hrv, by omega, by omega, fun _ => ⟨by unfold np; rw [← hs0], hik, by unfold vf_v; rw [← hs0], by unfold vf_v; rw [← hs0]; exact nr_31 (s := i) ⟨by omega, by omega⟩ hth (fun j hj => hbb _ (by omega))⟩⟩, hF⟩
            ·
              rw [nI_leI (by omega) (by omega)] at h77
              refine lv_aload_n hx hb dd_Mo_inNumber_80 rfl (lv_at hl 4 rfl) ?_
              refine gf_Mo_7 E hM hR.m ((mo_at (by decide)).trans (congrArg some (mq_va rfl))) dd_Mo_inNumber_81 ?_
              have w2 : M3 (ra 2) = some (.inl (D.1 100, 100, .inl (A 2))) := hR.w 2 rfl (by decide)
              refine lv_iload_n hx hb dd_Mo_inNumber_84 rfl (lv_at hl 1 rfl) ?_
              refine mw_iald hx hb E.K hM 0 w2 rfl (vp_in_nI (by omega) (by omega)) dd_Mo_inNumber_85 ?_
              refine mw_topi (y := (A 2) (pl + 1 + 1)) (by rw [nI_clamp (by omega)]) ?_
              refine mw_topi (y := nI (g (pl + 2))) ((hg (pl + 2) (by omega)).1) ?_
              have hg9 := hbb (pl + 2) (by omega)
              refine lv_if_ne (tgt := 108) hx hb dd_Mo_inNumber_86 (by decide) (fun h86 => ?_) (fun h86 => ?_)
              ·
                refine lv_iload_n hx hb dd_Mo_inNumber_108 rfl (lv_at hl 2 rfl) ?_
                refine mr_i E hr hk hM hS (by decide) (by decide) ?_ dd_Mo_inNumber_109
                have hE4 : eo.or (nr_E g k pl) = none := hE2.trans (if_neg (fun q => h86 (by rw [q.2.2.1]; rfl)))
                exact ⟨⟨_, _, _, rfl, hR, hv3, hv50, by rw [hE4]; exact hv51, hrv, by omega, by omega, fun _ => ⟨by unfold np; rw [← hs0], hik, by unfold vf_v; rw [← hs0], by unfold vf_v; rw [← hs0]; exact nr_31 (s := i) ⟨by omega, by omega⟩ hth (fun j hj => hbb _ (by omega))⟩⟩, hF⟩
              ·
                have h86 : g (pl + 2) = 0 := (nI_eq (b := 0) (by omega) (by decide)).mp h86
                refine lv_aload_n hx hb dd_Mo_inNumber_89 rfl (lv_at hl 4 rfl) ?_
                refine gf_Mo_7 E hM hR.m ((mo_at (by decide)).trans (congrArg some (mq_va rfl))) dd_Mo_inNumber_90 ?_
                have w2 : M3 (ra 2) = some (.inl (D.1 100, 100, .inl (A 2))) := hR.w 2 rfl (by decide)
                refine lv_iload_n hx hb dd_Mo_inNumber_93 rfl (lv_at hl 1 rfl) ?_
                refine lv_iconst (v := nI 1) hx hb dd_Mo_inNumber_94 (by decide) ?_
                refine lv_iadd hx hb dd_Mo_inNumber_95 ?_
                refine mw_topi (y := nI ((pl + 1 + 1) + 1)) (nI_add _ _) ?_
                refine mw_iald hx hb E.K hM 0 w2 rfl (vp_in_nI (by omega) (by omega)) dd_Mo_inNumber_96 ?_
                refine mw_topi (y := (A 2) ((pl + 1 + 1) + 1)) (by rw [nI_clamp (by omega)]) ?_
                refine mw_topi (y := nI (g (pl + 2 + 1))) ((hg (pl + 2 + 1) (by omega)).1) ?_
                have hg8 := hbb (pl + 2 + 1) (by omega)
                refine lv_sipush (v := nI 128) hx hb dd_Mo_inNumber_97 (by decide) ?_
                refine lv_icmp_ge (tgt := 108) hx hb dd_Mo_inNumber_100 (by decide) (fun h100 => ?_) (fun h100 => ?_)
                ·
                  rw [nI_leI (by omega) (by omega)] at h100
                  refine lv_iload_n hx hb dd_Mo_inNumber_108 rfl (lv_at hl 2 rfl) ?_
                  refine mr_i E hr hk hM hS (by decide) (by decide) ?_ dd_Mo_inNumber_109
                  have hE4 : eo.or (nr_E g k pl) = none := hE2.trans (if_neg (fun q => q.2.2.2.elim (fun q => by omega) (fun q => by omega)))
                  exact ⟨⟨_, _, _, rfl, hR, hv3, hv50, by rw [hE4]; exact hv51, hrv, by omega, by omega, fun _ => ⟨by unfold np; rw [← hs0], hik, by unfold vf_v; rw [← hs0], by unfold vf_v; rw [← hs0]; exact nr_31 (s := i) ⟨by omega, by omega⟩ hth (fun j hj => hbb _ (by omega))⟩⟩, hF⟩
                ·
                  rw [nI_leI (by omega) (by omega)] at h100
                  refine lv_aload_n hx hb dd_Mo_inNumber_103 rfl (lv_at hl 4 rfl) ?_
                  refine lv_iload_n hx hb dd_Mo_inNumber_104 rfl (lv_at hl 1 rfl) ?_
                  have hv51 : V3 51 = eN none := hv51
                  refine mw_V (As := [.int (nI (pl + 1 + 1))]) (rest := []) E (cc_Mo_error l D z (M3) mm ra V3 A S k g ((pl + 2 + i)) none (pl + 2) hR hk0 hg hv3 hv50 hv51 none_lt (by omega) (fun _ => hik) (fun _ => by omega) (by omega)) ky_Mo_error kv_Mo_error tw_Mo_294 hM hS hR.m rfl rfl rfl hl.1 rfl (Nat.le_of_ble_eq_true rfl) dd_Mo_inNumber_105 (by first | decide | exact ⟨by dsimp only; omega, by dsimp only; omega⟩) (by decide) (fun v M1 H locs hp hM hS => ?_)
                  obtain ⟨rfl, ⟨V23, hR, hv3, hv50, hv51, hr2⟩, hF2⟩ := hp
                  have hF := hF.trans hF2
                  have hrv := rv_t hrv hr2
                  obtain ⟨eo3, heo3⟩ : ∃ o9 : Option Nat, o9 = none.or (some (pl + 2)) := ⟨_, rfl⟩
                  rw [← heo3] at hv51
                  have hleo3 : ∀ q : Nat, eo3 = some q → q < 2 ^ 20 := by rw [heo3]; exact eN_or none_lt (some_lt (by omega))
                  refine W.eq (g2 := F0 m 108 ls []) rfl ?_
                  refine lv_iload_n hx hb dd_Mo_inNumber_108 rfl (lv_at hl 2 rfl) ?_
                  refine mr_i E hr hk hM hS (by decide) (by decide) ?_ dd_Mo_inNumber_109
                  have hE4 : eo.or (nr_E g k pl) = some (pl + 2) := hE2.trans (if_pos ⟨by omega, by omega, h86, Or.inr (by omega)⟩)
                  exact ⟨⟨_, _, _, rfl, hR, hv3, hv50, by rw [hE4]; rw [heo3] at hv51; exact hv51, hrv, by omega, by omega, fun q => by rw [hE4] at q; cases q⟩, hF⟩
        ·
          rw [nI_leI (by omega) (by omega)] at h27
          omega
      | succ d9 ih =>
        intro i V3 M3 H locs ls hi hik hth hR hv3 hv50 hv51 hrv hF hM hS hl
        refine lv_iload hx hb dd_Mo_inNumber_24 (lv_at hl 0 rfl) ?_
        refine lv_iload_n hx hb dd_Mo_inNumber_26 rfl (lv_at hl 3 rfl) ?_
        refine lv_icmp_ge (tgt := 68) hx hb dd_Mo_inNumber_27 (by decide) (fun h27 => ?_) (fun h27 => ?_)
        ·
          rw [nI_leI (by omega) (by omega)] at h27
          omega
        ·
          rw [nI_leI (by omega) (by omega)] at h27
          refine lv_aload_n hx hb dd_Mo_inNumber_30 rfl (lv_at hl 4 rfl) ?_
          refine gf_Mo_288 E hM hR.m ((mo_at (by decide)).trans (congrArg some (mq_vi rfl hv51))) dd_Mo_inNumber_31 ?_
          refine lv_if_ge (tgt := 68) hx hb dd_Mo_inNumber_34 (by decide) (fun h34 => ?_) (fun h34 => ?_)
          ·
            exact absurd h34 (by decide)
          ·
            refine lv_sipush (v := nI 256) hx hb dd_Mo_inNumber_37 (by decide) ?_
            refine lv_iload_n hx hb dd_Mo_inNumber_40 rfl (lv_at hl 2 rfl) ?_
            refine lv_imul hx hb dd_Mo_inNumber_41 ?_
            refine mw_topi (y := nI (256 * (nr_v g (pl + 2) i))) (pk_mul _ _) ?_
            refine lv_aload_n hx hb dd_Mo_inNumber_42 rfl (lv_at hl 4 rfl) ?_
            refine lv_iconst (v := nI 0) hx hb dd_Mo_inNumber_43 (by decide) ?_
            refine lv_iload hx hb dd_Mo_inNumber_44 (lv_at hl 0 rfl) ?_
            refine lv_if_ne (tgt := 54) hx hb dd_Mo_inNumber_46 (by decide) (fun h46 => ?_) (fun h46 => ?_)
            ·
              have hi0 : ¬ i = 0 := fun q => h46 (by rw [q]; rfl)
              refine lv_sipush (v := nI 255) hx hb dd_Mo_inNumber_54 (by decide) ?_
              have hv51 : V3 51 = eN none := hv51
              refine mw_V (As := [.int (nI 0), .int (nI 255)]) (rest := [.int (nI (256 * (nr_v g (pl + 2) i)))]) E (cc_Mo_in l D z (M3) mm ra V3 A S k g ((pl + 2 + i)) none 0 255 hR hk0 hg hv3 hv50 hv51 none_lt (by omega) (fun _ => hik) (by omega) (by omega)) ky_Mo_in kv_Mo_in tw_Mo_297 hM hS hR.m rfl rfl rfl hl.1 rfl (Nat.le_of_ble_eq_true rfl) dd_Mo_inNumber_57 (by first | decide | exact ⟨by dsimp only; omega, by dsimp only; omega⟩) (by decide) (fun v M1 H locs hp hM hS => ?_)
              obtain ⟨rfl, ⟨V24, hR, hv3, hv50, hv51, hr2⟩, hF2⟩ := hp
              have hF := hF.trans hF2
              have hrv := rv_t hrv hr2
              obtain ⟨eo4, heo4⟩ : ∃ o9 : Option Nat, o9 = none.or (ti g k 0 255 ((pl + 2 + i))) := ⟨_, rfl⟩
              rw [← heo4] at hv51
              have hleo4 : ∀ q : Nat, eo4 = some q → q < 2 ^ 20 := by rw [heo4]; exact eN_or none_lt (ti_lt (by omega))
              have hkeo4 : eo4 = none → (pl + 2 + i) + 1 ≤ k := fun q => (ti_N (or_6 heo4 q).2).1
              refine W.eq (g2 := F0 m 60 ls [.int (if (pl + 2 + i) < k then nI (g ((pl + 2 + i))) else -1), .int (nI (256 * (nr_v g (pl + 2) i)))]) rfl ?_
              have ht9 : ti g k 0 (if i = 0 then 127 else 255) (pl + 2 + i) = ti g k 0 255 (pl + 2 + i) := by rw [if_neg hi0]
              cases he3 : eo4 with
              | some q9 =>
                rw [he3] at hv51 heo4 hleo4
                have hl9 := hleo4 q9 rfl
                have hnb := nr_2bad hbb hik (show i < s0 by omega) hth (ht9.trans heo4.symm)
                have hE3 : eo.or (nr_E g k pl) = some q9 := hE2.trans hnb
                have hv51 : V24 51 = nI q9 := hv51
                refine lv_iadd hx hb dd_Mo_inNumber_60 ?_
                refine lv_istore_n (lv' := [(2, .int ((nI (256 * (nr_v g (pl + 2) i))) + (if (pl + 2 + i) < k then nI (g ((pl + 2 + i))) else -1))), (4, .int (nI i)), (3, .int (nI (pl + 1 + 1))), (1, .int (nI s0)), (0, .ref mm)]) hx hb dd_Mo_inNumber_61 rfl hl (by decide) rfl (fun ls hl => ?_)
                refine lv_iinc (k := 1) (v := nI (i + 1)) (lv' := [(4, .int (nI (i + 1))), (2, .int ((nI (256 * (nr_v g (pl + 2) i))) + (if (pl + 2 + i) < k then nI (g ((pl + 2 + i))) else -1))), (3, .int (nI (pl + 1 + 1))), (1, .int (nI s0)), (0, .ref mm)]) hx hb dd_Mo_inNumber_62 hl rfl (nI_1 _) (by decide) rfl (fun ls hl => ?_)
                refine lv_goto (tgt := 24) hx hb dd_Mo_inNumber_65 (by decide) ?_
                refine lv_iload hx hb dd_Mo_inNumber_24 (lv_at hl 0 rfl) ?_
                refine lv_iload_n hx hb dd_Mo_inNumber_26 rfl (lv_at hl 3 rfl) ?_
                refine lv_icmp_ge (tgt := 68) hx hb dd_Mo_inNumber_27 (by decide) (fun h27 => ?_) (fun h27 => ?_)
                ·
                  rw [nI_leI (by omega) (by omega)] at h27
                  refine lv_aload_n hx hb dd_Mo_inNumber_68 rfl (lv_at hl 4 rfl) ?_
                  refine gf_Mo_288 E hM hR.m ((mo_at (by decide)).trans (congrArg some (mq_vi rfl hv51))) dd_Mo_inNumber_69 ?_
                  refine lv_if_ge (tgt := 108) hx hb dd_Mo_inNumber_72 (by decide) (fun h72 => ?_) (fun h72 => ?_)
                  ·
                    refine lv_iload_n hx hb dd_Mo_inNumber_108 rfl (lv_at hl 1 rfl) ?_
                    refine mr_i E hr hk hM hS (by decide) (by decide) ?_ dd_Mo_inNumber_109
                    exact ⟨⟨_, _, _, rfl, hR, hv3, hv50, by rw [hE3]; exact hv51, hrv, by omega, by omega, fun q => by rw [hE3] at q; cases q⟩, hF⟩
                  ·
                    exact absurd (nI_z0 (by omega)) h72
                ·
                  rw [nI_leI (by omega) (by omega)] at h27
                  refine lv_aload_n hx hb dd_Mo_inNumber_30 rfl (lv_at hl 4 rfl) ?_
                  refine gf_Mo_288 E hM hR.m ((mo_at (by decide)).trans (congrArg some (mq_vi rfl hv51))) dd_Mo_inNumber_31 ?_
                  refine lv_if_ge (tgt := 68) hx hb dd_Mo_inNumber_34 (by decide) (fun h34 => ?_) (fun h34 => ?_)
                  ·
                    refine lv_aload_n hx hb dd_Mo_inNumber_68 rfl (lv_at hl 4 rfl) ?_
                    refine gf_Mo_288 E hM hR.m ((mo_at (by decide)).trans (congrArg some (mq_vi rfl hv51))) dd_Mo_inNumber_69 ?_
                    refine lv_if_ge (tgt := 108) hx hb dd_Mo_inNumber_72 (by decide) (fun h72 => ?_) (fun h72 => ?_)
                    ·
                      refine lv_iload_n hx hb dd_Mo_inNumber_108 rfl (lv_at hl 1 rfl) ?_
                      refine mr_i E hr hk hM hS (by decide) (by decide) ?_ dd_Mo_inNumber_109
                      exact ⟨⟨_, _, _, rfl, hR, hv3, hv50, by rw [hE3]; exact hv51, hrv, by omega, by omega, fun q => by rw [hE3] at q; cases q⟩, hF⟩
                    ·
                      exact absurd (nI_z0 (by omega)) h72
                  ·
                    exact absurd (nI_z0 (by omega)) h34
              | none =>
                rw [he3] at hv51 heo4
                have hc3 := ti_N heo4.symm
                have hv51 : V24 51 = -1 := hv51
                refine mw_topi (y := nI (g (pl + 2 + i))) (if_pos hc3.1) ?_
                refine lv_iadd hx hb dd_Mo_inNumber_60 ?_
                refine mw_topi (y := nI ((256 * (nr_v g (pl + 2) i)) + (g (pl + 2 + i)))) (nI_add _ _) ?_
                refine mw_topi (y := nI (nr_v g (pl + 2) (i + 1))) ((by show _ = nI (nr_v g (pl + 2) i * 256 + g (pl + 2 + i)); rw [Nat.mul_comm])) ?_
                refine lv_istore_n (lv' := [(2, .int (nI (nr_v g (pl + 2) (i + 1)))), (4, .int (nI i)), (3, .int (nI (pl + 1 + 1))), (1, .int (nI s0)), (0, .ref mm)]) hx hb dd_Mo_inNumber_61 rfl hl (by decide) rfl (fun ls hl => ?_)
                refine lv_iinc (k := 1) (v := nI (i + 1)) (lv' := [(4, .int (nI (i + 1))), (2, .int (nI (nr_v g (pl + 2) (i + 1)))), (3, .int (nI (pl + 1 + 1))), (1, .int (nI s0)), (0, .ref mm)]) hx hb dd_Mo_inNumber_62 hl rfl (nI_1 _) (by decide) rfl (fun ls hl => ?_)
                refine lv_goto (tgt := 24) hx hb dd_Mo_inNumber_65 (by decide) ?_
                exact ih (i + 1) _ _ H locs ls (by omega) (by omega) (fun _ => hth (by omega)) hR hv3 hv50 hv51 hrv hF hM hS (lv_sub hl [0, 2, 1, 3, 4] rfl)
            ·
              have hi0 : i = 0 := (nI_eq (b := 0) (by omega) (by decide)).mp h46
              refine lv_bipush (v := nI 127) hx hb dd_Mo_inNumber_49 (by decide) ?_
              refine lv_goto (tgt := 57) hx hb dd_Mo_inNumber_51 (by decide) ?_
              have hv51 : V3 51 = eN none := hv51
              refine mw_V (As := [.int (nI 0), .int (nI 127)]) (rest := [.int (nI (256 * (nr_v g (pl + 2) i)))]) E (cc_Mo_in l D z (M3) mm ra V3 A S k g ((pl + 2 + i)) none 0 127 hR hk0 hg hv3 hv50 hv51 none_lt (by omega) (fun _ => hik) (by omega) (by omega)) ky_Mo_in kv_Mo_in tw_Mo_297 hM hS hR.m rfl rfl rfl hl.1 rfl (Nat.le_of_ble_eq_true rfl) dd_Mo_inNumber_57 (by first | decide | exact ⟨by dsimp only; omega, by dsimp only; omega⟩) (by decide) (fun v M1 H locs hp hM hS => ?_)
              obtain ⟨rfl, ⟨V25, hR, hv3, hv50, hv51, hr2⟩, hF2⟩ := hp
              have hF := hF.trans hF2
              have hrv := rv_t hrv hr2
              obtain ⟨eo5, heo5⟩ : ∃ o9 : Option Nat, o9 = none.or (ti g k 0 127 ((pl + 2 + i))) := ⟨_, rfl⟩
              rw [← heo5] at hv51
              have hleo5 : ∀ q : Nat, eo5 = some q → q < 2 ^ 20 := by rw [heo5]; exact eN_or none_lt (ti_lt (by omega))
              have hkeo5 : eo5 = none → (pl + 2 + i) + 1 ≤ k := fun q => (ti_N (or_6 heo5 q).2).1
              refine W.eq (g2 := F0 m 60 ls [.int (if (pl + 2 + i) < k then nI (g ((pl + 2 + i))) else -1), .int (nI (256 * (nr_v g (pl + 2) i)))]) rfl ?_
              have ht9 : ti g k 0 (if i = 0 then 127 else 255) (pl + 2 + i) = ti g k 0 127 (pl + 2 + i) := by rw [if_pos hi0]
              cases he3 : eo5 with
              | some q9 =>
                rw [he3] at hv51 heo5 hleo5
                have hl9 := hleo5 q9 rfl
                have hnb := nr_2bad hbb hik (show i < s0 by omega) hth (ht9.trans heo5.symm)
                have hE3 : eo.or (nr_E g k pl) = some q9 := hE2.trans hnb
                have hv51 : V25 51 = nI q9 := hv51
                refine lv_iadd hx hb dd_Mo_inNumber_60 ?_
                refine lv_istore_n (lv' := [(2, .int ((nI (256 * (nr_v g (pl + 2) i))) + (if (pl + 2 + i) < k then nI (g ((pl + 2 + i))) else -1))), (4, .int (nI i)), (3, .int (nI (pl + 1 + 1))), (1, .int (nI s0)), (0, .ref mm)]) hx hb dd_Mo_inNumber_61 rfl hl (by decide) rfl (fun ls hl => ?_)
                refine lv_iinc (k := 1) (v := nI (i + 1)) (lv' := [(4, .int (nI (i + 1))), (2, .int ((nI (256 * (nr_v g (pl + 2) i))) + (if (pl + 2 + i) < k then nI (g ((pl + 2 + i))) else -1))), (3, .int (nI (pl + 1 + 1))), (1, .int (nI s0)), (0, .ref mm)]) hx hb dd_Mo_inNumber_62 hl rfl (nI_1 _) (by decide) rfl (fun ls hl => ?_)
                refine lv_goto (tgt := 24) hx hb dd_Mo_inNumber_65 (by decide) ?_
                refine lv_iload hx hb dd_Mo_inNumber_24 (lv_at hl 0 rfl) ?_
                refine lv_iload_n hx hb dd_Mo_inNumber_26 rfl (lv_at hl 3 rfl) ?_
                refine lv_icmp_ge (tgt := 68) hx hb dd_Mo_inNumber_27 (by decide) (fun h27 => ?_) (fun h27 => ?_)
                ·
                  rw [nI_leI (by omega) (by omega)] at h27
                  refine lv_aload_n hx hb dd_Mo_inNumber_68 rfl (lv_at hl 4 rfl) ?_
                  refine gf_Mo_288 E hM hR.m ((mo_at (by decide)).trans (congrArg some (mq_vi rfl hv51))) dd_Mo_inNumber_69 ?_
                  refine lv_if_ge (tgt := 108) hx hb dd_Mo_inNumber_72 (by decide) (fun h72 => ?_) (fun h72 => ?_)
                  ·
                    refine lv_iload_n hx hb dd_Mo_inNumber_108 rfl (lv_at hl 1 rfl) ?_
                    refine mr_i E hr hk hM hS (by decide) (by decide) ?_ dd_Mo_inNumber_109
                    exact ⟨⟨_, _, _, rfl, hR, hv3, hv50, by rw [hE3]; exact hv51, hrv, by omega, by omega, fun q => by rw [hE3] at q; cases q⟩, hF⟩
                  ·
                    exact absurd (nI_z0 (by omega)) h72
                ·
                  rw [nI_leI (by omega) (by omega)] at h27
                  refine lv_aload_n hx hb dd_Mo_inNumber_30 rfl (lv_at hl 4 rfl) ?_
                  refine gf_Mo_288 E hM hR.m ((mo_at (by decide)).trans (congrArg some (mq_vi rfl hv51))) dd_Mo_inNumber_31 ?_
                  refine lv_if_ge (tgt := 68) hx hb dd_Mo_inNumber_34 (by decide) (fun h34 => ?_) (fun h34 => ?_)
                  ·
                    refine lv_aload_n hx hb dd_Mo_inNumber_68 rfl (lv_at hl 4 rfl) ?_
                    refine gf_Mo_288 E hM hR.m ((mo_at (by decide)).trans (congrArg some (mq_vi rfl hv51))) dd_Mo_inNumber_69 ?_
                    refine lv_if_ge (tgt := 108) hx hb dd_Mo_inNumber_72 (by decide) (fun h72 => ?_) (fun h72 => ?_)
                    ·
                      refine lv_iload_n hx hb dd_Mo_inNumber_108 rfl (lv_at hl 1 rfl) ?_
                      refine mr_i E hr hk hM hS (by decide) (by decide) ?_ dd_Mo_inNumber_109
                      exact ⟨⟨_, _, _, rfl, hR, hv3, hv50, by rw [hE3]; exact hv51, hrv, by omega, by omega, fun q => by rw [hE3] at q; cases q⟩, hF⟩
                    ·
                      exact absurd (nI_z0 (by omega)) h72
                  ·
                    exact absurd (nI_z0 (by omega)) h34
              | none =>
                rw [he3] at hv51 heo5
                have hc3 := ti_N heo5.symm
                have hv51 : V25 51 = -1 := hv51
                refine mw_topi (y := nI (g (pl + 2 + i))) (if_pos hc3.1) ?_
                refine lv_iadd hx hb dd_Mo_inNumber_60 ?_
                refine mw_topi (y := nI ((256 * (nr_v g (pl + 2) i)) + (g (pl + 2 + i)))) (nI_add _ _) ?_
                refine mw_topi (y := nI (nr_v g (pl + 2) (i + 1))) ((by show _ = nI (nr_v g (pl + 2) i * 256 + g (pl + 2 + i)); rw [Nat.mul_comm])) ?_
                refine lv_istore_n (lv' := [(2, .int (nI (nr_v g (pl + 2) (i + 1)))), (4, .int (nI i)), (3, .int (nI (pl + 1 + 1))), (1, .int (nI s0)), (0, .ref mm)]) hx hb dd_Mo_inNumber_61 rfl hl (by decide) rfl (fun ls hl => ?_)
                refine lv_iinc (k := 1) (v := nI (i + 1)) (lv' := [(4, .int (nI (i + 1))), (2, .int (nI (nr_v g (pl + 2) (i + 1)))), (3, .int (nI (pl + 1 + 1))), (1, .int (nI s0)), (0, .ref mm)]) hx hb dd_Mo_inNumber_62 hl rfl (nI_1 _) (by decide) rfl (fun ls hl => ?_)
                refine lv_goto (tgt := 24) hx hb dd_Mo_inNumber_65 (by decide) ?_
                exact ih (i + 1) _ _ H locs ls (by omega) (by omega) (fun _ => by have h9 := hc3.2.2; rw [hi0] at h9; exact h9) hR hv3 hv50 hv51 hrv hF hM hS (lv_sub hl [0, 2, 1, 3, 4] rfl)
    exact loop24 s0 0 _ _ H locs ls (by omega) (by omega) (fun q => absurd q (by omega)) hR hv3 hv50 hv51 hrv hF hM hS (lv_sub hl [0, 1, 2, 3, 4] rfl)
