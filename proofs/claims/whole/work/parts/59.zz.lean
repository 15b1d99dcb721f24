/-! reading: where a certificate fails, for both sides -/
def eN (o : Option Nat) : Int32 := match o with
  | none => -1
  | some q => nI q
theorem rd_eN {o : Option Nat} {a : Nat} (h : ∀ q : Nat, o = some q → q < 2 ^ 20) : rd_f (eN o) (nI a) = eN (o.or (some a)) := by
  unfold rd_f
  cases o with
  | none => exact if_pos rfl
  | some q => exact if_neg (fun e => nI_nm1 (by have := h q rfl; omega) e.symm)
theorem eN_or {o p : Option Nat} (h : ∀ q : Nat, o = some q → q < 2 ^ 20) (hp : ∀ q : Nat, p = some q → q < 2 ^ 20) : ∀ q : Nat, o.or p = some q → q < 2 ^ 20 := by
  cases o with
  | none => exact hp
  | some x => exact fun q e => h q e
def te (g : Nat → Nat) (k x p : Nat) : Option Nat := if p < k ∧ g p = x then none else some p
def ta (k p : Nat) : Option Nat := if p < k then none else some p
def th (g : Nat → Nat) (k p : Nat) : Option Nat := if p < k ∧ 127 < g p then some p else none
def tm (k f i : Nat) : Option Nat := if k < i ∧ f < i then some (max f k) else none
def tz (g : Nat → Nat) (k f s : Nat) : Option Nat := if 1 < s ∧ f < k ∧ g f = 0 ∧ (k ≤ f + 1 ∨ g (f + 1) < 128) then some f else none
def nr_2 (g : Nat → Nat) (k f s : Nat) : Option Nat := (th g k f).or ((tm k f (f + s)).or (tz g k f s))
def nr_E (g : Nat → Nat) (k p : Nat) : Option Nat := (te g k 2 p).or (if p + 1 < k ∧ 1 ≤ g (p + 1) ∧ g (p + 1) ≤ 4 then nr_2 g k (p + 2) (g (p + 1)) else some (p + 1))
def nr_v (g : Nat → Nat) (f : Nat) : Nat → Nat
  | 0 => 0
  | i + 1 => nr_v g f i * 256 + g (f + i)
theorem te_lt {g : Nat → Nat} {k x p : Nat} (h : p < 2 ^ 20) : ∀ q : Nat, te g k x p = some q → q < 2 ^ 20 := fun q e => by
  unfold te at e
  split at e
  · cases e
  · cases e
    exact h
theorem some_lt {p : Nat} (h : p < 2 ^ 20) : ∀ q : Nat, some p = some q → q < 2 ^ 20 := fun q e => by cases e; exact h
theorem none_lt : ∀ q : Nat, (none : Option Nat) = some q → q < 2 ^ 20 := fun q e => by cases e
theorem cc_Rd_expect (l : Launch) (D : va_G) (z : Nat) (M : mw_M) (b r : Nat) (f : Nat → Int32) (k : Nat) (g : Nat → Nat) (d pl : Nat) (eo : Option Nat) (v3 v4 v5 v6 v7 v8 : Int32) (x0 : Nat) (wb : M b = some (.inr (1, [.ref r, .int (nI k)]))) (wr : M r = some (.inl (D.1 100, 100, .inl f))) (hk0 : k ≤ 100) (hg : ∀ j : Nat, j < k → f j = nI (g j) ∧ g j < 256) (wd : M d = some (.inr (6, [.ref b, .int (nI pl), .int (eN eo), .int (v3), .int (v4), .int (v5), .int (v6), .int (v7), .int (v8)]))) (heo : ∀ q : Nat, eo = some q → q < 2 ^ 20) (hpl : pl < 2 ^ 19) (hx0 : x0 < 256) : mw_C l yy_Rd_expect bb_Rd_expect 2 (Option.none : Option Jvm.ClassFile.FieldType) 1 21 0 0 D z M [.ref d, .int (nI x0)] (fun v M' => v = none ∧ M' d = some (.inr (6, [.ref b, .int (nI (pl + 1)), .int (eN (eo.or (te g k x0 pl))), .int (v3), .int (v4), .int (v5), .int (v6), .int (v7), .int (v8)])) ∧ mw_fr (fun q => q = d) M M') := by
  refine mw_of (by decide) (Nat.le_of_ble_eq_true rfl) ?_
  intro p e s m below meth c ls E hr hk hnm hM hl
  have hx := E.x
  have hb := E.b
  have E : mw_E p m c bb_Rd_expect 2 s _ D z "IdentityIssuer$Reader" := E
  have hl : lv_has ls 2 [(0, .ref d), (1, .int (nI x0))] := hl
  have hS : va_S (mw_A z) s.heap s.heap [] := va_S.rf
  have hF : mw_fr (fun q => q = d) M M := mw_fr.rf
  refine lv_aload_n hx hb dd_Rd_expect_0 rfl (lv_at hl 0 rfl) ?_
  refine gf_Rd_12 E hM wd rfl dd_Rd_expect_1 ?_
  refine lv_aload_n hx hb dd_Rd_expect_4 rfl (lv_at hl 0 rfl) ?_
  refine gf_Rd_18 E hM wd rfl dd_Rd_expect_5 ?_
  refine mw_V (As := [.int (nI pl)]) (rest := []) E (cc_By_at l D z (M) b r f k (nI (pl)) wb wr hk0) ky_By_at kv_By_at tw_Rd_64 hM hS wb rfl rfl rfl hl.1 rfl (Nat.le_of_ble_eq_true rfl) dd_Rd_expect_8 (by first | decide | exact ⟨by dsimp only; omega, by dsimp only; omega⟩) (by decide) (fun v M1 H locs hp hM hS => ?_)
  obtain ⟨rfl, hq⟩ := hp
  have hq := hq.symm
  subst hq
  refine W.eq (g2 := F0 m 11 ls [.int (by_at f k (nI (pl)))]) rfl ?_
  by_cases hpk : pl < k
  ·
    refine mw_topi (y := nI (g (pl))) ((by_at_nI (by omega) hpk).trans (hg (pl) hpk).1) ?_
    have hb9 := (hg (pl) hpk).2
    refine lv_iload_n hx hb dd_Rd_expect_11 rfl (lv_at hl 1 rfl) ?_
    refine lv_icmp_eq (tgt := 23) hx hb dd_Rd_expect_12 (by decide) (fun h12 => ?_) (fun h12 => ?_)
    ·
      rw [nI_eq (by omega) (by omega)] at h12
      refine lv_aload_n hx hb dd_Rd_expect_23 rfl (lv_at hl 0 rfl) ?_
      refine lv_dup hx hb dd_Rd_expect_24 rfl ?_
      refine gf_Rd_18 E hM wd rfl dd_Rd_expect_25 ?_
      refine lv_iconst (v := nI 1) hx hb dd_Rd_expect_28 (by decide) ?_
      refine lv_iadd hx hb dd_Rd_expect_29 ?_
      refine mw_topi (y := nI (pl + 1)) (nI_add _ _) ?_
      refine pf_Rd_18 E hM hS wd (Nat.le_of_ble_eq_true rfl) dd_Rd_expect_30 (fun H locs hM hS => ?_)
      have hM : mw_at D mg_cl z (va_up M d (some (.inr (6, [.ref b, .int (nI (pl + 1)), .int (eN eo), .int (v3), .int (v4), .int (v5), .int (v6), .int (v7), .int (v8)])))) H := hM
      obtain ⟨M1, hM1⟩ : ∃ M9 : mw_M, M9 = va_up M d (some (.inr (6, [.ref b, .int (nI (pl + 1)), .int (eN eo), .int (v3), .int (v4), .int (v5), .int (v6), .int (v7), .int (v8)]))) := ⟨_, rfl⟩
      rw [← hM1] at hM
      have wb := mw_uu hM1 wb (mw_ne wb wd (fun q => by cases q))
      have wr := mw_uu hM1 wr (mw_ne wr wd (fun q => by cases q))
      have wd := mw_us hM1
      have hF := mw_fu hM1 hF (rfl)
      refine mr_v E hr hk hM hS (by decide) (by decide) ?_ dd_Rd_expect_33
      refine ⟨rfl, ?_, hF⟩
      rw [show te g k x0 pl = none from if_pos ⟨hpk, h12⟩, Option.or_none]
      exact wd
    ·
      rw [nI_eq (by omega) (by omega)] at h12
      refine lv_aload_n hx hb dd_Rd_expect_15 rfl (lv_at hl 0 rfl) ?_
      refine lv_aload_n hx hb dd_Rd_expect_16 rfl (lv_at hl 0 rfl) ?_
      refine gf_Rd_18 E hM wd rfl dd_Rd_expect_17 ?_
      refine mw_V (As := [.int (nI pl)]) (rest := []) E (cc_Rd_fail l D z (M) d b (pl) (eN eo) v3 v4 v5 v6 v7 v8 (nI (pl)) wd) ky_Rd_fail kv_Rd_fail tw_Rd_68 hM hS wd rfl rfl rfl hl.1 rfl (Nat.le_of_ble_eq_true rfl) dd_Rd_expect_20 (by first | decide | exact ⟨by dsimp only; omega, by dsimp only; omega⟩) (by decide) (fun v M1 H locs hp hM hS => ?_)
      obtain ⟨rfl, wd2, hF2⟩ := hp
      rw [rd_eN (heo)] at wd2
      have wb := hF2.at wb (mw_ne wb wd (fun q => by cases q))
      have wr := hF2.at wr (mw_ne wr wd (fun q => by cases q))
      have wd := wd2
      have hF := hF.trans hF2
      refine W.eq (g2 := F0 m 23 ls []) rfl ?_
      refine lv_aload_n hx hb dd_Rd_expect_23 rfl (lv_at hl 0 rfl) ?_
      refine lv_dup hx hb dd_Rd_expect_24 rfl ?_
      refine gf_Rd_18 E hM wd rfl dd_Rd_expect_25 ?_
      refine lv_iconst (v := nI 1) hx hb dd_Rd_expect_28 (by decide) ?_
      refine lv_iadd hx hb dd_Rd_expect_29 ?_
      refine mw_topi (y := nI (pl + 1)) (nI_add _ _) ?_
      refine pf_Rd_18 E hM hS wd (Nat.le_of_ble_eq_true rfl) dd_Rd_expect_30 (fun H locs hM hS => ?_)
      have hM : mw_at D mg_cl z (va_up M1 d (some (.inr (6, [.ref b, .int (nI (pl + 1)), .int (eN (eo.or (some pl))), .int (v3), .int (v4), .int (v5), .int (v6), .int (v7), .int (v8)])))) H := hM
      obtain ⟨M1, hM1⟩ : ∃ M9 : mw_M, M9 = va_up M1 d (some (.inr (6, [.ref b, .int (nI (pl + 1)), .int (eN (eo.or (some pl))), .int (v3), .int (v4), .int (v5), .int (v6), .int (v7), .int (v8)]))) := ⟨_, rfl⟩
      rw [← hM1] at hM
      have wb := mw_uu hM1 wb (mw_ne wb wd (fun q => by cases q))
      have wr := mw_uu hM1 wr (mw_ne wr wd (fun q => by cases q))
      have wd := mw_us hM1
      have hF := mw_fu hM1 hF (rfl)
      refine mr_v E hr hk hM hS (by decide) (by decide) ?_ dd_Rd_expect_33
      refine ⟨rfl, ?_, hF⟩
      rw [show te g k x0 pl = some pl from if_neg (fun q => h12 q.2)]
      exact wd
  ·
    refine mw_topi (y := -1) (by_at_off (by omega) (by omega)) ?_
    refine lv_iload_n hx hb dd_Rd_expect_11 rfl (lv_at hl 1 rfl) ?_
    refine lv_icmp_eq (tgt := 23) hx hb dd_Rd_expect_12 (by decide) (fun h12 => ?_) (fun h12 => ?_)
    ·
      exact absurd h12 (nI_nm1 (by omega))
    ·
      refine lv_aload_n hx hb dd_Rd_expect_15 rfl (lv_at hl 0 rfl) ?_
      refine lv_aload_n hx hb dd_Rd_expect_16 rfl (lv_at hl 0 rfl) ?_
      refine gf_Rd_18 E hM wd rfl dd_Rd_expect_17 ?_
      refine mw_V (As := [.int (nI pl)]) (rest := []) E (cc_Rd_fail l D z (M) d b (pl) (eN eo) v3 v4 v5 v6 v7 v8 (nI (pl)) wd) ky_Rd_fail kv_Rd_fail tw_Rd_68 hM hS wd rfl rfl rfl hl.1 rfl (Nat.le_of_ble_eq_true rfl) dd_Rd_expect_20 (by first | decide | exact ⟨by dsimp only; omega, by dsimp only; omega⟩) (by decide) (fun v M1 H locs hp hM hS => ?_)
      obtain ⟨rfl, wd2, hF2⟩ := hp
      rw [rd_eN (heo)] at wd2
      have wb := hF2.at wb (mw_ne wb wd (fun q => by cases q))
      have wr := hF2.at wr (mw_ne wr wd (fun q => by cases q))
      have wd := wd2
      have hF := hF.trans hF2
      refine W.eq (g2 := F0 m 23 ls []) rfl ?_
      refine lv_aload_n hx hb dd_Rd_expect_23 rfl (lv_at hl 0 rfl) ?_
      refine lv_dup hx hb dd_Rd_expect_24 rfl ?_
      refine gf_Rd_18 E hM wd rfl dd_Rd_expect_25 ?_
      refine lv_iconst (v := nI 1) hx hb dd_Rd_expect_28 (by decide) ?_
      refine lv_iadd hx hb dd_Rd_expect_29 ?_
      refine mw_topi (y := nI (pl + 1)) (nI_add _ _) ?_
      refine pf_Rd_18 E hM hS wd (Nat.le_of_ble_eq_true rfl) dd_Rd_expect_30 (fun H locs hM hS => ?_)
      have hM : mw_at D mg_cl z (va_up M1 d (some (.inr (6, [.ref b, .int (nI (pl + 1)), .int (eN (eo.or (some pl))), .int (v3), .int (v4), .int (v5), .int (v6), .int (v7), .int (v8)])))) H := hM
      obtain ⟨M1, hM1⟩ : ∃ M9 : mw_M, M9 = va_up M1 d (some (.inr (6, [.ref b, .int (nI (pl + 1)), .int (eN (eo.or (some pl))), .int (v3), .int (v4), .int (v5), .int (v6), .int (v7), .int (v8)]))) := ⟨_, rfl⟩
      rw [← hM1] at hM
      have wb := mw_uu hM1 wb (mw_ne wb wd (fun q => by cases q))
      have wr := mw_uu hM1 wr (mw_ne wr wd (fun q => by cases q))
      have wd := mw_us hM1
      have hF := mw_fu hM1 hF (rfl)
      refine mr_v E hr hk hM hS (by decide) (by decide) ?_ dd_Rd_expect_33
      refine ⟨rfl, ?_, hF⟩
      rw [show te g k x0 pl = some pl from if_neg (fun q => hpk q.1)]
      exact wd
theorem cc_Rd_skipLength (l : Launch) (D : va_G) (z : Nat) (M : mw_M) (b r : Nat) (f : Nat → Int32) (k : Nat) (g : Nat → Nat) (d pl : Nat) (eo : Option Nat) (v3 v4 v5 v6 v7 v8 : Int32) (wb : M b = some (.inr (1, [.ref r, .int (nI k)]))) (wr : M r = some (.inl (D.1 100, 100, .inl f))) (hk0 : k ≤ 100) (hg : ∀ j : Nat, j < k → f j = nI (g j) ∧ g j < 256) (wd : M d = some (.inr (6, [.ref b, .int (nI pl), .int (eN eo), .int (v3), .int (v4), .int (v5), .int (v6), .int (v7), .int (v8)]))) (heo : ∀ q : Nat, eo = some q → q < 2 ^ 20) (hpl : pl < 2 ^ 19) : mw_C l yy_Rd_skipLength bb_Rd_skipLength 1 (Option.none : Option Jvm.ClassFile.FieldType) 1 21 0 0 D z M [.ref d] (fun v M' => v = none ∧ M' d = some (.inr (6, [.ref b, .int (nI (pl + 1)), .int (eN (eo.or (ta k pl))), .int (v3), .int (v4), .int (v5), .int (v6), .int (v7), .int (v8)])) ∧ mw_fr (fun q => q = d) M M') := by
  refine mw_of (by decide) (Nat.le_of_ble_eq_true rfl) ?_
  intro p e s m below meth c ls E hr hk hnm hM hl
  have hx := E.x
  have hb := E.b
  have E : mw_E p m c bb_Rd_skipLength 1 s _ D z "IdentityIssuer$Reader" := E
  have hl : lv_has ls 1 [(0, .ref d)] := hl
  have hS : va_S (mw_A z) s.heap s.heap [] := va_S.rf
  have hF : mw_fr (fun q => q = d) M M := mw_fr.rf
  refine lv_aload_n hx hb dd_Rd_skipLength_0 rfl (lv_at hl 0 rfl) ?_
  refine gf_Rd_12 E hM wd rfl dd_Rd_skipLength_1 ?_
  refine lv_aload_n hx hb dd_Rd_skipLength_4 rfl (lv_at hl 0 rfl) ?_
  refine gf_Rd_18 E hM wd rfl dd_Rd_skipLength_5 ?_
  refine mw_V (As := [.int (nI pl)]) (rest := []) E (cc_By_at l D z (M) b r f k (nI (pl)) wb wr hk0) ky_By_at kv_By_at tw_Rd_64 hM hS wb rfl rfl rfl hl.1 rfl (Nat.le_of_ble_eq_true rfl) dd_Rd_skipLength_8 (by first | decide | exact ⟨by dsimp only; omega, by dsimp only; omega⟩) (by decide) (fun v M1 H locs hp hM hS => ?_)
  obtain ⟨rfl, hq⟩ := hp
  have hq := hq.symm
  subst hq
  refine W.eq (g2 := F0 m 11 ls [.int (by_at f k (nI (pl)))]) rfl ?_
  by_cases hpk : pl < k
  ·
    refine mw_topi (y := nI (g (pl))) ((by_at_nI (by omega) hpk).trans (hg (pl) hpk).1) ?_
    have hb9 := (hg (pl) hpk).2
    refine lv_iconst (v := -1) hx hb dd_Rd_skipLength_11 (by decide) ?_
    refine lv_icmp_ne (tgt := 23) hx hb dd_Rd_skipLength_12 (by decide) (fun h12 => ?_) (fun h12 => ?_)
    ·
      refine lv_aload_n hx hb dd_Rd_skipLength_23 rfl (lv_at hl 0 rfl) ?_
      refine lv_dup hx hb dd_Rd_skipLength_24 rfl ?_
      refine gf_Rd_18 E hM wd rfl dd_Rd_skipLength_25 ?_
      refine lv_iconst (v := nI 1) hx hb dd_Rd_skipLength_28 (by decide) ?_
      refine lv_iadd hx hb dd_Rd_skipLength_29 ?_
      refine mw_topi (y := nI (pl + 1)) (nI_add _ _) ?_
      refine pf_Rd_18 E hM hS wd (Nat.le_of_ble_eq_true rfl) dd_Rd_skipLength_30 (fun H locs hM hS => ?_)
      have hM : mw_at D mg_cl z (va_up M d (some (.inr (6, [.ref b, .int (nI (pl + 1)), .int (eN eo), .int (v3), .int (v4), .int (v5), .int (v6), .int (v7), .int (v8)])))) H := hM
      obtain ⟨M1, hM1⟩ : ∃ M9 : mw_M, M9 = va_up M d (some (.inr (6, [.ref b, .int (nI (pl + 1)), .int (eN eo), .int (v3), .int (v4), .int (v5), .int (v6), .int (v7), .int (v8)]))) := ⟨_, rfl⟩
      rw [← hM1] at hM
      have wb := mw_uu hM1 wb (mw_ne wb wd (fun q => by cases q))
      have wr := mw_uu hM1 wr (mw_ne wr wd (fun q => by cases q))
      have wd := mw_us hM1
      have hF := mw_fu hM1 hF (rfl)
      refine mr_v E hr hk hM hS (by decide) (by decide) ?_ dd_Rd_skipLength_33
      refine ⟨rfl, ?_, hF⟩
      rw [show ta k pl = none from if_pos hpk, Option.or_none]
      exact wd
    ·
      exact absurd h12.symm (nI_nm1 (by omega))
  ·
    refine mw_topi (y := -1) (by_at_off (by omega) (by omega)) ?_
    refine lv_iconst (v := -1) hx hb dd_Rd_skipLength_11 (by decide) ?_
    refine lv_icmp_ne (tgt := 23) hx hb dd_Rd_skipLength_12 (by decide) (fun h12 => ?_) (fun h12 => ?_)
    ·
      exact absurd rfl h12
    ·
      refine lv_aload_n hx hb dd_Rd_skipLength_15 rfl (lv_at hl 0 rfl) ?_
      refine lv_aload_n hx hb dd_Rd_skipLength_16 rfl (lv_at hl 0 rfl) ?_
      refine gf_Rd_18 E hM wd rfl dd_Rd_skipLength_17 ?_
      refine mw_V (As := [.int (nI pl)]) (rest := []) E (cc_Rd_fail l D z (M) d b (pl) (eN eo) v3 v4 v5 v6 v7 v8 (nI (pl)) wd) ky_Rd_fail kv_Rd_fail tw_Rd_68 hM hS wd rfl rfl rfl hl.1 rfl (Nat.le_of_ble_eq_true rfl) dd_Rd_skipLength_20 (by first | decide | exact ⟨by dsimp only; omega, by dsimp only; omega⟩) (by decide) (fun v M1 H locs hp hM hS => ?_)
      obtain ⟨rfl, wd2, hF2⟩ := hp
      rw [rd_eN (heo)] at wd2
      have wb := hF2.at wb (mw_ne wb wd (fun q => by cases q))
      have wr := hF2.at wr (mw_ne wr wd (fun q => by cases q))
      have wd := wd2
      have hF := hF.trans hF2
      refine W.eq (g2 := F0 m 23 ls []) rfl ?_
      refine lv_aload_n hx hb dd_Rd_skipLength_23 rfl (lv_at hl 0 rfl) ?_
      refine lv_dup hx hb dd_Rd_skipLength_24 rfl ?_
      refine gf_Rd_18 E hM wd rfl dd_Rd_skipLength_25 ?_
      refine lv_iconst (v := nI 1) hx hb dd_Rd_skipLength_28 (by decide) ?_
      refine lv_iadd hx hb dd_Rd_skipLength_29 ?_
      refine mw_topi (y := nI (pl + 1)) (nI_add _ _) ?_
      refine pf_Rd_18 E hM hS wd (Nat.le_of_ble_eq_true rfl) dd_Rd_skipLength_30 (fun H locs hM hS => ?_)
      have hM : mw_at D mg_cl z (va_up M1 d (some (.inr (6, [.ref b, .int (nI (pl + 1)), .int (eN (eo.or (some pl))), .int (v3), .int (v4), .int (v5), .int (v6), .int (v7), .int (v8)])))) H := hM
      obtain ⟨M1, hM1⟩ : ∃ M9 : mw_M, M9 = va_up M1 d (some (.inr (6, [.ref b, .int (nI (pl + 1)), .int (eN (eo.or (some pl))), .int (v3), .int (v4), .int (v5), .int (v6), .int (v7), .int (v8)]))) := ⟨_, rfl⟩
      rw [← hM1] at hM
      have wb := mw_uu hM1 wb (mw_ne wb wd (fun q => by cases q))
      have wr := mw_uu hM1 wr (mw_ne wr wd (fun q => by cases q))
      have wd := mw_us hM1
      have hF := mw_fu hM1 hF (rfl)
      refine mr_v E hr hk hM hS (by decide) (by decide) ?_ dd_Rd_skipLength_33
      refine ⟨rfl, ?_, hF⟩
      rw [show ta k pl = some pl from if_neg hpk]
      exact wd
theorem nr_shl {a b : Nat} (ha : a < 2 ^ 24) (hb : b < 256) : (nI a <<< (nI 8 &&& 31)) ||| nI b = nI (a * 256 + b) := by
  rw [pk_shlN (nI 8 &&& 31) 8 (by decide) (by omega)]
  apply Int32.toBitVec_inj.mp
  rw [Int32.toBitVec_or]
  apply BitVec.eq_of_toNat_eq
  rw [BitVec.toNat_or, pk_tn (by omega), pk_tn (by omega), pk_tn (by omega)]
  have := Nat.two_pow_add_eq_or_of_lt (i := 8) (b := b) (by omega) a
  rw [show a * 2 ^ 8 = 2 ^ 8 * a by omega, ← this]
theorem nr_lt {g : Nat → Nat} {f : Nat} {n : Nat} (h : ∀ j : Nat, j < n → g (f + j) < 256) : ∀ i : Nat, i ≤ n → nr_v g f i < 256 ^ i
  | 0, _ => by show 0 < 1; decide
  | i + 1, hi => by
    have h1 := nr_lt h i (by omega)
    have h2 := h i (by omega)
    show nr_v g f i * 256 + g (f + i) < 256 ^ (i + 1)
    rw [Nat.pow_succ]
    omega
theorem tm_s {k f i : Nat} (h1 : ¬ i < k) (h2 : f ≤ i) : (tm k f i).or (some i) = tm k f (i + 1) := by
  unfold tm
  rw [if_pos (show k < i + 1 ∧ f < i + 1 by omega)]
  by_cases h : k < i ∧ f < i
  · rw [if_pos h]
    rfl
  · rw [if_neg h]
    show some i = some (max f k)
    congr 1
    omega
theorem nr_31 {g : Nat → Nat} {f s : Nat} (hs : 1 ≤ s ∧ s ≤ 4) (hf : g f ≤ 127) (hb : ∀ j : Nat, j < s → g (f + j) < 256) : nr_v g f s < 2 ^ 31 := by
  rcases (show s = 1 ∨ s = 2 ∨ s = 3 ∨ s = 4 by omega) with rfl | rfl | rfl | rfl
  · have h0 := hb 0 (by decide)
    show (0 * 256 + g (f + 0)) < 2 ^ 31
    omega
  · have h0 := hb 0 (by decide)
    have h1 := hb 1 (by decide)
    show ((0 * 256 + g (f + 0)) * 256 + g (f + 1)) < 2 ^ 31
    omega
  · have h0 := hb 0 (by decide)
    have h1 := hb 1 (by decide)
    have h2 := hb 2 (by decide)
    show (((0 * 256 + g (f + 0)) * 256 + g (f + 1)) * 256 + g (f + 2)) < 2 ^ 31
    omega
  · have h0 : g (f + 0) ≤ 127 := hf
    have h1 := hb 1 (by decide)
    have h2 := hb 2 (by decide)
    have h3 := hb 3 (by decide)
    show ((((0 * 256 + g (f + 0)) * 256 + g (f + 1)) * 256 + g (f + 2)) * 256 + g (f + 3)) < 2 ^ 31
    omega
set_option maxHeartbeats 4000000 in
set_option maxRecDepth 100000 in
theorem cc_Rd_readNumber (l : Launch) (D : va_G) (z : Nat) (M : mw_M) (b r : Nat) (f : Nat → Int32) (k : Nat) (g : Nat → Nat) (d pl : Nat) (eo : Option Nat) (v3 v4 v5 v6 v7 v8 : Int32) (wb : M b = some (.inr (1, [.ref r, .int (nI k)]))) (wr : M r = some (.inl (D.1 100, 100, .inl f))) (hk0 : k ≤ 100) (hg : ∀ j : Nat, j < k → f j = nI (g j) ∧ g j < 256) (wd : M d = some (.inr (6, [.ref b, .int (nI pl), .int (eN eo), .int (v3), .int (v4), .int (v5), .int (v6), .int (v7), .int (v8)]))) (heo : ∀ q : Nat, eo = some q → q < 2 ^ 20) (hpl : pl < 2 ^ 18) : mw_C l yy_Rd_readNumber bb_Rd_readNumber 5 (Option.some Jvm.ClassFile.FieldType.int) 2 42 0 0 D z M [.ref d] (fun v M' => ∃ (pl' : Nat) (v0 : Int32), v = some (.int v0) ∧ M' d = some (.inr (6, [.ref b, .int (nI pl'), .int (eN (eo.or (nr_E g k pl))), .int (v3), .int (v4), .int (v5), .int (v6), .int (v7), .int (v8)])) ∧ (pl ≤ pl' ∧ pl' ≤ pl + 6) ∧ (nr_E g k pl = none → pl' = pl + 2 + g (pl + 1) ∧ pl' ≤ k ∧ v0 = nI (nr_v g (pl + 2) (g (pl + 1))) ∧ nr_v g (pl + 2) (g (pl + 1)) < 2 ^ 31) ∧ mw_fr (fun q => q = d) M M') := by
  refine mw_of (by decide) (Nat.le_of_ble_eq_true rfl) ?_
  intro p e s m below meth c ls E hr hk hnm hM hl
  have hx := E.x
  have hb := E.b
  have E : mw_E p m c bb_Rd_readNumber 5 s _ D z "IdentityIssuer$Reader" := E
  have hl : lv_has ls 5 [(0, .ref d)] := hl
  have hS : va_S (mw_A z) s.heap s.heap [] := va_S.rf
  have hF : mw_fr (fun q => q = d) M M := mw_fr.rf
  refine lv_aload_n hx hb dd_Rd_readNumber_0 rfl (lv_at hl 0 rfl) ?_
  refine lv_iconst (v := nI 2) hx hb dd_Rd_readNumber_1 (by decide) ?_
  refine mw_V (As := [.int (nI 2)]) (rest := []) E (cc_Rd_expect l D z (M) b r f k g d (pl) eo v3 v4 v5 v6 v7 v8 2 wb wr hk0 hg wd (heo) (by omega) (by omega)) ky_Rd_expect kv_Rd_expect tw_Rd_25 hM hS wd rfl rfl rfl hl.1 rfl (Nat.le_of_ble_eq_true rfl) dd_Rd_readNumber_2 (by first | decide | exact ⟨by dsimp only; omega, by dsimp only; omega⟩) (by decide) (fun v M1 H locs hp hM hS => ?_)
  obtain ⟨rfl, wd2, hF2⟩ := hp
  have wb := hF2.at wb (mw_ne wb wd (fun q => by cases q))
  have wr := hF2.at wr (mw_ne wr wd (fun q => by cases q))
  have wd := wd2
  have hF := hF.trans hF2
  obtain ⟨eo1, heo1⟩ : ∃ o9 : Option Nat, o9 = eo.or (te g k 2 pl) := ⟨_, rfl⟩
  rw [← heo1] at wd
  have hleo1 : ∀ q : Nat, eo1 = some q → q < 2 ^ 20 := by rw [heo1]; exact eN_or (heo) (te_lt (by omega))
  refine W.eq (g2 := F0 m 5 ls []) rfl ?_
  refine lv_aload_n hx hb dd_Rd_readNumber_5 rfl (lv_at hl 0 rfl) ?_
  refine gf_Rd_12 E hM wd rfl dd_Rd_readNumber_6 ?_
  refine lv_aload_n hx hb dd_Rd_readNumber_9 rfl (lv_at hl 0 rfl) ?_
  refine gf_Rd_18 E hM wd rfl dd_Rd_readNumber_10 ?_
  refine mw_V (As := [.int (nI (pl + 1))]) (rest := []) E (cc_By_at l D z (M1) b r f k (nI (pl + 1)) wb wr hk0) ky_By_at kv_By_at tw_Rd_64 hM hS wb rfl rfl rfl hl.1 rfl (Nat.le_of_ble_eq_true rfl) dd_Rd_readNumber_13 (by first | decide | exact ⟨by dsimp only; omega, by dsimp only; omega⟩) (by decide) (fun v M1 H locs hp hM hS => ?_)
  obtain ⟨rfl, hq⟩ := hp
  have hq := hq.symm
  subst hq
  refine W.eq (g2 := F0 m 16 ls [.int (by_at f k (nI (pl + 1)))]) rfl ?_
  by_cases hpk : pl + 1 < k
  ·
    refine mw_topi (y := nI (g (pl + 1))) ((by_at_nI (by omega) hpk).trans (hg (pl + 1) hpk).1) ?_
    have hb9 := (hg (pl + 1) hpk).2
    refine lv_istore_n (lv' := [(1, .int (nI (g (pl + 1)))), (0, .ref d)]) hx hb dd_Rd_readNumber_16 rfl hl (by decide) rfl (fun ls hl => ?_)
    refine lv_iload_n hx hb dd_Rd_readNumber_17 rfl (lv_at hl 0 rfl) ?_
    refine lv_iconst (v := nI 1) hx hb dd_Rd_readNumber_18 (by decide) ?_
    refine lv_icmp_lt (tgt := 27) hx hb dd_Rd_readNumber_19 (by decide) (fun h19 => ?_) (fun h19 => ?_)
    ·
      rw [nI_ltI (by omega) (by omega)] at h19
      refine lv_aload_n hx hb dd_Rd_readNumber_27 rfl (lv_at hl 1 rfl) ?_
      refine lv_aload_n hx hb dd_Rd_readNumber_28 rfl (lv_at hl 1 rfl) ?_
      refine gf_Rd_18 E hM wd rfl dd_Rd_readNumber_29 ?_
      refine mw_V (As := [.int (nI (pl + 1))]) (rest := []) E (cc_Rd_fail l D z (M1) d b (pl + 1) (eN eo1) v3 v4 v5 v6 v7 v8 (nI (pl + 1)) wd) ky_Rd_fail kv_Rd_fail tw_Rd_68 hM hS wd rfl rfl rfl hl.1 rfl (Nat.le_of_ble_eq_true rfl) dd_Rd_readNumber_32 (by first | decide | exact ⟨by dsimp only; omega, by dsimp only; omega⟩) (by decide) (fun v M1 H locs hp hM hS => ?_)
      obtain ⟨rfl, wd2, hF2⟩ := hp
      rw [rd_eN (hleo1)] at wd2
      have wb := hF2.at wb (mw_ne wb wd (fun q => by cases q))
      have wr := hF2.at wr (mw_ne wr wd (fun q => by cases q))
      have wd := wd2
      have hF := hF.trans hF2
      refine W.eq (g2 := F0 m 35 ls []) rfl ?_
      refine lv_iconst (v := nI 0) hx hb dd_Rd_readNumber_35 (by decide) ?_
      refine mr_i E hr hk hM hS (by decide) (by decide) ?_ dd_Rd_readNumber_36
      refine ⟨pl + 1, nI 0, rfl, ?_, by omega, fun q => ?_, hF⟩
      · rw [show nr_E g k pl = (te g k 2 pl).or (some (pl + 1)) from congrArg _ (if_neg (fun q => by omega)), ← Option.or_assoc, ← heo1]
        exact wd
      · rw [show nr_E g k pl = (te g k 2 pl).or (some (pl + 1)) from congrArg _ (if_neg (fun q => by omega))] at q
        cases (Option.or_eq_none_iff.mp q).2
    ·
      rw [nI_ltI (by omega) (by omega)] at h19
      refine lv_iload_n hx hb dd_Rd_readNumber_22 rfl (lv_at hl 0 rfl) ?_
      refine lv_iconst (v := nI 4) hx hb dd_Rd_readNumber_23 (by decide) ?_
      refine lv_icmp_le (tgt := 37) hx hb dd_Rd_readNumber_24 (by decide) (fun h24 => ?_) (fun h24 => ?_)
      ·
        rw [nI_leI (by omega) (by omega)] at h24
        have hp1 : pl + 1 < k := hpk
        have hs14 : 1 ≤ g (pl + 1) ∧ g (pl + 1) ≤ 4 := ⟨by omega, by omega⟩
        obtain ⟨s0, hs0⟩ : ∃ s9 : Nat, s9 = g (pl + 1) := ⟨_, rfl⟩
        have join62 : ∀ (eo2 : Option Nat) (M1 : mw_M) (H : Heap) (locs : List Loc) (ls : Array Slot), eo2 = eo1.or (th g k (pl + 1 + 1)) → (∀ q : Nat, eo2 = some q → q < 2 ^ 20) → M1 d = some (.inr (6, [.ref b, .int (nI (pl + 1)), .int (eN eo2), .int (v3), .int (v4), .int (v5), .int (v6), .int (v7), .int (v8)])) → M1 b = some (.inr (1, [.ref r, .int (nI k)])) → M1 r = some (.inl (D.1 100, 100, .inl f)) → mw_fr (fun q => q = d) M M1 → mw_at D mg_cl z M1 H → va_S (mw_A z) s.heap H locs → lv_has ls 5 [(2, .int (nI (pl + 1 + 1))), (1, .int (nI (g (pl + 1)))), (0, .ref d)] → W p l e ({ frames := 2, cells := 0, slots := 0, locals := 42 } : Room) s m ([.ref d] : List Value).toArray below meth c H locs (0) (0) (MQ below (mw_Q D z (fun v M' => ∃ (pl' : Nat) (v0 : Int32), v = some (.int v0) ∧ M' d = some (.inr (6, [.ref b, .int (nI pl'), .int (eN (eo.or (nr_E g k pl))), .int (v3), .int (v4), .int (v5), .int (v6), .int (v7), .int (v8)])) ∧ (pl ≤ pl' ∧ pl' ≤ pl + 6) ∧ (nr_E g k pl = none → pl' = pl + 2 + g (pl + 1) ∧ pl' ≤ k ∧ v0 = nI (nr_v g (pl + 2) (g (pl + 1))) ∧ nr_v g (pl + 2) (g (pl + 1)) < 2 ^ 31) ∧ mw_fr (fun q => q = d) M M')) ([.ref d] : List Value).toArray s 0 0 (mw_A z)) (F0 m 62 ls []) := by
          intro eo2 M1 H locs ls heo2 hleo2 wd wb wr hF hM hS hl
          refine lv_aload_n hx hb dd_Rd_readNumber_62 rfl (lv_at hl 2 rfl) ?_
          refine lv_iload_n hx hb dd_Rd_readNumber_63 rfl (lv_at hl 0 rfl) ?_
          refine lv_iload_n hx hb dd_Rd_readNumber_64 rfl (lv_at hl 1 rfl) ?_
          refine lv_iadd hx hb dd_Rd_readNumber_65 ?_
          refine mw_topi (y := nI ((pl + 1 + 1) + (g (pl + 1)))) (nI_add _ _) ?_
          refine pf_Rd_18 E hM hS wd (Nat.le_of_ble_eq_true rfl) dd_Rd_readNumber_66 (fun H locs hM hS => ?_)
          have hM : mw_at D mg_cl z (va_up M1 d (some (.inr (6, [.ref b, .int (nI ((pl + 1 + 1) + (g (pl + 1)))), .int (eN eo2), .int (v3), .int (v4), .int (v5), .int (v6), .int (v7), .int (v8)])))) H := hM
          obtain ⟨M1, hM1⟩ : ∃ M9 : mw_M, M9 = va_up M1 d (some (.inr (6, [.ref b, .int (nI ((pl + 1 + 1) + (g (pl + 1)))), .int (eN eo2), .int (v3), .int (v4), .int (v5), .int (v6), .int (v7), .int (v8)]))) := ⟨_, rfl⟩
          rw [← hM1] at hM
          have wb := mw_uu hM1 wb (mw_ne wb wd (fun q => by cases q))
          have wr := mw_uu hM1 wr (mw_ne wr wd (fun q => by cases q))
          have wd := mw_us hM1
          have hF := mw_fu hM1 hF (rfl)
          refine lv_iconst (v := nI 0) hx hb dd_Rd_readNumber_69 (by decide) ?_
          refine lv_istore_n (lv' := [(3, .int (nI 0)), (2, .int (nI (pl + 1 + 1))), (1, .int (nI (g (pl + 1)))), (0, .ref d)]) hx hb dd_Rd_readNumber_70 rfl hl (by decide) rfl (fun ls hl => ?_)
          refine lv_iload_n hx hb dd_Rd_readNumber_71 rfl (lv_at hl 1 rfl) ?_
          refine lv_istore (lv' := [(4, .int (nI (pl + 1 + 1))), (3, .int (nI 0)), (2, .int (nI (pl + 1 + 1))), (1, .int (nI (g (pl + 1)))), (0, .ref d)]) hx hb dd_Rd_readNumber_72 hl (by decide) rfl (fun ls hl => ?_)
          have loop74 : ∀ (d9 : Nat) (i : Nat) (eo3 : Option Nat) (nv : Int32) (M3 : mw_M) (H : Heap) (locs : List Loc) (ls : Array Slot), i + d9 = (pl + 1 + 1) + g (pl + 1) → pl + 1 + 1 ≤ i → eo3 = eo2.or (tm k (pl + 1 + 1) i) → (∀ q : Nat, eo3 = some q → q < 2 ^ 20) → (i ≤ k → nv = nI (nr_v g (pl + 1 + 1) (i - (pl + 1 + 1)))) → M3 d = some (.inr (6, [.ref b, .int (nI ((pl + 1 + 1) + g (pl + 1))), .int (eN eo3), .int (v3), .int (v4), .int (v5), .int (v6), .int (v7), .int (v8)])) → M3 b = some (.inr (1, [.ref r, .int (nI k)])) → M3 r = some (.inl (D.1 100, 100, .inl f)) → mw_fr (fun q => q = d) M M3 → mw_at D mg_cl z M3 H → va_S (mw_A z) s.heap H locs → lv_has ls 5 [(4, .int (nI i)), (3, .int (nv)), (2, .int (nI (pl + 1 + 1))), (1, .int (nI (g (pl + 1)))), (0, .ref d)] → W p l e ({ frames := 2, cells := 0, slots := 0, locals := 42 } : Room) s m ([.ref d] : List Value).toArray below meth c H locs (0) (0) (MQ below (mw_Q D z (fun v M' => ∃ (pl' : Nat) (v0 : Int32), v = some (.int v0) ∧ M' d = some (.inr (6, [.ref b, .int (nI pl'), .int (eN (eo.or (nr_E g k pl))), .int (v3), .int (v4), .int (v5), .int (v6), .int (v7), .int (v8)])) ∧ (pl ≤ pl' ∧ pl' ≤ pl + 6) ∧ (nr_E g k pl = none → pl' = pl + 2 + g (pl + 1) ∧ pl' ≤ k ∧ v0 = nI (nr_v g (pl + 2) (g (pl + 1))) ∧ nr_v g (pl + 2) (g (pl + 1)) < 2 ^ 31) ∧ mw_fr (fun q => q = d) M M')) ([.ref d] : List Value).toArray s 0 0 (mw_A z)) (F0 m 74 ls []) := by
            intro d9
            induction d9 with
            | zero =>
              intro i eo3 nv M3 H locs ls hi hfi heo3 hleo3 hnv wd wb wr hF hM hS hl
              refine lv_iload hx hb dd_Rd_readNumber_74 (lv_at hl 0 rfl) ?_
              refine lv_aload_n hx hb dd_Rd_readNumber_76 rfl (lv_at hl 4 rfl) ?_
              refine gf_Rd_18 E hM wd rfl dd_Rd_readNumber_77 ?_
              refine lv_icmp_ge (tgt := 123) hx hb dd_Rd_readNumber_80 (by decide) (fun h80 => ?_) (fun h80 => ?_)
              ·
                rw [nI_leI (by omega) (by omega)] at h80
                have hie : i = (pl + 1 + 1) + g (pl + 1) := by omega
                have heo3 : eo3 = eo2.or (tm k (pl + 1 + 1) ((pl + 1 + 1) + g (pl + 1))) := by rw [← hie]; exact heo3
                have join160 : ∀ (eo4 : Option Nat) (M4 : mw_M) (H : Heap) (locs : List Loc) (ls : Array Slot), eo4 = eo3.or (tz g k (pl + 1 + 1) (g (pl + 1))) → M4 d = some (.inr (6, [.ref b, .int (nI ((pl + 1 + 1) + g (pl + 1))), .int (eN eo4), .int (v3), .int (v4), .int (v5), .int (v6), .int (v7), .int (v8)])) → mw_fr (fun q => q = d) M M4 → mw_at D mg_cl z M4 H → va_S (mw_A z) s.heap H locs → lv_has ls 5 [(3, .int (nv)), (0, .ref d)] → W p l e ({ frames := 2, cells := 0, slots := 0, locals := 42 } : Room) s m ([.ref d] : List Value).toArray below meth c H locs (0) (0) (MQ below (mw_Q D z (fun v M' => ∃ (pl' : Nat) (v0 : Int32), v = some (.int v0) ∧ M' d = some (.inr (6, [.ref b, .int (nI pl'), .int (eN (eo.or (nr_E g k pl))), .int (v3), .int (v4), .int (v5), .int (v6), .int (v7), .int (v8)])) ∧ (pl ≤ pl' ∧ pl' ≤ pl + 6) ∧ (nr_E g k pl = none → pl' = pl + 2 + g (pl + 1) ∧ pl' ≤ k ∧ v0 = nI (nr_v g (pl + 2) (g (pl + 1))) ∧ nr_v g (pl + 2) (g (pl + 1)) < 2 ^ 31) ∧ mw_fr (fun q => q = d) M M')) ([.ref d] : List Value).toArray s 0 0 (mw_A z)) (F0 m 160 ls []) := by
                  intro eo4 M4 H locs ls heo4 wd hF hM hS hl
                  refine lv_iload_n hx hb dd_Rd_readNumber_160 rfl (lv_at hl 0 rfl) ?_
                  refine mr_i E hr hk hM hS (by decide) (by decide) ?_ dd_Rd_readNumber_161
                  have hE2 : nr_E g k pl = (te g k 2 pl).or (nr_2 g k (pl + 2) (g (pl + 1))) := congrArg _ (if_pos ⟨hp1, hs14⟩)
                  refine ⟨(pl + 1 + 1) + g (pl + 1), nv, rfl, ?_, by omega, fun q => ?_, hF⟩
                  · rw [hE2, ← Option.or_assoc, ← heo1]
                    unfold nr_2
                    rw [← Option.or_assoc, ← heo2, ← Option.or_assoc, ← heo3, ← heo4]
                    exact wd
                  · rw [hE2] at q
                    have q2 := (Option.or_eq_none_iff.mp q).2
                    unfold nr_2 at q2
                    have q3 := Option.or_eq_none_iff.mp q2
                    have q4 := (Option.or_eq_none_iff.mp q3.2).1
                    have hk9 : (pl + 1 + 1) + g (pl + 1) ≤ k := by
                      refine Classical.byContradiction (fun n9 => ?_)
                      unfold tm at q4
                      rw [if_pos (by omega)] at q4
                      cases q4
                    have hf9 : g (pl + 2) ≤ 127 := by
                      refine Classical.byContradiction (fun n9 => ?_)
                      have q5 := q3.1
                      unfold th at q5
                      rw [if_pos ⟨by omega, by omega⟩] at q5
                      cases q5
                    have hnv9 := hnv (by omega)
                    rw [show i - (pl + 1 + 1) = g (pl + 1) by omega] at hnv9
                    exact ⟨rfl, hk9, hnv9, nr_31 hs14 hf9 (fun j hj => (hg _ (by omega)).2)⟩
                refine lv_iload_n hx hb dd_Rd_readNumber_123 rfl (lv_at hl 3 rfl) ?_
                refine lv_iconst (v := nI 1) hx hb dd_Rd_readNumber_124 (by decide) ?_
                refine lv_icmp_le (tgt := 160) hx hb dd_Rd_readNumber_125 (by decide) (fun h125 => ?_) (fun h125 => ?_)
                ·
                  rw [nI_leI (by omega) (by omega)] at h125
                  exact join160 eo3 _ H locs ls (by rw [show tz g k (pl + 1 + 1) (g (pl + 1)) = none from if_neg (fun q => by omega), Option.or_none]) wd hF hM hS (lv_sub hl [1, 4] rfl)
                ·
                  rw [nI_leI (by omega) (by omega)] at h125
                  refine lv_aload_n hx hb dd_Rd_readNumber_128 rfl (lv_at hl 4 rfl) ?_
                  refine gf_Rd_12 E hM wd rfl dd_Rd_readNumber_129 ?_
                  refine lv_iload_n hx hb dd_Rd_readNumber_132 rfl (lv_at hl 2 rfl) ?_
                  refine mw_V (As := [.int (nI (pl + 1 + 1))]) (rest := []) E (cc_By_at l D z (M3) b r f k (nI (pl + 1 + 1)) wb wr hk0) ky_By_at kv_By_at tw_Rd_64 hM hS wb rfl rfl rfl hl.1 rfl (Nat.le_of_ble_eq_true rfl) dd_Rd_readNumber_133 (by first | decide | exact ⟨by dsimp only; omega, by dsimp only; omega⟩) (by decide) (fun v M1 H locs hp hM hS => ?_)
                  obtain ⟨rfl, hq⟩ := hp
                  have hq := hq.symm
                  subst hq
                  refine W.eq (g2 := F0 m 136 ls [.int (by_at f k (nI (pl + 1 + 1)))]) rfl ?_
                  by_cases hpk : pl + 1 + 1 < k
                  ·
                    refine mw_topi (y := nI (g (pl + 1 + 1))) ((by_at_nI (by omega) hpk).trans (hg (pl + 1 + 1) hpk).1) ?_
                    have hb9 := (hg (pl + 1 + 1) hpk).2
                    have hpf := hpk
                    refine lv_if_ne (tgt := 160) hx hb dd_Rd_readNumber_136 (by decide) (fun h136 => ?_) (fun h136 => ?_)
                    ·
                      exact join160 eo3 _ H locs ls (by rw [show tz g k (pl + 1 + 1) (g (pl + 1)) = none from if_neg (fun q => h136 (by rw [q.2.2.1]; rfl)), Option.or_none]) wd hF hM hS (lv_sub hl [1, 4] rfl)
                    ·
                      have h136 : g (pl + 1 + 1) = 0 := (nI_eq (b := 0) (by omega) (by decide)).mp h136
                      refine lv_aload_n hx hb dd_Rd_readNumber_139 rfl (lv_at hl 4 rfl) ?_
                      refine gf_Rd_12 E hM wd rfl dd_Rd_readNumber_140 ?_
                      refine lv_iload_n hx hb dd_Rd_readNumber_143 rfl (lv_at hl 2 rfl) ?_
                      refine lv_iconst (v := nI 1) hx hb dd_Rd_readNumber_144 (by decide) ?_
                      refine lv_iadd hx hb dd_Rd_readNumber_145 ?_
                      refine mw_topi (y := nI ((pl + 1 + 1) + 1)) (nI_add _ _) ?_
                      refine mw_V (As := [.int (nI ((pl + 1 + 1) + 1))]) (rest := []) E (cc_By_at l D z (M3) b r f k (nI (pl + 1 + 1 + 1)) wb wr hk0) ky_By_at kv_By_at tw_Rd_64 hM hS wb rfl rfl rfl hl.1 rfl (Nat.le_of_ble_eq_true rfl) dd_Rd_readNumber_146 (by first | decide | exact ⟨by dsimp only; omega, by dsimp only; omega⟩) (by decide) (fun v M1 H locs hp hM hS => ?_)
                      obtain ⟨rfl, hq⟩ := hp
                      have hq := hq.symm
                      subst hq
                      refine W.eq (g2 := F0 m 149 ls [.int (by_at f k (nI (pl + 1 + 1 + 1)))]) rfl ?_
                      by_cases hpk : pl + 1 + 1 + 1 < k
                      ·
                        refine mw_topi (y := nI (g (pl + 1 + 1 + 1))) ((by_at_nI (by omega) hpk).trans (hg (pl + 1 + 1 + 1) hpk).1) ?_
                        have hb9 := (hg (pl + 1 + 1 + 1) hpk).2
                        refine lv_sipush (v := nI 128) hx hb dd_Rd_readNumber_149 (by decide) ?_
                        refine lv_icmp_ge (tgt := 160) hx hb dd_Rd_readNumber_152 (by decide) (fun h152 => ?_) (fun h152 => ?_)
                        ·
                          rw [nI_leI (by omega) (by omega)] at h152
                          exact join160 eo3 _ H locs ls (by rw [show tz g k (pl + 1 + 1) (g (pl + 1)) = none from if_neg (fun q => q.2.2.2.elim (fun q => by omega) (fun q => by omega)), Option.or_none]) wd hF hM hS (lv_sub hl [1, 4] rfl)
                        ·
                          rw [nI_leI (by omega) (by omega)] at h152
                          refine lv_aload_n hx hb dd_Rd_readNumber_155 rfl (lv_at hl 4 rfl) ?_
                          refine lv_iload_n hx hb dd_Rd_readNumber_156 rfl (lv_at hl 2 rfl) ?_
                          refine mw_V (As := [.int (nI (pl + 1 + 1))]) (rest := []) E (cc_Rd_fail l D z (M3) d b ((pl + 1 + 1) + g (pl + 1)) (eN eo3) v3 v4 v5 v6 v7 v8 (nI (pl + 1 + 1)) wd) ky_Rd_fail kv_Rd_fail tw_Rd_68 hM hS wd rfl rfl rfl hl.1 rfl (Nat.le_of_ble_eq_true rfl) dd_Rd_readNumber_157 (by first | decide | exact ⟨by dsimp only; omega, by dsimp only; omega⟩) (by decide) (fun v M1 H locs hp hM hS => ?_)
                          obtain ⟨rfl, wd2, hF2⟩ := hp
                          rw [rd_eN (hleo3)] at wd2
                          have wb := hF2.at wb (mw_ne wb wd (fun q => by cases q))
                          have wr := hF2.at wr (mw_ne wr wd (fun q => by cases q))
                          have wd := wd2
                          have hF := hF.trans hF2
                          refine W.eq (g2 := F0 m 160 ls []) rfl ?_
                          exact join160 (eo3.or (some (pl + 1 + 1))) _ H locs ls (by rw [show tz g k (pl + 1 + 1) (g (pl + 1)) = some (pl + 1 + 1) from if_pos ⟨by omega, hpf, h136, Or.inr (by omega)⟩]) wd hF hM hS (lv_sub hl [1, 4] rfl)
                      ·
                        refine mw_topi (y := -1) (by_at_off (by omega) (by omega)) ?_
                        refine lv_sipush (v := nI 128) hx hb dd_Rd_readNumber_149 (by decide) ?_
                        refine lv_icmp_ge (tgt := 160) hx hb dd_Rd_readNumber_152 (by decide) (fun h152 => ?_) (fun h152 => ?_)
                        ·
                          exact absurd h152 (by decide)
                        ·
                          refine lv_aload_n hx hb dd_Rd_readNumber_155 rfl (lv_at hl 4 rfl) ?_
                          refine lv_iload_n hx hb dd_Rd_readNumber_156 rfl (lv_at hl 2 rfl) ?_
                          refine mw_V (As := [.int (nI (pl + 1 + 1))]) (rest := []) E (cc_Rd_fail l D z (M3) d b ((pl + 1 + 1) + g (pl + 1)) (eN eo3) v3 v4 v5 v6 v7 v8 (nI (pl + 1 + 1)) wd) ky_Rd_fail kv_Rd_fail tw_Rd_68 hM hS wd rfl rfl rfl hl.1 rfl (Nat.le_of_ble_eq_true rfl) dd_Rd_readNumber_157 (by first | decide | exact ⟨by dsimp only; omega, by dsimp only; omega⟩) (by decide) (fun v M1 H locs hp hM hS => ?_)
                          obtain ⟨rfl, wd2, hF2⟩ := hp
                          rw [rd_eN (hleo3)] at wd2
                          have wb := hF2.at wb (mw_ne wb wd (fun q => by cases q))
                          have wr := hF2.at wr (mw_ne wr wd (fun q => by cases q))
                          have wd := wd2
                          have hF := hF.trans hF2
                          refine W.eq (g2 := F0 m 160 ls []) rfl ?_
                          exact join160 (eo3.or (some (pl + 1 + 1))) _ H locs ls (by rw [show tz g k (pl + 1 + 1) (g (pl + 1)) = some (pl + 1 + 1) from if_pos ⟨by omega, hpf, h136, Or.inl (by omega)⟩]) wd hF hM hS (lv_sub hl [1, 4] rfl)
                  ·
                    refine mw_topi (y := -1) (by_at_off (by omega) (by omega)) ?_
                    refine lv_if_ne (tgt := 160) hx hb dd_Rd_readNumber_136 (by decide) (fun h136 => ?_) (fun h136 => ?_)
                    ·
                      exact join160 eo3 _ H locs ls (by rw [show tz g k (pl + 1 + 1) (g (pl + 1)) = none from if_neg (fun q => hpk q.2.1), Option.or_none]) wd hF hM hS (lv_sub hl [1, 4] rfl)
                    ·
                      exact absurd h136 (by decide)
              ·
                rw [nI_leI (by omega) (by omega)] at h80
                omega
            | succ d9 ih =>
              intro i eo3 nv M3 H locs ls hi hfi heo3 hleo3 hnv wd wb wr hF hM hS hl
              refine lv_iload hx hb dd_Rd_readNumber_74 (lv_at hl 0 rfl) ?_
              refine lv_aload_n hx hb dd_Rd_readNumber_76 rfl (lv_at hl 4 rfl) ?_
              refine gf_Rd_18 E hM wd rfl dd_Rd_readNumber_77 ?_
              refine lv_icmp_ge (tgt := 123) hx hb dd_Rd_readNumber_80 (by decide) (fun h80 => ?_) (fun h80 => ?_)
              ·
                rw [nI_leI (by omega) (by omega)] at h80
                omega
              ·
                rw [nI_leI (by omega) (by omega)] at h80
                refine lv_aload_n hx hb dd_Rd_readNumber_83 rfl (lv_at hl 4 rfl) ?_
                refine gf_Rd_12 E hM wd rfl dd_Rd_readNumber_84 ?_
                refine lv_iload hx hb dd_Rd_readNumber_87 (lv_at hl 0 rfl) ?_
                refine mw_V (As := [.int (nI i)]) (rest := []) E (cc_By_at l D z (M3) b r f k (nI (i)) wb wr hk0) ky_By_at kv_By_at tw_Rd_64 hM hS wb rfl rfl rfl hl.1 rfl (Nat.le_of_ble_eq_true rfl) dd_Rd_readNumber_89 (by first | decide | exact ⟨by dsimp only; omega, by dsimp only; omega⟩) (by decide) (fun v M1 H locs hp hM hS => ?_)
                obtain ⟨rfl, hq⟩ := hp
                have hq := hq.symm
                subst hq
                refine W.eq (g2 := F0 m 92 ls [.int (by_at f k (nI (i)))]) rfl ?_
                by_cases hpk : i < k
                ·
                  refine mw_topi (y := nI (g (i))) ((by_at_nI (by omega) hpk).trans (hg (i) hpk).1) ?_
                  have hb9 := (hg (i) hpk).2
                  refine lv_iconst (v := -1) hx hb dd_Rd_readNumber_92 (by decide) ?_
                  refine lv_icmp_ne (tgt := 102) hx hb dd_Rd_readNumber_93 (by decide) (fun h93 => ?_) (fun h93 => ?_)
                  ·
                    refine lv_iload_n hx hb dd_Rd_readNumber_102 rfl (lv_at hl 1 rfl) ?_
                    refine lv_bipush (v := nI 8) hx hb dd_Rd_readNumber_103 (by decide) ?_
                    refine lv_ishl hx hb dd_Rd_readNumber_105 ?_
                    refine lv_aload_n hx hb dd_Rd_readNumber_106 rfl (lv_at hl 4 rfl) ?_
                    refine gf_Rd_12 E hM wd rfl dd_Rd_readNumber_107 ?_
                    refine lv_iload hx hb dd_Rd_readNumber_110 (lv_at hl 0 rfl) ?_
                    refine mw_V (As := [.int (nI i)]) (rest := [.int (nv <<< ((nI 8) &&& 31))]) E (cc_By_at l D z (M3) b r f k (nI (i)) wb wr hk0) ky_By_at kv_By_at tw_Rd_64 hM hS wb rfl rfl rfl hl.1 rfl (Nat.le_of_ble_eq_true rfl) dd_Rd_readNumber_112 (by first | decide | exact ⟨by dsimp only; omega, by dsimp only; omega⟩) (by decide) (fun v M1 H locs hp hM hS => ?_)
                    obtain ⟨rfl, hq⟩ := hp
                    have hq := hq.symm
                    subst hq
                    refine W.eq (g2 := F0 m 115 ls [.int (by_at f k (nI (i))), .int (nv <<< ((nI 8) &&& 31))]) rfl ?_
                    refine mw_topi (y := nI (g i)) ((by_at_nI (by omega) hpk).trans (hg i hpk).1) ?_
                    refine lv_ior hx hb dd_Rd_readNumber_115 ?_
                    have hnl := nr_lt (g := g) (f := pl + 1 + 1) (n := i - (pl + 1 + 1)) (fun j hj => (hg _ (by omega)).2) (i - (pl + 1 + 1)) (Nat.le_refl _)
                    have hn24 : nr_v g (pl + 1 + 1) (i - (pl + 1 + 1)) < 2 ^ 24 := Nat.lt_of_lt_of_le hnl (by
                      have h9 : i - (pl + 1 + 1) ≤ 3 := by omega
                      exact Nat.le_trans (Nat.pow_le_pow_right (by decide) h9) (by decide))
                    refine lv_istore_n (lv' := [(3, .int ((nv <<< ((nI 8) &&& 31)) ||| (nI (g i)))), (4, .int (nI i)), (2, .int (nI (pl + 1 + 1))), (1, .int (nI (g (pl + 1)))), (0, .ref d)]) hx hb dd_Rd_readNumber_116 rfl hl (by decide) rfl (fun ls hl => ?_)
                    refine lv_iinc (k := 1) (v := nI (i + 1)) (lv' := [(4, .int (nI (i + 1))), (3, .int ((nv <<< ((nI 8) &&& 31)) ||| (nI (g i)))), (2, .int (nI (pl + 1 + 1))), (1, .int (nI (g (pl + 1)))), (0, .ref d)]) hx hb dd_Rd_readNumber_117 hl rfl (nI_1 _) (by decide) rfl (fun ls hl => ?_)
                    refine lv_goto (tgt := 74) hx hb dd_Rd_readNumber_120 (by decide) ?_
                    exact ih (i + 1) eo3 _ _ H locs ls (by omega) (by omega) (by rw [heo3, show tm k (pl + 1 + 1) i = none from if_neg (by omega), show tm k (pl + 1 + 1) (i + 1) = none from if_neg (by omega)]) hleo3 (fun _ => by rw [hnv (by omega), nr_shl hn24 hb9, show i + 1 - (pl + 1 + 1) = (i - (pl + 1 + 1)) + 1 by omega]; show _ = nI (nr_v g (pl + 1 + 1) (i - (pl + 1 + 1)) * 256 + g ((pl + 1 + 1) + (i - (pl + 1 + 1)))); rw [show (pl + 1 + 1) + (i - (pl + 1 + 1)) = i by omega]) wd wb wr hF hM hS (lv_sub hl [0, 1, 2, 3, 4] rfl)
                  ·
                    exact absurd h93.symm (nI_nm1 (by omega))
                ·
                  refine mw_topi (y := -1) (by_at_off (by omega) (by omega)) ?_
                  refine lv_iconst (v := -1) hx hb dd_Rd_readNumber_92 (by decide) ?_
                  refine lv_icmp_ne (tgt := 102) hx hb dd_Rd_readNumber_93 (by decide) (fun h93 => ?_) (fun h93 => ?_)
                  ·
                    exact absurd rfl h93
                  ·
                    refine lv_aload_n hx hb dd_Rd_readNumber_96 rfl (lv_at hl 4 rfl) ?_
                    refine lv_iload hx hb dd_Rd_readNumber_97 (lv_at hl 0 rfl) ?_
                    refine mw_V (As := [.int (nI i)]) (rest := []) E (cc_Rd_fail l D z (M3) d b ((pl + 1 + 1) + g (pl + 1)) (eN eo3) v3 v4 v5 v6 v7 v8 (nI (i)) wd) ky_Rd_fail kv_Rd_fail tw_Rd_68 hM hS wd rfl rfl rfl hl.1 rfl (Nat.le_of_ble_eq_true rfl) dd_Rd_readNumber_99 (by first | decide | exact ⟨by dsimp only; omega, by dsimp only; omega⟩) (by decide) (fun v M1 H locs hp hM hS => ?_)
                    obtain ⟨rfl, wd2, hF2⟩ := hp
                    rw [rd_eN (hleo3)] at wd2
                    have wb := hF2.at wb (mw_ne wb wd (fun q => by cases q))
                    have wr := hF2.at wr (mw_ne wr wd (fun q => by cases q))
                    have wd := wd2
                    have hF := hF.trans hF2
                    refine W.eq (g2 := F0 m 102 ls []) rfl ?_
                    refine lv_iload_n hx hb dd_Rd_readNumber_102 rfl (lv_at hl 1 rfl) ?_
                    refine lv_bipush (v := nI 8) hx hb dd_Rd_readNumber_103 (by decide) ?_
                    refine lv_ishl hx hb dd_Rd_readNumber_105 ?_
                    refine lv_aload_n hx hb dd_Rd_readNumber_106 rfl (lv_at hl 4 rfl) ?_
                    refine gf_Rd_12 E hM wd rfl dd_Rd_readNumber_107 ?_
                    refine lv_iload hx hb dd_Rd_readNumber_110 (lv_at hl 0 rfl) ?_
                    refine mw_V (As := [.int (nI i)]) (rest := [.int (nv <<< ((nI 8) &&& 31))]) E (cc_By_at l D z (M1) b r f k (nI (i)) wb wr hk0) ky_By_at kv_By_at tw_Rd_64 hM hS wb rfl rfl rfl hl.1 rfl (Nat.le_of_ble_eq_true rfl) dd_Rd_readNumber_112 (by first | decide | exact ⟨by dsimp only; omega, by dsimp only; omega⟩) (by decide) (fun v M1 H locs hp hM hS => ?_)
                    obtain ⟨rfl, hq⟩ := hp
                    have hq := hq.symm
                    subst hq
                    refine W.eq (g2 := F0 m 115 ls [.int (by_at f k (nI (i))), .int (nv <<< ((nI 8) &&& 31))]) rfl ?_
                    refine lv_ior hx hb dd_Rd_readNumber_115 ?_
                    refine lv_istore_n (lv' := [(3, .int ((nv <<< ((nI 8) &&& 31)) ||| (by_at f k (nI (i))))), (4, .int (nI i)), (2, .int (nI (pl + 1 + 1))), (1, .int (nI (g (pl + 1)))), (0, .ref d)]) hx hb dd_Rd_readNumber_116 rfl hl (by decide) rfl (fun ls hl => ?_)
                    refine lv_iinc (k := 1) (v := nI (i + 1)) (lv' := [(4, .int (nI (i + 1))), (3, .int ((nv <<< ((nI 8) &&& 31)) ||| (by_at f k (nI (i))))), (2, .int (nI (pl + 1 + 1))), (1, .int (nI (g (pl + 1)))), (0, .ref d)]) hx hb dd_Rd_readNumber_117 hl rfl (nI_1 _) (by decide) rfl (fun ls hl => ?_)
                    refine lv_goto (tgt := 74) hx hb dd_Rd_readNumber_120 (by decide) ?_
                    exact ih (i + 1) (eo3.or (some i)) _ _ H locs ls (by omega) (by omega) (by rw [heo3, Option.or_assoc, tm_s (by omega) (by omega)]) (eN_or hleo3 (some_lt (by omega))) (fun q => absurd q (by omega)) wd wb wr hF hM hS (lv_sub hl [0, 1, 2, 3, 4] rfl)
          exact loop74 (g (pl + 1)) (pl + 1 + 1) eo2 (nI 0) _ H locs ls (by omega) (Nat.le_refl _) (by rw [show tm k (pl + 1 + 1) (pl + 1 + 1) = none from if_neg (by omega), Option.or_none]) hleo2 (fun _ => by rw [Nat.sub_self]; rfl) wd wb wr hF hM hS (lv_sub hl [0, 1, 2, 3, 4] rfl)
        refine lv_aload_n hx hb dd_Rd_readNumber_37 rfl (lv_at hl 1 rfl) ?_
        refine gf_Rd_18 E hM wd rfl dd_Rd_readNumber_38 ?_
        refine lv_iconst (v := nI 1) hx hb dd_Rd_readNumber_41 (by decide) ?_
        refine lv_iadd hx hb dd_Rd_readNumber_42 ?_
        refine mw_topi (y := nI ((pl + 1) + 1)) (nI_add _ _) ?_
        refine lv_istore_n (lv' := [(2, .int (nI ((pl + 1) + 1))), (1, .int (nI (g (pl + 1)))), (0, .ref d)]) hx hb dd_Rd_readNumber_43 rfl hl (by decide) rfl (fun ls hl => ?_)
        refine lv_aload_n hx hb dd_Rd_readNumber_44 rfl (lv_at hl 2 rfl) ?_
        refine gf_Rd_12 E hM wd rfl dd_Rd_readNumber_45 ?_
        refine lv_iload_n hx hb dd_Rd_readNumber_48 rfl (lv_at hl 0 rfl) ?_
        refine mw_V (As := [.int (nI ((pl + 1) + 1))]) (rest := []) E (cc_By_at l D z (M1) b r f k (nI (pl + 1 + 1)) wb wr hk0) ky_By_at kv_By_at tw_Rd_64 hM hS wb rfl rfl rfl hl.1 rfl (Nat.le_of_ble_eq_true rfl) dd_Rd_readNumber_49 (by first | decide | exact ⟨by dsimp only; omega, by dsimp only; omega⟩) (by decide) (fun v M1 H locs hp hM hS => ?_)
        obtain ⟨rfl, hq⟩ := hp
        have hq := hq.symm
        subst hq
        refine W.eq (g2 := F0 m 52 ls [.int (by_at f k (nI (pl + 1 + 1)))]) rfl ?_
        by_cases hpk : pl + 1 + 1 < k
        ·
          refine mw_topi (y := nI (g (pl + 1 + 1))) ((by_at_nI (by omega) hpk).trans (hg (pl + 1 + 1) hpk).1) ?_
          have hb9 := (hg (pl + 1 + 1) hpk).2
          refine lv_bipush (v := nI 127) hx hb dd_Rd_readNumber_52 (by decide) ?_
          refine lv_icmp_le (tgt := 62) hx hb dd_Rd_readNumber_54 (by decide) (fun h54 => ?_) (fun h54 => ?_)
          ·
            rw [nI_leI (by omega) (by omega)] at h54
            exact join62 eo1 _ H locs ls (by rw [show th g k (pl + 1 + 1) = none from if_neg (fun q => absurd q.2 (by omega)), Option.or_none]) hleo1 wd wb wr hF hM hS (lv_sub hl [0, 1, 2] rfl)
          ·
            rw [nI_leI (by omega) (by omega)] at h54
            refine lv_aload_n hx hb dd_Rd_readNumber_57 rfl (lv_at hl 2 rfl) ?_
            refine lv_iload_n hx hb dd_Rd_readNumber_58 rfl (lv_at hl 0 rfl) ?_
            refine mw_V (As := [.int (nI ((pl + 1) + 1))]) (rest := []) E (cc_Rd_fail l D z (M1) d b (pl + 1) (eN eo1) v3 v4 v5 v6 v7 v8 (nI (pl + 1 + 1)) wd) ky_Rd_fail kv_Rd_fail tw_Rd_68 hM hS wd rfl rfl rfl hl.1 rfl (Nat.le_of_ble_eq_true rfl) dd_Rd_readNumber_59 (by first | decide | exact ⟨by dsimp only; omega, by dsimp only; omega⟩) (by decide) (fun v M1 H locs hp hM hS => ?_)
            obtain ⟨rfl, wd2, hF2⟩ := hp
            rw [rd_eN (hleo1)] at wd2
            have wb := hF2.at wb (mw_ne wb wd (fun q => by cases q))
            have wr := hF2.at wr (mw_ne wr wd (fun q => by cases q))
            have wd := wd2
            have hF := hF.trans hF2
            refine W.eq (g2 := F0 m 62 ls []) rfl ?_
            exact join62 (eo1.or (some (pl + 1 + 1))) _ H locs ls (by rw [show th g k (pl + 1 + 1) = some (pl + 1 + 1) from if_pos ⟨hpk, by omega⟩]) (eN_or hleo1 (some_lt (by omega))) wd wb wr hF hM hS (lv_sub hl [0, 1, 2] rfl)
        ·
          refine mw_topi (y := -1) (by_at_off (by omega) (by omega)) ?_
          refine lv_bipush (v := nI 127) hx hb dd_Rd_readNumber_52 (by decide) ?_
          refine lv_icmp_le (tgt := 62) hx hb dd_Rd_readNumber_54 (by decide) (fun h54 => ?_) (fun h54 => ?_)
          ·
            exact join62 eo1 _ H locs ls (by rw [show th g k (pl + 1 + 1) = none from if_neg (fun q => hpk q.1), Option.or_none]) hleo1 wd wb wr hF hM hS (lv_sub hl [0, 1, 2] rfl)
          ·
            exact absurd (by decide) h54
      ·
        rw [nI_leI (by omega) (by omega)] at h24
        refine lv_aload_n hx hb dd_Rd_readNumber_27 rfl (lv_at hl 1 rfl) ?_
        refine lv_aload_n hx hb dd_Rd_readNumber_28 rfl (lv_at hl 1 rfl) ?_
        refine gf_Rd_18 E hM wd rfl dd_Rd_readNumber_29 ?_
        refine mw_V (As := [.int (nI (pl + 1))]) (rest := []) E (cc_Rd_fail l D z (M1) d b (pl + 1) (eN eo1) v3 v4 v5 v6 v7 v8 (nI (pl + 1)) wd) ky_Rd_fail kv_Rd_fail tw_Rd_68 hM hS wd rfl rfl rfl hl.1 rfl (Nat.le_of_ble_eq_true rfl) dd_Rd_readNumber_32 (by first | decide | exact ⟨by dsimp only; omega, by dsimp only; omega⟩) (by decide) (fun v M1 H locs hp hM hS => ?_)
        obtain ⟨rfl, wd2, hF2⟩ := hp
        rw [rd_eN (hleo1)] at wd2
        have wb := hF2.at wb (mw_ne wb wd (fun q => by cases q))
        have wr := hF2.at wr (mw_ne wr wd (fun q => by cases q))
        have wd := wd2
        have hF := hF.trans hF2
        refine W.eq (g2 := F0 m 35 ls []) rfl ?_
        refine lv_iconst (v := nI 0) hx hb dd_Rd_readNumber_35 (by decide) ?_
        refine mr_i E hr hk hM hS (by decide) (by decide) ?_ dd_Rd_readNumber_36
        refine ⟨pl + 1, nI 0, rfl, ?_, by omega, fun q => ?_, hF⟩
        · rw [show nr_E g k pl = (te g k 2 pl).or (some (pl + 1)) from congrArg _ (if_neg (fun q => by omega)), ← Option.or_assoc, ← heo1]
          exact wd
        · rw [show nr_E g k pl = (te g k 2 pl).or (some (pl + 1)) from congrArg _ (if_neg (fun q => by omega))] at q
          cases (Option.or_eq_none_iff.mp q).2
  ·
    refine mw_topi (y := -1) (by_at_off (by omega) (by omega)) ?_
    refine lv_istore_n (lv' := [(1, .int (-1)), (0, .ref d)]) hx hb dd_Rd_readNumber_16 rfl hl (by decide) rfl (fun ls hl => ?_)
    refine lv_iload_n hx hb dd_Rd_readNumber_17 rfl (lv_at hl 0 rfl) ?_
    refine lv_iconst (v := nI 1) hx hb dd_Rd_readNumber_18 (by decide) ?_
    refine lv_icmp_lt (tgt := 27) hx hb dd_Rd_readNumber_19 (by decide) (fun h19 => ?_) (fun h19 => ?_)
    ·
      refine lv_aload_n hx hb dd_Rd_readNumber_27 rfl (lv_at hl 1 rfl) ?_
      refine lv_aload_n hx hb dd_Rd_readNumber_28 rfl (lv_at hl 1 rfl) ?_
      refine gf_Rd_18 E hM wd rfl dd_Rd_readNumber_29 ?_
      refine mw_V (As := [.int (nI (pl + 1))]) (rest := []) E (cc_Rd_fail l D z (M1) d b (pl + 1) (eN eo1) v3 v4 v5 v6 v7 v8 (nI (pl + 1)) wd) ky_Rd_fail kv_Rd_fail tw_Rd_68 hM hS wd rfl rfl rfl hl.1 rfl (Nat.le_of_ble_eq_true rfl) dd_Rd_readNumber_32 (by first | decide | exact ⟨by dsimp only; omega, by dsimp only; omega⟩) (by decide) (fun v M1 H locs hp hM hS => ?_)
      obtain ⟨rfl, wd2, hF2⟩ := hp
      rw [rd_eN (hleo1)] at wd2
      have wb := hF2.at wb (mw_ne wb wd (fun q => by cases q))
      have wr := hF2.at wr (mw_ne wr wd (fun q => by cases q))
      have wd := wd2
      have hF := hF.trans hF2
      refine W.eq (g2 := F0 m 35 ls []) rfl ?_
      refine lv_iconst (v := nI 0) hx hb dd_Rd_readNumber_35 (by decide) ?_
      refine mr_i E hr hk hM hS (by decide) (by decide) ?_ dd_Rd_readNumber_36
      refine ⟨pl + 1, nI 0, rfl, ?_, by omega, fun q => ?_, hF⟩
      · rw [show nr_E g k pl = (te g k 2 pl).or (some (pl + 1)) from congrArg _ (if_neg (fun q => hpk q.1)), ← Option.or_assoc, ← heo1]
        exact wd
      · rw [show nr_E g k pl = (te g k 2 pl).or (some (pl + 1)) from congrArg _ (if_neg (fun q => hpk q.1))] at q
        cases (Option.or_eq_none_iff.mp q).2
    ·
      exact absurd (by decide) h19
