/-! reading: IDs, lengths, the whole -/
def id_E (g : Nat → Nat) (k p : Nat) : Option Nat := (te g k 134 p).or (if p + 1 < k ∧ g (p + 1) ≤ k - (p + 2) then (ie_err g (p + 2) (g (p + 1))).map (fun e => p + 2 + e) else some (p + 1))
def cl_E (g : Nat → Nat) (k be pl : Nat) : Option Nat := ((if 3 < k ∧ g 3 = be - 4 then none else some 3 : Option Nat).or (if pl < k then some pl else none)).or (if 1 < k ∧ g 1 = pl - 2 then none else some 1)
def np (g : Nat → Nat) (p : Nat) : Nat := p + 2 + g (p + 1)
def vf_p (g : Nat → Nat) : Nat → Nat
  | 0 => 4
  | i + 1 => np g (vf_p g i)
def vf_9 (g : Nat → Nat) (k : Nat) : Option Nat := ((((((((((none : Option Nat).or (te g k 48 0)).or (ta k 1)).or (te g k 48 2)).or (ta k 3)).or (nr_E g k (vf_p g 0))).or (nr_E g k (vf_p g 1))).or (nr_E g k (vf_p g 2))).or (nr_E g k (vf_p g 3))).or (id_E g k (vf_p g 4)))
def vf_14 (g : Nat → Nat) (k : Nat) : Option Nat := (((((vf_9 g k).or (te g k 3 (vf_p g 5))).or (te g k 2 (vf_p g 5 + 1))).or (te g k 7 (vf_p g 5 + 2))).or (te g k 128 (vf_p g 5 + 3))).or (nr_E g k (vf_p g 5 + 4))
def vf_E (g : Nat → Nat) (k : Nat) : Option Nat := (vf_14 g k).or (cl_E g k (vf_p g 5 + 4) (np g (vf_p g 5 + 4)))
theorem or_c {o a b : Option Nat} (h : o = none → a = b) : o.or a = o.or b := by
  cases o with
  | none => exact h rfl
  | some x => rfl
theorem or_l {o a : Option Nat} (h : o.or a = none) : o = none := (Option.or_eq_none_iff.mp h).1
theorem or_r {o a : Option Nat} (h : o.or a = none) : a = none := (Option.or_eq_none_iff.mp h).2
theorem ta_lt {k p : Nat} (h : p < 2 ^ 20) : ∀ q : Nat, ta k p = some q → q < 2 ^ 20 := fun q e => by
  unfold ta at e
  split at e
  · cases e
  · cases e
    exact h
theorem nr_Elt {g : Nat → Nat} {k p : Nat} (h : p < 2 ^ 19) (hk : k ≤ 100) (hb : ∀ j : Nat, j < k → g j < 256) : ∀ q : Nat, nr_E g k p = some q → q < 2 ^ 20 := by
  unfold nr_E
  refine eN_or (te_lt (by omega)) ?_
  split
  · rename_i hc
    unfold nr_2
    refine eN_or ?_ (eN_or ?_ ?_)
    · intro q e
      unfold th at e
      split at e
      · cases e
        omega
      · cases e
    · intro q e
      unfold tm at e
      split at e
      · cases e
        omega
      · cases e
    · intro q e
      unfold tz at e
      split at e
      · cases e
        omega
      · cases e
  · exact some_lt (by omega)
theorem ie_err_le {g : Nat → Nat} {a n e : Nat} (h : ie_err g a n = some e) : e ≤ n := by
  unfold ie_err at h
  generalize (if 40 < n ∧ 40 < ie_by g a n then 40 else ie_by g a n) = x at h
  by_cases hn : n < x
  · rw [if_pos hn] at h
    cases h
  · rw [if_neg hn] at h
    cases h
    omega
theorem id_Elt {g : Nat → Nat} {k p : Nat} (h : p < 2 ^ 19) (hk : k ≤ 100) : ∀ q : Nat, id_E g k p = some q → q < 2 ^ 20 := by
  unfold id_E
  refine eN_or (te_lt (by omega)) ?_
  split
  · rename_i hc
    intro q e
    cases he : ie_err g (p + 2) (g (p + 1)) with
    | none => rw [he] at e; cases e
    | some x =>
      rw [he] at e
      cases e
      have := ie_err_le he
      show p + 2 + x < 2 ^ 20
      omega
  · exact some_lt (by omega)
theorem cc_Rd_readId (l : Launch) (D : va_G) (z : Nat) (M : mw_M) (b r : Nat) (f : Nat → Int32) (k : Nat) (g : Nat → Nat) (d pl : Nat) (eo : Option Nat) (v3 v4 v5 v6 v7 v8 : Int32) (wb : M b = some (.inr (1, [.ref r, .int (nI k)]))) (wr : M r = some (.inl (D.1 100, 100, .inl f))) (hk0 : k ≤ 100) (hg : ∀ j : Nat, j < k → f j = nI (g j) ∧ g j < 256) (wd : M d = some (.inr (6, [.ref b, .int (nI pl), .int (eN eo), .int (v3), .int (v4), .int (v5), .int (v6), .int (v7), .int (v8)]))) (heo : ∀ q : Nat, eo = some q → q < 2 ^ 20) (hpl : pl < 2 ^ 18) : mw_C l yy_Rd_readId bb_Rd_readId 4 (Option.none : Option Jvm.ClassFile.FieldType) 6 133 0 0 D z M [.ref d] (fun v M' => ∃ pl' : Nat, v = none ∧ M' d = some (.inr (6, [.ref b, .int (nI pl'), .int (eN (eo.or (id_E g k pl))), .int (v3), .int (v4), .int (v5), .int (v6), .int (v7), .int (v8)])) ∧ (pl ≤ pl' ∧ pl' ≤ pl + 300) ∧ (id_E g k pl = none → pl' = pl + 2 + g (pl + 1) ∧ pl' ≤ k) ∧ mw_fr (fun q => q = d) M M') := by
  refine mw_of (by decide) (Nat.le_of_ble_eq_true rfl) ?_
  intro p e s m below meth c ls E hr hk hnm hM hl
  have hx := E.x
  have hb := E.b
  have E : mw_E p m c bb_Rd_readId 4 s _ D z "IdentityIssuer$Reader" := E
  have hl : lv_has ls 4 [(0, .ref d)] := hl
  have hS : va_S (mw_A z) s.heap s.heap [] := va_S.rf
  have hF : mw_fr (fun q => q = d) M M := mw_fr.rf
  refine lv_aload_n hx hb dd_Rd_readId_0 rfl (lv_at hl 0 rfl) ?_
  refine lv_sipush (v := nI 134) hx hb dd_Rd_readId_1 (by decide) ?_
  refine mw_V (As := [.int (nI 134)]) (rest := []) E (cc_Rd_expect l D z (M) b r f k g d (pl) eo v3 v4 v5 v6 v7 v8 134 wb wr hk0 hg wd (heo) (by omega) (by omega)) ky_Rd_expect kv_Rd_expect tw_Rd_25 hM hS wd rfl rfl rfl hl.1 rfl (Nat.le_of_ble_eq_true rfl) dd_Rd_readId_4 (by first | decide | exact ⟨by dsimp only; omega, by dsimp only; omega⟩) (by decide) (fun v M1 H locs hp hM hS => ?_)
  obtain ⟨rfl, wd2, hF2⟩ := hp
  have wb := hF2.at wb (mw_ne wb wd (fun q => by cases q))
  have wr := hF2.at wr (mw_ne wr wd (fun q => by cases q))
  have wd := wd2
  have hF := hF.trans hF2
  obtain ⟨eo1, heo1⟩ : ∃ o9 : Option Nat, o9 = eo.or (te g k 134 pl) := ⟨_, rfl⟩
  rw [← heo1] at wd
  have hleo1 : ∀ q : Nat, eo1 = some q → q < 2 ^ 20 := by rw [heo1]; exact eN_or (heo) (te_lt (by omega))
  refine W.eq (g2 := F0 m 7 ls []) rfl ?_
  refine lv_aload_n hx hb dd_Rd_readId_7 rfl (lv_at hl 0 rfl) ?_
  refine gf_Rd_12 E hM wd rfl dd_Rd_readId_8 ?_
  refine lv_aload_n hx hb dd_Rd_readId_11 rfl (lv_at hl 0 rfl) ?_
  refine gf_Rd_18 E hM wd rfl dd_Rd_readId_12 ?_
  refine mw_V (As := [.int (nI (pl + 1))]) (rest := []) E (cc_By_at l D z (M1) b r f k (nI (pl + 1)) wb wr hk0) ky_By_at kv_By_at tw_Rd_64 hM hS wb rfl rfl rfl hl.1 rfl (Nat.le_of_ble_eq_true rfl) dd_Rd_readId_15 (by first | decide | exact ⟨by dsimp only; omega, by dsimp only; omega⟩) (by decide) (fun v M1 H locs hp hM hS => ?_)
  obtain ⟨rfl, hq⟩ := hp
  have hq := hq.symm
  subst hq
  refine W.eq (g2 := F0 m 18 ls [.int (by_at f k (nI (pl + 1)))]) rfl ?_
  by_cases hpk : pl + 1 < k
  ·
    refine mw_topi (y := nI (g (pl + 1))) ((by_at_nI (by omega) hpk).trans (hg (pl + 1) hpk).1) ?_
    have hb9 := (hg (pl + 1) hpk).2
    have hp1 : pl + 1 < k := hpk
    refine lv_istore_n (lv' := [(1, .int (nI (g (pl + 1)))), (0, .ref d)]) hx hb dd_Rd_readId_18 rfl hl (by decide) rfl (fun ls hl => ?_)
    refine lv_aload_n hx hb dd_Rd_readId_19 rfl (lv_at hl 1 rfl) ?_
    refine gf_Rd_18 E hM wd rfl dd_Rd_readId_20 ?_
    refine lv_iconst (v := nI 1) hx hb dd_Rd_readId_23 (by decide) ?_
    refine lv_iadd hx hb dd_Rd_readId_24 ?_
    refine mw_topi (y := nI ((pl + 1) + 1)) (nI_add _ _) ?_
    refine lv_istore_n (lv' := [(2, .int (nI ((pl + 1) + 1))), (1, .int (nI (g (pl + 1)))), (0, .ref d)]) hx hb dd_Rd_readId_25 rfl hl (by decide) rfl (fun ls hl => ?_)
    refine lv_iload_n hx hb dd_Rd_readId_26 rfl (lv_at hl 1 rfl) ?_
    refine lv_iconst (v := -1) hx hb dd_Rd_readId_27 (by decide) ?_
    refine lv_icmp_eq (tgt := 44) hx hb dd_Rd_readId_28 (by decide) (fun h28 => ?_) (fun h28 => ?_)
    ·
      exact absurd h28.symm (nI_nm1 (by omega))
    ·
      refine lv_iload_n hx hb dd_Rd_readId_31 rfl (lv_at hl 1 rfl) ?_
      refine lv_aload_n hx hb dd_Rd_readId_32 rfl (lv_at hl 2 rfl) ?_
      refine gf_Rd_12 E hM wd rfl dd_Rd_readId_33 ?_
      refine mw_V (As := []) (rest := [.int (nI (g (pl + 1)))]) E (cc_By_length l D z (M1) b r f k wb wr hk0) ky_By_length kv_By_length tw_Rd_71 hM hS wb rfl rfl rfl hl.1 rfl (Nat.le_of_ble_eq_true rfl) dd_Rd_readId_36 (by first | decide | exact ⟨by dsimp only; omega, by dsimp only; omega⟩) (by decide) (fun v M1 H locs hp hM hS => ?_)
      obtain ⟨rfl, hq⟩ := hp
      have hq := hq.symm
      subst hq
      refine W.eq (g2 := F0 m 39 ls [.int (nI k), .int (nI (g (pl + 1)))]) rfl ?_
      refine lv_iload_n hx hb dd_Rd_readId_39 rfl (lv_at hl 0 rfl) ?_
      refine lv_isub hx hb dd_Rd_readId_40 ?_
      refine mw_topi (y := nI (k - ((pl + 1) + 1))) (pk_sub (by omega)) ?_
      refine lv_icmp_le (tgt := 53) hx hb dd_Rd_readId_41 (by decide) (fun h41 => ?_) (fun h41 => ?_)
      ·
        rw [nI_leI (by omega) (by omega)] at h41
        refine lv_aload_n hx hb dd_Rd_readId_53 rfl (lv_at hl 2 rfl) ?_
        refine lv_iload_n hx hb dd_Rd_readId_54 rfl (lv_at hl 0 rfl) ?_
        refine lv_iload_n hx hb dd_Rd_readId_55 rfl (lv_at hl 1 rfl) ?_
        refine lv_iadd hx hb dd_Rd_readId_56 ?_
        refine mw_topi (y := nI (((pl + 1) + 1) + (g (pl + 1)))) (nI_add _ _) ?_
        refine pf_Rd_18 E hM hS wd (Nat.le_of_ble_eq_true rfl) dd_Rd_readId_57 (fun H locs hM hS => ?_)
        have hM : mw_at D mg_cl z (va_up M1 d (some (.inr (6, [.ref b, .int (nI (((pl + 1) + 1) + (g (pl + 1)))), .int (eN eo1), .int (v3), .int (v4), .int (v5), .int (v6), .int (v7), .int (v8)])))) H := hM
        obtain ⟨M1, hM1⟩ : ∃ M9 : mw_M, M9 = va_up M1 d (some (.inr (6, [.ref b, .int (nI (((pl + 1) + 1) + (g (pl + 1)))), .int (eN eo1), .int (v3), .int (v4), .int (v5), .int (v6), .int (v7), .int (v8)]))) := ⟨_, rfl⟩
        rw [← hM1] at hM
        have wb := mw_uu hM1 wb (mw_ne wb wd (fun q => by cases q))
        have wr := mw_uu hM1 wr (mw_ne wr wd (fun q => by cases q))
        have wd := mw_us hM1
        have hF := mw_fu hM1 hF (rfl)
        refine lv_aload_n hx hb dd_Rd_readId_60 rfl (lv_at hl 2 rfl) ?_
        refine gf_Rd_12 E hM wd rfl dd_Rd_readId_61 ?_
        refine lv_iload_n hx hb dd_Rd_readId_64 rfl (lv_at hl 0 rfl) ?_
        refine lv_aload_n hx hb dd_Rd_readId_65 rfl (lv_at hl 2 rfl) ?_
        refine gf_Rd_18 E hM wd rfl dd_Rd_readId_66 ?_
        refine mw_S (As := [.ref b, .int (nI ((pl + 1) + 1)), .int (nI (((pl + 1) + 1) + (g (pl + 1))))]) (rest := []) E (cc_Id_firstError l D z (M1) b r f k g (pl + 1 + 1) (g (pl + 1)) wb wr hk0 hg (by omega)) ky_Id_firstError kv_Id_firstError tw_Rd_74 hM hS rfl hl.1 rfl (Nat.le_of_ble_eq_true rfl) dd_Rd_readId_69 (by first | decide | exact ⟨by dsimp only; omega, by dsimp only; omega⟩) (by decide) (fun v M1 H locs hp hM hS => ?_)
        obtain ⟨rfl, hq⟩ := hp
        have hq := hq.symm
        subst hq
        rcases hie : ie_err g (pl + 1 + 1) (g (pl + 1)) with _ | e9
        ·
          refine W.eq (g2 := F0 m 72 ls [.int (-1)]) rfl ?_
          refine lv_istore_n (lv' := [(3, .int (-1)), (2, .int (nI ((pl + 1) + 1))), (1, .int (nI (g (pl + 1)))), (0, .ref d)]) hx hb dd_Rd_readId_72 rfl hl (by decide) rfl (fun ls hl => ?_)
          refine lv_iload_n hx hb dd_Rd_readId_73 rfl (lv_at hl 0 rfl) ?_
          refine lv_iconst (v := -1) hx hb dd_Rd_readId_74 (by decide) ?_
          refine lv_icmp_eq (tgt := 83) hx hb dd_Rd_readId_75 (by decide) (fun h75 => ?_) (fun h75 => ?_)
          ·
            refine mr_v E hr hk hM hS (by decide) (by decide) ?_ dd_Rd_readId_83
            have hE2 : id_E g k pl = (te g k 134 pl).or ((ie_err g (pl + 2) (g (pl + 1))).map (fun e => pl + 2 + e)) := congrArg _ (if_pos ⟨hp1, by omega⟩)
            refine ⟨pl + 1 + 1 + g (pl + 1), rfl, ?_, by have := (hg (pl + 1) hp1).2; omega, fun q => ⟨rfl, by omega⟩, hF⟩
            rw [hE2, ← Option.or_assoc, ← heo1, show ie_err g (pl + 2) (g (pl + 1)) = _ from hie]
            show M1 d = some (.inr (6, [.ref b, .int (nI (pl + 1 + 1 + g (pl + 1))), .int (eN (eo1.or none)), .int (v3), .int (v4), .int (v5), .int (v6), .int (v7), .int (v8)]))
            rw [Option.or_none]
            exact wd
          ·
            exact absurd rfl h75
        ·
          have hle9 := ie_err_le hie
          refine W.eq (g2 := F0 m 72 ls [.int (nI (pl + 1 + 1 + e9))]) rfl ?_
          refine lv_istore_n (lv' := [(3, .int (nI (pl + 1 + 1 + e9))), (2, .int (nI ((pl + 1) + 1))), (1, .int (nI (g (pl + 1)))), (0, .ref d)]) hx hb dd_Rd_readId_72 rfl hl (by decide) rfl (fun ls hl => ?_)
          refine lv_iload_n hx hb dd_Rd_readId_73 rfl (lv_at hl 0 rfl) ?_
          refine lv_iconst (v := -1) hx hb dd_Rd_readId_74 (by decide) ?_
          refine lv_icmp_eq (tgt := 83) hx hb dd_Rd_readId_75 (by decide) (fun h75 => ?_) (fun h75 => ?_)
          ·
            exact absurd h75.symm (nI_nm1 (by omega))
          ·
            refine lv_aload_n hx hb dd_Rd_readId_78 rfl (lv_at hl 3 rfl) ?_
            refine lv_iload_n hx hb dd_Rd_readId_79 rfl (lv_at hl 0 rfl) ?_
            refine mw_V (As := [.int (nI (pl + 1 + 1 + e9))]) (rest := []) E (cc_Rd_fail l D z (M1) d b (((pl + 1) + 1) + (g (pl + 1))) (eN eo1) v3 v4 v5 v6 v7 v8 (nI (pl + 1 + 1 + e9)) wd) ky_Rd_fail kv_Rd_fail tw_Rd_68 hM hS wd rfl rfl rfl hl.1 rfl (Nat.le_of_ble_eq_true rfl) dd_Rd_readId_80 (by first | decide | exact ⟨by dsimp only; omega, by dsimp only; omega⟩) (by decide) (fun v M1 H locs hp hM hS => ?_)
            obtain ⟨rfl, wd2, hF2⟩ := hp
            rw [rd_eN (hleo1)] at wd2
            have wb := hF2.at wb (mw_ne wb wd (fun q => by cases q))
            have wr := hF2.at wr (mw_ne wr wd (fun q => by cases q))
            have wd := wd2
            have hF := hF.trans hF2
            refine W.eq (g2 := F0 m 83 ls []) rfl ?_
            refine mr_v E hr hk hM hS (by decide) (by decide) ?_ dd_Rd_readId_83
            have hE2 : id_E g k pl = (te g k 134 pl).or ((ie_err g (pl + 2) (g (pl + 1))).map (fun e => pl + 2 + e)) := congrArg _ (if_pos ⟨hp1, by omega⟩)
            refine ⟨pl + 1 + 1 + g (pl + 1), rfl, ?_, by have := (hg (pl + 1) hp1).2; omega, fun q => ⟨rfl, by omega⟩, hF⟩
            rw [hE2, ← Option.or_assoc, ← heo1, show ie_err g (pl + 2) (g (pl + 1)) = _ from hie]
            exact wd
      ·
        rw [nI_leI (by omega) (by omega)] at h41
        refine lv_aload_n hx hb dd_Rd_readId_44 rfl (lv_at hl 2 rfl) ?_
        refine lv_aload_n hx hb dd_Rd_readId_45 rfl (lv_at hl 2 rfl) ?_
        refine gf_Rd_18 E hM wd rfl dd_Rd_readId_46 ?_
        refine mw_V (As := [.int (nI (pl + 1))]) (rest := []) E (cc_Rd_fail l D z (M1) d b (pl + 1) (eN eo1) v3 v4 v5 v6 v7 v8 (nI (pl + 1)) wd) ky_Rd_fail kv_Rd_fail tw_Rd_68 hM hS wd rfl rfl rfl hl.1 rfl (Nat.le_of_ble_eq_true rfl) dd_Rd_readId_49 (by first | decide | exact ⟨by dsimp only; omega, by dsimp only; omega⟩) (by decide) (fun v M1 H locs hp hM hS => ?_)
        obtain ⟨rfl, wd2, hF2⟩ := hp
        rw [rd_eN (hleo1)] at wd2
        have wb := hF2.at wb (mw_ne wb wd (fun q => by cases q))
        have wr := hF2.at wr (mw_ne wr wd (fun q => by cases q))
        have wd := wd2
        have hF := hF.trans hF2
        refine W.eq (g2 := F0 m 52 ls []) rfl ?_
        refine mr_v E hr hk hM hS (by decide) (by decide) ?_ dd_Rd_readId_52
        have hE2 : id_E g k pl = (te g k 134 pl).or (some (pl + 1)) := congrArg _ (if_neg (fun q => absurd q.2 (by omega)))
        refine ⟨pl + 1, rfl, ?_, by omega, fun q => ?_, hF⟩
        · rw [hE2, ← Option.or_assoc, ← heo1]
          exact wd
        · rw [hE2] at q
          cases or_r q
  ·
    refine mw_topi (y := -1) (by_at_off (by omega) (by omega)) ?_
    refine lv_istore_n (lv' := [(1, .int (-1)), (0, .ref d)]) hx hb dd_Rd_readId_18 rfl hl (by decide) rfl (fun ls hl => ?_)
    refine lv_aload_n hx hb dd_Rd_readId_19 rfl (lv_at hl 1 rfl) ?_
    refine gf_Rd_18 E hM wd rfl dd_Rd_readId_20 ?_
    refine lv_iconst (v := nI 1) hx hb dd_Rd_readId_23 (by decide) ?_
    refine lv_iadd hx hb dd_Rd_readId_24 ?_
    refine mw_topi (y := nI ((pl + 1) + 1)) (nI_add _ _) ?_
    refine lv_istore_n (lv' := [(2, .int (nI ((pl + 1) + 1))), (1, .int (-1)), (0, .ref d)]) hx hb dd_Rd_readId_25 rfl hl (by decide) rfl (fun ls hl => ?_)
    refine lv_iload_n hx hb dd_Rd_readId_26 rfl (lv_at hl 1 rfl) ?_
    refine lv_iconst (v := -1) hx hb dd_Rd_readId_27 (by decide) ?_
    refine lv_icmp_eq (tgt := 44) hx hb dd_Rd_readId_28 (by decide) (fun h28 => ?_) (fun h28 => ?_)
    ·
      refine lv_aload_n hx hb dd_Rd_readId_44 rfl (lv_at hl 2 rfl) ?_
      refine lv_aload_n hx hb dd_Rd_readId_45 rfl (lv_at hl 2 rfl) ?_
      refine gf_Rd_18 E hM wd rfl dd_Rd_readId_46 ?_
      refine mw_V (As := [.int (nI (pl + 1))]) (rest := []) E (cc_Rd_fail l D z (M1) d b (pl + 1) (eN eo1) v3 v4 v5 v6 v7 v8 (nI (pl + 1)) wd) ky_Rd_fail kv_Rd_fail tw_Rd_68 hM hS wd rfl rfl rfl hl.1 rfl (Nat.le_of_ble_eq_true rfl) dd_Rd_readId_49 (by first | decide | exact ⟨by dsimp only; omega, by dsimp only; omega⟩) (by decide) (fun v M1 H locs hp hM hS => ?_)
      obtain ⟨rfl, wd2, hF2⟩ := hp
      rw [rd_eN (hleo1)] at wd2
      have wb := hF2.at wb (mw_ne wb wd (fun q => by cases q))
      have wr := hF2.at wr (mw_ne wr wd (fun q => by cases q))
      have wd := wd2
      have hF := hF.trans hF2
      refine W.eq (g2 := F0 m 52 ls []) rfl ?_
      refine mr_v E hr hk hM hS (by decide) (by decide) ?_ dd_Rd_readId_52
      have hE2 : id_E g k pl = (te g k 134 pl).or (some (pl + 1)) := congrArg _ (if_neg (fun q => hpk q.1))
      refine ⟨pl + 1, rfl, ?_, by omega, fun q => ?_, hF⟩
      · rw [hE2, ← Option.or_assoc, ← heo1]
        exact wd
      · rw [hE2] at q
        cases or_r q
    ·
      exact absurd rfl h28
theorem cc_Rd_checkLengths (l : Launch) (D : va_G) (z : Nat) (M : mw_M) (b r : Nat) (f : Nat → Int32) (k : Nat) (g : Nat → Nat) (d pl : Nat) (eo : Option Nat) (v3 v4 v5 v6 v8 : Int32) (be : Nat) (wb : M b = some (.inr (1, [.ref r, .int (nI k)]))) (wr : M r = some (.inl (D.1 100, 100, .inl f))) (hk0 : k ≤ 100) (hg : ∀ j : Nat, j < k → f j = nI (g j) ∧ g j < 256) (wd : M d = some (.inr (6, [.ref b, .int (nI pl), .int (eN eo), .int (v3), .int (v4), .int (v5), .int (v6), .int (nI be), .int (v8)]))) (heo : ∀ q : Nat, eo = some q → q < 2 ^ 20) (hpl : pl < 2 ^ 18) (hp2 : 2 ≤ pl) (hbe : 4 ≤ be ∧ be < 2 ^ 18) : mw_C l yy_Rd_checkLengths bb_Rd_checkLengths 1 (Option.none : Option Jvm.ClassFile.FieldType) 1 21 0 0 D z M [.ref d] (fun v M' => v = none ∧ M' d = some (.inr (6, [.ref b, .int (nI pl), .int (eN (eo.or (cl_E g k be pl))), .int (v3), .int (v4), .int (v5), .int (v6), .int (nI be), .int (v8)])) ∧ mw_fr (fun q => q = d) M M') := by
  refine mw_of (by decide) (Nat.le_of_ble_eq_true rfl) ?_
  intro p e s m below meth c ls E hr hk hnm hM hl
  have hx := E.x
  have hb := E.b
  have E : mw_E p m c bb_Rd_checkLengths 1 s _ D z "IdentityIssuer$Reader" := E
  have hl : lv_has ls 1 [(0, .ref d)] := hl
  have hS : va_S (mw_A z) s.heap s.heap [] := va_S.rf
  have hF : mw_fr (fun q => q = d) M M := mw_fr.rf
  have join24 : ∀ (eo1 : Option Nat) (M1 : mw_M) (H : Heap) (locs : List Loc) (ls : Array Slot), eo1 = eo.or (if 3 < k ∧ g 3 = be - 4 then none else some 3) → (∀ q : Nat, eo1 = some q → q < 2 ^ 20) → M1 d = some (.inr (6, [.ref b, .int (nI pl), .int (eN eo1), .int (v3), .int (v4), .int (v5), .int (v6), .int (nI be), .int (v8)])) → M1 b = some (.inr (1, [.ref r, .int (nI k)])) → M1 r = some (.inl (D.1 100, 100, .inl f)) → mw_fr (fun q => q = d) M M1 → mw_at D mg_cl z M1 H → va_S (mw_A z) s.heap H locs → lv_has ls 1 [(0, .ref d)] → W p l e ({ frames := 1, cells := 0, slots := 0, locals := 21 } : Room) s m ([.ref d] : List Value).toArray below meth c H locs (0) (0) (MQ below (mw_Q D z (fun v M' => v = none ∧ M' d = some (.inr (6, [.ref b, .int (nI pl), .int (eN (eo.or (cl_E g k be pl))), .int (v3), .int (v4), .int (v5), .int (v6), .int (nI be), .int (v8)])) ∧ mw_fr (fun q => q = d) M M')) ([.ref d] : List Value).toArray s 0 0 (mw_A z)) (F0 m 24 ls []) := by
    intro eo1 M1 H locs ls heo1 hleo1 wd wb wr hF hM hS hl
    have join46 : ∀ (eo2 : Option Nat) (M1 : mw_M) (H : Heap) (locs : List Loc) (ls : Array Slot), eo2 = eo1.or (if pl < k then some pl else none) → (∀ q : Nat, eo2 = some q → q < 2 ^ 20) → M1 d = some (.inr (6, [.ref b, .int (nI pl), .int (eN eo2), .int (v3), .int (v4), .int (v5), .int (v6), .int (nI be), .int (v8)])) → M1 b = some (.inr (1, [.ref r, .int (nI k)])) → M1 r = some (.inl (D.1 100, 100, .inl f)) → mw_fr (fun q => q = d) M M1 → mw_at D mg_cl z M1 H → va_S (mw_A z) s.heap H locs → lv_has ls 1 [(0, .ref d)] → W p l e ({ frames := 1, cells := 0, slots := 0, locals := 21 } : Room) s m ([.ref d] : List Value).toArray below meth c H locs (0) (0) (MQ below (mw_Q D z (fun v M' => v = none ∧ M' d = some (.inr (6, [.ref b, .int (nI pl), .int (eN (eo.or (cl_E g k be pl))), .int (v3), .int (v4), .int (v5), .int (v6), .int (nI be), .int (v8)])) ∧ mw_fr (fun q => q = d) M M')) ([.ref d] : List Value).toArray s 0 0 (mw_A z)) (F0 m 46 ls []) := by
      intro eo2 M1 H locs ls heo2 hleo2 wd wb wr hF hM hS hl
      refine lv_aload_n hx hb dd_Rd_checkLengths_46 rfl (lv_at hl 0 rfl) ?_
      refine gf_Rd_12 E hM wd rfl dd_Rd_checkLengths_47 ?_
      refine lv_iconst (v := nI 1) hx hb dd_Rd_checkLengths_50 (by decide) ?_
      refine mw_V (As := [.int (nI 1)]) (rest := []) E (cc_By_at l D z (M1) b r f k (nI (1)) wb wr hk0) ky_By_at kv_By_at tw_Rd_64 hM hS wb rfl rfl rfl hl.1 rfl (Nat.le_of_ble_eq_true rfl) dd_Rd_checkLengths_51 (by first | decide | exact ⟨by dsimp only; omega, by dsimp only; omega⟩) (by decide) (fun v M1 H locs hp hM hS => ?_)
      obtain ⟨rfl, hq⟩ := hp
      have hq := hq.symm
      subst hq
      refine W.eq (g2 := F0 m 54 ls [.int (by_at f k (nI (1)))]) rfl ?_
      by_cases hpk : 1 < k
      ·
        refine mw_topi (y := nI (g (1))) ((by_at_nI (by omega) hpk).trans (hg (1) hpk).1) ?_
        have hb9 := (hg (1) hpk).2
        refine lv_aload_n hx hb dd_Rd_checkLengths_54 rfl (lv_at hl 0 rfl) ?_
        refine gf_Rd_18 E hM wd rfl dd_Rd_checkLengths_55 ?_
        refine lv_iconst (v := nI 1) hx hb dd_Rd_checkLengths_58 (by decide) ?_
        refine lv_isub hx hb dd_Rd_checkLengths_59 ?_
        refine mw_topi (y := nI (pl - 1)) (pk_sub (by omega)) ?_
        refine lv_iconst (v := nI 1) hx hb dd_Rd_checkLengths_60 (by decide) ?_
        refine lv_isub hx hb dd_Rd_checkLengths_61 ?_
        refine mw_topi (y := nI ((pl - 1) - 1)) (pk_sub (by omega)) ?_
        refine mw_topi (y := nI (pl - 2)) (congrArg nI (by omega)) ?_
        refine lv_icmp_eq (tgt := 70) hx hb dd_Rd_checkLengths_62 (by decide) (fun h62 => ?_) (fun h62 => ?_)
        ·
          rw [nI_eq (by omega) (by omega)] at h62
          refine mr_v E hr hk hM hS (by decide) (by decide) ?_ dd_Rd_checkLengths_70
          refine ⟨rfl, ?_, hF⟩
          unfold cl_E
          rw [← Option.or_assoc, ← Option.or_assoc, ← heo1, ← heo2, if_pos ⟨hpk, h62⟩, Option.or_none]
          exact wd
        ·
          rw [nI_eq (by omega) (by omega)] at h62
          refine lv_aload_n hx hb dd_Rd_checkLengths_65 rfl (lv_at hl 0 rfl) ?_
          refine lv_iconst (v := nI 1) hx hb dd_Rd_checkLengths_66 (by decide) ?_
          refine mw_V (As := [.int (nI 1)]) (rest := []) E (cc_Rd_fail l D z (M1) d b (pl) (eN eo2) v3 v4 v5 v6 (nI be) v8 (nI (1)) wd) ky_Rd_fail kv_Rd_fail tw_Rd_68 hM hS wd rfl rfl rfl hl.1 rfl (Nat.le_of_ble_eq_true rfl) dd_Rd_checkLengths_67 (by first | decide | exact ⟨by dsimp only; omega, by dsimp only; omega⟩) (by decide) (fun v M1 H locs hp hM hS => ?_)
          obtain ⟨rfl, wd2, hF2⟩ := hp
          rw [rd_eN (hleo2)] at wd2
          have wb := hF2.at wb (mw_ne wb wd (fun q => by cases q))
          have wr := hF2.at wr (mw_ne wr wd (fun q => by cases q))
          have wd := wd2
          have hF := hF.trans hF2
          refine W.eq (g2 := F0 m 70 ls []) rfl ?_
          refine mr_v E hr hk hM hS (by decide) (by decide) ?_ dd_Rd_checkLengths_70
          refine ⟨rfl, ?_, hF⟩
          unfold cl_E
          rw [← Option.or_assoc, ← Option.or_assoc, ← heo1, ← heo2, if_neg (fun q => h62 q.2)]
          exact wd
      ·
        refine mw_topi (y := -1) (by_at_off (by omega) (by omega)) ?_
        refine lv_aload_n hx hb dd_Rd_checkLengths_54 rfl (lv_at hl 0 rfl) ?_
        refine gf_Rd_18 E hM wd rfl dd_Rd_checkLengths_55 ?_
        refine lv_iconst (v := nI 1) hx hb dd_Rd_checkLengths_58 (by decide) ?_
        refine lv_isub hx hb dd_Rd_checkLengths_59 ?_
        refine mw_topi (y := nI (pl - 1)) (pk_sub (by omega)) ?_
        refine lv_iconst (v := nI 1) hx hb dd_Rd_checkLengths_60 (by decide) ?_
        refine lv_isub hx hb dd_Rd_checkLengths_61 ?_
        refine mw_topi (y := nI ((pl - 1) - 1)) (pk_sub (by omega)) ?_
        refine mw_topi (y := nI (pl - 2)) (congrArg nI (by omega)) ?_
        refine lv_icmp_eq (tgt := 70) hx hb dd_Rd_checkLengths_62 (by decide) (fun h62 => ?_) (fun h62 => ?_)
        ·
          exact absurd h62 (nI_nm1 (by omega))
        ·
          refine lv_aload_n hx hb dd_Rd_checkLengths_65 rfl (lv_at hl 0 rfl) ?_
          refine lv_iconst (v := nI 1) hx hb dd_Rd_checkLengths_66 (by decide) ?_
          refine mw_V (As := [.int (nI 1)]) (rest := []) E (cc_Rd_fail l D z (M1) d b (pl) (eN eo2) v3 v4 v5 v6 (nI be) v8 (nI (1)) wd) ky_Rd_fail kv_Rd_fail tw_Rd_68 hM hS wd rfl rfl rfl hl.1 rfl (Nat.le_of_ble_eq_true rfl) dd_Rd_checkLengths_67 (by first | decide | exact ⟨by dsimp only; omega, by dsimp only; omega⟩) (by decide) (fun v M1 H locs hp hM hS => ?_)
          obtain ⟨rfl, wd2, hF2⟩ := hp
          rw [rd_eN (hleo2)] at wd2
          have wb := hF2.at wb (mw_ne wb wd (fun q => by cases q))
          have wr := hF2.at wr (mw_ne wr wd (fun q => by cases q))
          have wd := wd2
          have hF := hF.trans hF2
          refine W.eq (g2 := F0 m 70 ls []) rfl ?_
          refine mr_v E hr hk hM hS (by decide) (by decide) ?_ dd_Rd_checkLengths_70
          refine ⟨rfl, ?_, hF⟩
          unfold cl_E
          rw [← Option.or_assoc, ← Option.or_assoc, ← heo1, ← heo2, if_neg (fun q => hpk q.1)]
          exact wd
    refine lv_aload_n hx hb dd_Rd_checkLengths_24 rfl (lv_at hl 0 rfl) ?_
    refine gf_Rd_18 E hM wd rfl dd_Rd_checkLengths_25 ?_
    refine lv_aload_n hx hb dd_Rd_checkLengths_28 rfl (lv_at hl 0 rfl) ?_
    refine gf_Rd_12 E hM wd rfl dd_Rd_checkLengths_29 ?_
    refine mw_V (As := []) (rest := [.int (nI pl)]) E (cc_By_length l D z (M1) b r f k wb wr hk0) ky_By_length kv_By_length tw_Rd_71 hM hS wb rfl rfl rfl hl.1 rfl (Nat.le_of_ble_eq_true rfl) dd_Rd_checkLengths_32 (by first | decide | exact ⟨by dsimp only; omega, by dsimp only; omega⟩) (by decide) (fun v M1 H locs hp hM hS => ?_)
    obtain ⟨rfl, hq⟩ := hp
    have hq := hq.symm
    subst hq
    refine W.eq (g2 := F0 m 35 ls [.int (nI k), .int (nI pl)]) rfl ?_
    refine lv_icmp_ge (tgt := 46) hx hb dd_Rd_checkLengths_35 (by decide) (fun h35 => ?_) (fun h35 => ?_)
    ·
      rw [nI_leI (by omega) (by omega)] at h35
      exact join46 eo1 _ H locs ls (by rw [if_neg (by omega), Option.or_none]) hleo1 wd wb wr hF hM hS (lv_sub hl [0] rfl)
    ·
      rw [nI_leI (by omega) (by omega)] at h35
      refine lv_aload_n hx hb dd_Rd_checkLengths_38 rfl (lv_at hl 0 rfl) ?_
      refine lv_aload_n hx hb dd_Rd_checkLengths_39 rfl (lv_at hl 0 rfl) ?_
      refine gf_Rd_18 E hM wd rfl dd_Rd_checkLengths_40 ?_
      refine mw_V (As := [.int (nI pl)]) (rest := []) E (cc_Rd_fail l D z (M1) d b (pl) (eN eo1) v3 v4 v5 v6 (nI be) v8 (nI (pl)) wd) ky_Rd_fail kv_Rd_fail tw_Rd_68 hM hS wd rfl rfl rfl hl.1 rfl (Nat.le_of_ble_eq_true rfl) dd_Rd_checkLengths_43 (by first | decide | exact ⟨by dsimp only; omega, by dsimp only; omega⟩) (by decide) (fun v M1 H locs hp hM hS => ?_)
      obtain ⟨rfl, wd2, hF2⟩ := hp
      rw [rd_eN (hleo1)] at wd2
      have wb := hF2.at wb (mw_ne wb wd (fun q => by cases q))
      have wr := hF2.at wr (mw_ne wr wd (fun q => by cases q))
      have wd := wd2
      have hF := hF.trans hF2
      refine W.eq (g2 := F0 m 46 ls []) rfl ?_
      exact join46 (eo1.or (some pl)) _ H locs ls (by rw [if_pos (by omega)]) (eN_or hleo1 (some_lt (by omega))) wd wb wr hF hM hS (lv_sub hl [0] rfl)
  refine lv_aload_n hx hb dd_Rd_checkLengths_0 rfl (lv_at hl 0 rfl) ?_
  refine gf_Rd_12 E hM wd rfl dd_Rd_checkLengths_1 ?_
  refine lv_iconst (v := nI 3) hx hb dd_Rd_checkLengths_4 (by decide) ?_
  refine mw_V (As := [.int (nI 3)]) (rest := []) E (cc_By_at l D z (M) b r f k (nI (3)) wb wr hk0) ky_By_at kv_By_at tw_Rd_64 hM hS wb rfl rfl rfl hl.1 rfl (Nat.le_of_ble_eq_true rfl) dd_Rd_checkLengths_5 (by first | decide | exact ⟨by dsimp only; omega, by dsimp only; omega⟩) (by decide) (fun v M1 H locs hp hM hS => ?_)
  obtain ⟨rfl, hq⟩ := hp
  have hq := hq.symm
  subst hq
  refine W.eq (g2 := F0 m 8 ls [.int (by_at f k (nI (3)))]) rfl ?_
  by_cases hpk : 3 < k
  ·
    refine mw_topi (y := nI (g (3))) ((by_at_nI (by omega) hpk).trans (hg (3) hpk).1) ?_
    have hb9 := (hg (3) hpk).2
    refine lv_aload_n hx hb dd_Rd_checkLengths_8 rfl (lv_at hl 0 rfl) ?_
    refine gf_Rd_55 E hM wd rfl dd_Rd_checkLengths_9 ?_
    refine lv_iconst (v := nI 3) hx hb dd_Rd_checkLengths_12 (by decide) ?_
    refine lv_isub hx hb dd_Rd_checkLengths_13 ?_
    refine mw_topi (y := nI (be - 3)) (pk_sub (by omega)) ?_
    refine lv_iconst (v := nI 1) hx hb dd_Rd_checkLengths_14 (by decide) ?_
    refine lv_isub hx hb dd_Rd_checkLengths_15 ?_
    refine mw_topi (y := nI ((be - 3) - 1)) (pk_sub (by omega)) ?_
    refine mw_topi (y := nI (be - 4)) (congrArg nI (by omega)) ?_
    refine lv_icmp_eq (tgt := 24) hx hb dd_Rd_checkLengths_16 (by decide) (fun h16 => ?_) (fun h16 => ?_)
    ·
      rw [nI_eq (by omega) (by omega)] at h16
      exact join24 eo _ H locs ls (by rw [if_pos ⟨hpk, h16⟩, Option.or_none]) heo wd wb wr hF hM hS (lv_sub hl [0] rfl)
    ·
      rw [nI_eq (by omega) (by omega)] at h16
      refine lv_aload_n hx hb dd_Rd_checkLengths_19 rfl (lv_at hl 0 rfl) ?_
      refine lv_iconst (v := nI 3) hx hb dd_Rd_checkLengths_20 (by decide) ?_
      refine mw_V (As := [.int (nI 3)]) (rest := []) E (cc_Rd_fail l D z (M) d b (pl) (eN eo) v3 v4 v5 v6 (nI be) v8 (nI (3)) wd) ky_Rd_fail kv_Rd_fail tw_Rd_68 hM hS wd rfl rfl rfl hl.1 rfl (Nat.le_of_ble_eq_true rfl) dd_Rd_checkLengths_21 (by first | decide | exact ⟨by dsimp only; omega, by dsimp only; omega⟩) (by decide) (fun v M1 H locs hp hM hS => ?_)
      obtain ⟨rfl, wd2, hF2⟩ := hp
      rw [rd_eN (heo)] at wd2
      have wb := hF2.at wb (mw_ne wb wd (fun q => by cases q))
      have wr := hF2.at wr (mw_ne wr wd (fun q => by cases q))
      have wd := wd2
      have hF := hF.trans hF2
      refine W.eq (g2 := F0 m 24 ls []) rfl ?_
      exact join24 (eo.or (some 3)) _ H locs ls (by rw [if_neg (fun q => h16 q.2)]) (eN_or heo (some_lt (by omega))) wd wb wr hF hM hS (lv_sub hl [0] rfl)
  ·
    refine mw_topi (y := -1) (by_at_off (by omega) (by omega)) ?_
    refine lv_aload_n hx hb dd_Rd_checkLengths_8 rfl (lv_at hl 0 rfl) ?_
    refine gf_Rd_55 E hM wd rfl dd_Rd_checkLengths_9 ?_
    refine lv_iconst (v := nI 3) hx hb dd_Rd_checkLengths_12 (by decide) ?_
    refine lv_isub hx hb dd_Rd_checkLengths_13 ?_
    refine mw_topi (y := nI (be - 3)) (pk_sub (by omega)) ?_
    refine lv_iconst (v := nI 1) hx hb dd_Rd_checkLengths_14 (by decide) ?_
    refine lv_isub hx hb dd_Rd_checkLengths_15 ?_
    refine mw_topi (y := nI ((be - 3) - 1)) (pk_sub (by omega)) ?_
    refine mw_topi (y := nI (be - 4)) (congrArg nI (by omega)) ?_
    refine lv_icmp_eq (tgt := 24) hx hb dd_Rd_checkLengths_16 (by decide) (fun h16 => ?_) (fun h16 => ?_)
    ·
      exact absurd h16 (nI_nm1 (by omega))
    ·
      refine lv_aload_n hx hb dd_Rd_checkLengths_19 rfl (lv_at hl 0 rfl) ?_
      refine lv_iconst (v := nI 3) hx hb dd_Rd_checkLengths_20 (by decide) ?_
      refine mw_V (As := [.int (nI 3)]) (rest := []) E (cc_Rd_fail l D z (M) d b (pl) (eN eo) v3 v4 v5 v6 (nI be) v8 (nI (3)) wd) ky_Rd_fail kv_Rd_fail tw_Rd_68 hM hS wd rfl rfl rfl hl.1 rfl (Nat.le_of_ble_eq_true rfl) dd_Rd_checkLengths_21 (by first | decide | exact ⟨by dsimp only; omega, by dsimp only; omega⟩) (by decide) (fun v M1 H locs hp hM hS => ?_)
      obtain ⟨rfl, wd2, hF2⟩ := hp
      rw [rd_eN (heo)] at wd2
      have wb := hF2.at wb (mw_ne wb wd (fun q => by cases q))
      have wr := hF2.at wr (mw_ne wr wd (fun q => by cases q))
      have wd := wd2
      have hF := hF.trans hF2
      refine W.eq (g2 := F0 m 24 ls []) rfl ?_
      exact join24 (eo.or (some 3)) _ H locs ls (by rw [if_neg (fun q => hpk q.1)]) (eN_or heo (some_lt (by omega))) wd wb wr hF hM hS (lv_sub hl [0] rfl)
