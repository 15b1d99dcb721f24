/-! reading a whole certificate, judging it -/
def vf_v (g : Nat → Nat) (p : Nat) : Nat := nr_v g (p + 2) (g (p + 1))
def vf_ok (g : Nat → Nat) (k : Nat) (v3 v4 v5 v6 v7 v8 : Int32) : Prop := (v3 = nI (vf_v g (vf_p g 0)) ∧ vf_v g (vf_p g 0) < 2 ^ 31) ∧ (v4 = nI (vf_v g (vf_p g 1)) ∧ vf_v g (vf_p g 1) < 2 ^ 31) ∧ (v5 = nI (vf_v g (vf_p g 2)) ∧ vf_v g (vf_p g 2) < 2 ^ 31) ∧ (v6 = nI (vf_v g (vf_p g 3)) ∧ vf_v g (vf_p g 3) < 2 ^ 31) ∧ (v7 = nI (vf_p g 5 + 4) ∧ vf_p g 5 + 4 ≤ k ∧ 4 ≤ vf_p g 5) ∧ (v8 = nI (vf_v g (vf_p g 5 + 4)) ∧ vf_v g (vf_p g 5 + 4) < 2 ^ 31)
def vf_ans (g : Nat → Nat) (k : Nat) (good : Nat → Bool) (cl : Nat) : Int32 := match vf_E g k with
  | some q => -1 - nI q
  | none => if good (vf_v g (vf_p g 1)) = false then -1006 else if ¬ (vf_v g (vf_p g 5 + 4) < sk_m (vf_v g (vf_p g 1)) ∧ pw_n (sk_m (vf_v g (vf_p g 1))) 31 65537 (vf_v g (vf_p g 5 + 4) % sk_m (vf_v g (vf_p g 1))) 1 = by_sm g 2 (vf_p g 5 + 4 - 2)) then -1007 else if cl < vf_v g (vf_p g 2) ∨ vf_v g (vf_p g 3) ≤ cl then -1005 else nI (vf_v g (vf_p g 0))
theorem np_le (g : Nat → Nat) (p : Nat) : p ≤ np g p := by unfold np; omega
theorem vf_5 (g : Nat → Nat) : 4 ≤ vf_p g 5 := Nat.le_trans (np_le g (vf_p g 0)) (Nat.le_trans (np_le g (vf_p g 1)) (Nat.le_trans (np_le g (vf_p g 2)) (Nat.le_trans (np_le g (vf_p g 3)) (np_le g (vf_p g 4)))))
set_option maxHeartbeats 4000000 in
set_option maxRecDepth 100000 in
theorem cc_Rd_read (l : Launch) (D : va_G) (z : Nat) (M : mw_M) (b r : Nat) (f : Nat → Int32) (k : Nat) (g : Nat → Nat) (d b0 : Nat) (pl er v3 v4 v5 v6 v7 v8 : Int32) (wb : M b = some (.inr (1, [.ref r, .int (nI k)]))) (wr : M r = some (.inl (D.1 100, 100, .inl f))) (hk0 : k ≤ 100) (hg : ∀ j : Nat, j < k → f j = nI (g j) ∧ g j < 256) (wd : M d = some (.inr (6, [.ref b0, .int (pl), .int (er), .int (v3), .int (v4), .int (v5), .int (v6), .int (v7), .int (v8)]))) : mw_C l yy_Rd_read bb_Rd_read 3 (Option.none : Option Jvm.ClassFile.FieldType) 7 156 0 0 D z M [.ref d, .ref b] (fun v M' => v = none ∧ (∃ pl2 v3 v4 v5 v6 v7 v8 : Int32, M' d = some (.inr (6, [.ref b, .int pl2, .int (eN (vf_E g k)), .int v3, .int v4, .int v5, .int v6, .int v7, .int v8])) ∧ (vf_E g k = none → vf_ok g k v3 v4 v5 v6 v7 v8)) ∧ mw_fr (fun q => q = d) M M') := by
  refine mw_of (by decide) (Nat.le_of_ble_eq_true rfl) ?_
  intro p e s m below meth c ls E hr hk hnm hM hl
  have hx := E.x
  have hb := E.b
  have E : mw_E p m c bb_Rd_read 3 s _ D z "IdentityIssuer$Reader" := E
  have hl : lv_has ls 3 [(0, .ref d), (1, .ref b)] := hl
  have hS : va_S (mw_A z) s.heap s.heap [] := va_S.rf
  have hF : mw_fr (fun q => q = d) M M := mw_fr.rf
  refine lv_aload_n hx hb dd_Rd_read_0 rfl (lv_at hl 0 rfl) ?_
  refine lv_aload_n hx hb dd_Rd_read_1 rfl (lv_at hl 1 rfl) ?_
  refine pf_Rd_12 E hM hS wd (Nat.le_of_ble_eq_true rfl) dd_Rd_read_2 (fun H locs hM hS => ?_)
  have hM : mw_at D mg_cl z (va_up M d (some (.inr (6, [.ref b, .int (pl), .int (er), .int (v3), .int (v4), .int (v5), .int (v6), .int (v7), .int (v8)])))) H := hM
  obtain ⟨M1, hM1⟩ : ∃ M9 : mw_M, M9 = va_up M d (some (.inr (6, [.ref b, .int (pl), .int (er), .int (v3), .int (v4), .int (v5), .int (v6), .int (v7), .int (v8)]))) := ⟨_, rfl⟩
  rw [← hM1] at hM
  have wb := mw_uu hM1 wb (mw_ne wb wd (fun q => by cases q))
  have wr := mw_uu hM1 wr (mw_ne wr wd (fun q => by cases q))
  have wd := mw_us hM1
  have hF := mw_fu hM1 hF (rfl)
  refine lv_aload_n hx hb dd_Rd_read_5 rfl (lv_at hl 0 rfl) ?_
  refine lv_iconst (v := nI 0) hx hb dd_Rd_read_6 (by decide) ?_
  refine pf_Rd_18 E hM hS wd (Nat.le_of_ble_eq_true rfl) dd_Rd_read_7 (fun H locs hM hS => ?_)
  have hM : mw_at D mg_cl z (va_up M1 d (some (.inr (6, [.ref b, .int (nI 0), .int (er), .int (v3), .int (v4), .int (v5), .int (v6), .int (v7), .int (v8)])))) H := hM
  obtain ⟨M1, hM1⟩ : ∃ M9 : mw_M, M9 = va_up M1 d (some (.inr (6, [.ref b, .int (nI 0), .int (er), .int (v3), .int (v4), .int (v5), .int (v6), .int (v7), .int (v8)]))) := ⟨_, rfl⟩
  rw [← hM1] at hM
  have wb := mw_uu hM1 wb (mw_ne wb wd (fun q => by cases q))
  have wr := mw_uu hM1 wr (mw_ne wr wd (fun q => by cases q))
  have wd := mw_us hM1
  have hF := mw_fu hM1 hF (rfl)
  refine lv_aload_n hx hb dd_Rd_read_10 rfl (lv_at hl 0 rfl) ?_
  refine lv_iconst (v := -1) hx hb dd_Rd_read_11 (by decide) ?_
  refine pf_Rd_22 E hM hS wd (Nat.le_of_ble_eq_true rfl) dd_Rd_read_12 (fun H locs hM hS => ?_)
  have hM : mw_at D mg_cl z (va_up M1 d (some (.inr (6, [.ref b, .int (nI 0), .int (-1), .int (v3), .int (v4), .int (v5), .int (v6), .int (v7), .int (v8)])))) H := hM
  obtain ⟨M1, hM1⟩ : ∃ M9 : mw_M, M9 = va_up M1 d (some (.inr (6, [.ref b, .int (nI 0), .int (-1), .int (v3), .int (v4), .int (v5), .int (v6), .int (v7), .int (v8)]))) := ⟨_, rfl⟩
  rw [← hM1] at hM
  have wb := mw_uu hM1 wb (mw_ne wb wd (fun q => by cases q))
  have wr := mw_uu hM1 wr (mw_ne wr wd (fun q => by cases q))
  have wd := mw_us hM1
  have hF := mw_fu hM1 hF (rfl)
  obtain ⟨e0, hq0⟩ : ∃ o9 : Option Nat, o9 = none := ⟨_, rfl⟩
  have wd : M1 d = some (.inr (6, [.ref b, .int (nI 0), .int (eN e0), .int (v3), .int (v4), .int (v5), .int (v6), .int (v7), .int (v8)])) := by rw [hq0]; exact wd
  have hl0 : ∀ q : Nat, e0 = some q → q < 2 ^ 20 := by rw [hq0]; exact none_lt
  have hp0 : e0 = none → 0 = 0 := fun _ => rfl
  obtain ⟨p0, hp00⟩ : ∃ p9 : Nat, p9 = 0 := ⟨_, rfl⟩
  have hp0 : e0 = none → p0 = 0 := fun _ => hp00
  have hn0 : p0 ≤ 0 ∧ 0 ≤ p0 := by omega
  rw [← hp00] at wd
  refine lv_aload_n hx hb dd_Rd_read_15 rfl (lv_at hl 0 rfl) ?_
  refine lv_bipush (v := nI 48) hx hb dd_Rd_read_16 (by decide) ?_
  refine mw_V (As := [.int (nI 48)]) (rest := []) E (cc_Rd_expect l D z (M1) b r f k g d p0 e0 v3 v4 v5 v6 v7 v8 48 wb wr hk0 hg wd hl0 (by omega) (by omega)) ky_Rd_expect kv_Rd_expect tw_Rd_25 hM hS wd rfl rfl rfl hl.1 rfl (Nat.le_of_ble_eq_true rfl) dd_Rd_read_18 (by first | decide | exact ⟨by dsimp only; omega, by dsimp only; omega⟩) (by decide) (fun v M1 H locs hp hM hS => ?_)
  obtain ⟨rfl, wd2, hF2⟩ := hp
  have wb := hF2.at wb (mw_ne wb wd (fun q => by cases q))
  have wr := hF2.at wr (mw_ne wr wd (fun q => by cases q))
  have wd := wd2
  have hF := hF.trans hF2
  obtain ⟨e1, he1⟩ : ∃ o9 : Option Nat, o9 = e0.or (te g k 48 p0) := ⟨_, rfl⟩
  rw [← he1] at wd
  have hl1 : ∀ q : Nat, e1 = some q → q < 2 ^ 20 := by rw [he1]; exact eN_or hl0 (te_lt (by omega))
  have hq1 : e1 = e0.or (te g k 48 0) := by rw [he1]; exact or_c (fun q => by rw [hp0 q])
  have ho1 : e1 = none → e0 = none ∧ te g k 48 0 = none := fun q => ⟨or_l (hq1.symm.trans q), or_r (hq1.symm.trans q)⟩
  obtain ⟨p1, hpp⟩ : ∃ p99 : Nat, p99 = p0 + 1 := ⟨_, rfl⟩
  rw [← hpp] at wd
  have hn1 : p0 ≤ p1 ∧ p1 ≤ p0 + 1 := by omega
  have hp1 : e1 = none → p1 = 1 := fun q => hpp.trans (congrArg (· + 1) (hp0 (ho1 q).1))
  refine W.eq (g2 := F0 m 21 ls []) rfl ?_
  refine lv_aload_n hx hb dd_Rd_read_21 rfl (lv_at hl 0 rfl) ?_
  refine mw_V (As := []) (rest := []) E (cc_Rd_skipLength l D z (M1) b r f k g d p1 e1 v3 v4 v5 v6 v7 v8 wb wr hk0 hg wd hl1 (by omega)) ky_Rd_skipLength kv_Rd_skipLength tw_Rd_29 hM hS wd rfl rfl rfl hl.1 rfl (Nat.le_of_ble_eq_true rfl) dd_Rd_read_22 (by first | decide | exact ⟨by dsimp only; omega, by dsimp only; omega⟩) (by decide) (fun v M1 H locs hp hM hS => ?_)
  obtain ⟨rfl, wd2, hF2⟩ := hp
  have wb := hF2.at wb (mw_ne wb wd (fun q => by cases q))
  have wr := hF2.at wr (mw_ne wr wd (fun q => by cases q))
  have wd := wd2
  have hF := hF.trans hF2
  obtain ⟨e2, he2⟩ : ∃ o9 : Option Nat, o9 = e1.or (ta k p1) := ⟨_, rfl⟩
  rw [← he2] at wd
  have hl2 : ∀ q : Nat, e2 = some q → q < 2 ^ 20 := by rw [he2]; exact eN_or hl1 (ta_lt (by omega))
  have hq2 : e2 = e1.or (ta k 1) := by rw [he2]; exact or_c (fun q => by rw [hp1 q])
  have ho2 : e2 = none → e1 = none ∧ ta k 1 = none := fun q => ⟨or_l (hq2.symm.trans q), or_r (hq2.symm.trans q)⟩
  obtain ⟨p2, hpp⟩ : ∃ p99 : Nat, p99 = p1 + 1 := ⟨_, rfl⟩
  rw [← hpp] at wd
  have hn2 : p1 ≤ p2 ∧ p2 ≤ p1 + 1 := by omega
  have hp2 : e2 = none → p2 = 2 := fun q => hpp.trans (congrArg (· + 1) (hp1 (ho2 q).1))
  refine W.eq (g2 := F0 m 25 ls []) rfl ?_
  refine lv_aload_n hx hb dd_Rd_read_25 rfl (lv_at hl 0 rfl) ?_
  refine lv_bipush (v := nI 48) hx hb dd_Rd_read_26 (by decide) ?_
  refine mw_V (As := [.int (nI 48)]) (rest := []) E (cc_Rd_expect l D z (M1) b r f k g d p2 e2 v3 v4 v5 v6 v7 v8 48 wb wr hk0 hg wd hl2 (by omega) (by omega)) ky_Rd_expect kv_Rd_expect tw_Rd_25 hM hS wd rfl rfl rfl hl.1 rfl (Nat.le_of_ble_eq_true rfl) dd_Rd_read_28 (by first | decide | exact ⟨by dsimp only; omega, by dsimp only; omega⟩) (by decide) (fun v M1 H locs hp hM hS => ?_)
  obtain ⟨rfl, wd2, hF2⟩ := hp
  have wb := hF2.at wb (mw_ne wb wd (fun q => by cases q))
  have wr := hF2.at wr (mw_ne wr wd (fun q => by cases q))
  have wd := wd2
  have hF := hF.trans hF2
  obtain ⟨e3, he3⟩ : ∃ o9 : Option Nat, o9 = e2.or (te g k 48 p2) := ⟨_, rfl⟩
  rw [← he3] at wd
  have hl3 : ∀ q : Nat, e3 = some q → q < 2 ^ 20 := by rw [he3]; exact eN_or hl2 (te_lt (by omega))
  have hq3 : e3 = e2.or (te g k 48 2) := by rw [he3]; exact or_c (fun q => by rw [hp2 q])
  have ho3 : e3 = none → e2 = none ∧ te g k 48 2 = none := fun q => ⟨or_l (hq3.symm.trans q), or_r (hq3.symm.trans q)⟩
  obtain ⟨p3, hpp⟩ : ∃ p99 : Nat, p99 = p2 + 1 := ⟨_, rfl⟩
  rw [← hpp] at wd
  have hn3 : p2 ≤ p3 ∧ p3 ≤ p2 + 1 := by omega
  have hp3 : e3 = none → p3 = 3 := fun q => hpp.trans (congrArg (· + 1) (hp2 (ho3 q).1))
  refine W.eq (g2 := F0 m 31 ls []) rfl ?_
  refine lv_aload_n hx hb dd_Rd_read_31 rfl (lv_at hl 0 rfl) ?_
  refine mw_V (As := []) (rest := []) E (cc_Rd_skipLength l D z (M1) b r f k g d p3 e3 v3 v4 v5 v6 v7 v8 wb wr hk0 hg wd hl3 (by omega)) ky_Rd_skipLength kv_Rd_skipLength tw_Rd_29 hM hS wd rfl rfl rfl hl.1 rfl (Nat.le_of_ble_eq_true rfl) dd_Rd_read_32 (by first | decide | exact ⟨by dsimp only; omega, by dsimp only; omega⟩) (by decide) (fun v M1 H locs hp hM hS => ?_)
  obtain ⟨rfl, wd2, hF2⟩ := hp
  have wb := hF2.at wb (mw_ne wb wd (fun q => by cases q))
  have wr := hF2.at wr (mw_ne wr wd (fun q => by cases q))
  have wd := wd2
  have hF := hF.trans hF2
  obtain ⟨e4, he4⟩ : ∃ o9 : Option Nat, o9 = e3.or (ta k p3) := ⟨_, rfl⟩
  rw [← he4] at wd
  have hl4 : ∀ q : Nat, e4 = some q → q < 2 ^ 20 := by rw [he4]; exact eN_or hl3 (ta_lt (by omega))
  have hq4 : e4 = e3.or (ta k 3) := by rw [he4]; exact or_c (fun q => by rw [hp3 q])
  have ho4 : e4 = none → e3 = none ∧ ta k 3 = none := fun q => ⟨or_l (hq4.symm.trans q), or_r (hq4.symm.trans q)⟩
  obtain ⟨p4, hpp⟩ : ∃ p99 : Nat, p99 = p3 + 1 := ⟨_, rfl⟩
  rw [← hpp] at wd
  have hn4 : p3 ≤ p4 ∧ p4 ≤ p3 + 1 := by omega
  have hp4 : e4 = none → p4 = vf_p g 0 := fun q => hpp.trans (congrArg (· + 1) (hp3 (ho4 q).1))
  refine W.eq (g2 := F0 m 35 ls []) rfl ?_
  refine lv_aload_n hx hb dd_Rd_read_35 rfl (lv_at hl 0 rfl) ?_
  refine lv_aload_n hx hb dd_Rd_read_36 rfl (lv_at hl 0 rfl) ?_
  refine mw_V (As := []) (rest := [.ref d]) E (cc_Rd_readNumber l D z (M1) b r f k g d p4 e4 v3 v4 v5 v6 v7 v8 wb wr hk0 hg wd hl4 (by omega)) ky_Rd_readNumber kv_Rd_readNumber tw_Rd_32 hM hS wd rfl rfl rfl hl.1 rfl (Nat.le_of_ble_eq_true rfl) dd_Rd_read_37 (by first | decide | exact ⟨by dsimp only; omega, by dsimp only; omega⟩) (by decide) (fun v M1 H locs hp hM hS => ?_)
  obtain ⟨p5, x5, rfl, wd2, hn5, hx5, hF2⟩ := hp
  have wb := hF2.at wb (mw_ne wb wd (fun q => by cases q))
  have wr := hF2.at wr (mw_ne wr wd (fun q => by cases q))
  have wd := wd2
  have hF := hF.trans hF2
  obtain ⟨e5, he5⟩ : ∃ o9 : Option Nat, o9 = e4.or (nr_E g k p4) := ⟨_, rfl⟩
  rw [← he5] at wd
  have hl5 : ∀ q : Nat, e5 = some q → q < 2 ^ 20 := by rw [he5]; exact eN_or hl4 (nr_Elt (by omega) hk0 (fun j9 q9 => (hg j9 q9).2))
  have hq5 : e5 = e4.or (nr_E g k (vf_p g 0)) := by rw [he5]; exact or_c (fun q => by rw [hp4 q])
  have ho5 : e5 = none → e4 = none ∧ nr_E g k (vf_p g 0) = none := fun q => ⟨or_l (hq5.symm.trans q), or_r (hq5.symm.trans q)⟩
  have hxx : e5 = none → _ := fun q => hx5 (by rw [hp4 (ho5 q).1]; exact (ho5 q).2)
  have hp5 : e5 = none → p5 = vf_p g 1 := fun q => by rw [(hxx q).1, hp4 (ho5 q).1]; rfl
  have hv5 : e5 = none → (x5 = nI (vf_v g (vf_p g 0)) ∧ vf_v g (vf_p g 0) < 2 ^ 31) ∧ p5 ≤ k := fun q => by
    have h9 := hxx q
    rw [hp4 (ho5 q).1] at h9
    exact ⟨h9.2.2, h9.2.1⟩
  refine W.eq (g2 := F0 m 40 ls [.int (x5), .ref d]) rfl ?_
  refine pf_Rd_36 E hM hS wd (Nat.le_of_ble_eq_true rfl) dd_Rd_read_40 (fun H locs hM hS => ?_)
  have hM : mw_at D mg_cl z (va_up M1 d (some (.inr (6, [.ref b, .int (nI p5), .int (eN e5), .int (x5), .int (v4), .int (v5), .int (v6), .int (v7), .int (v8)])))) H := hM
  obtain ⟨M1, hM1⟩ : ∃ M9 : mw_M, M9 = va_up M1 d (some (.inr (6, [.ref b, .int (nI p5), .int (eN e5), .int (x5), .int (v4), .int (v5), .int (v6), .int (v7), .int (v8)]))) := ⟨_, rfl⟩
  rw [← hM1] at hM
  have wb := mw_uu hM1 wb (mw_ne wb wd (fun q => by cases q))
  have wr := mw_uu hM1 wr (mw_ne wr wd (fun q => by cases q))
  have wd := mw_us hM1
  have hF := mw_fu hM1 hF (rfl)
  refine lv_aload_n hx hb dd_Rd_read_43 rfl (lv_at hl 0 rfl) ?_
  refine lv_aload_n hx hb dd_Rd_read_44 rfl (lv_at hl 0 rfl) ?_
  refine mw_V (As := []) (rest := [.ref d]) E (cc_Rd_readNumber l D z (M1) b r f k g d p5 e5 x5 v4 v5 v6 v7 v8 wb wr hk0 hg wd hl5 (by omega)) ky_Rd_readNumber kv_Rd_readNumber tw_Rd_32 hM hS wd rfl rfl rfl hl.1 rfl (Nat.le_of_ble_eq_true rfl) dd_Rd_read_45 (by first | decide | exact ⟨by dsimp only; omega, by dsimp only; omega⟩) (by decide) (fun v M1 H locs hp hM hS => ?_)
  obtain ⟨p6, x6, rfl, wd2, hn6, hx6, hF2⟩ := hp
  have wb := hF2.at wb (mw_ne wb wd (fun q => by cases q))
  have wr := hF2.at wr (mw_ne wr wd (fun q => by cases q))
  have wd := wd2
  have hF := hF.trans hF2
  obtain ⟨e6, he6⟩ : ∃ o9 : Option Nat, o9 = e5.or (nr_E g k p5) := ⟨_, rfl⟩
  rw [← he6] at wd
  have hl6 : ∀ q : Nat, e6 = some q → q < 2 ^ 20 := by rw [he6]; exact eN_or hl5 (nr_Elt (by omega) hk0 (fun j9 q9 => (hg j9 q9).2))
  have hq6 : e6 = e5.or (nr_E g k (vf_p g 1)) := by rw [he6]; exact or_c (fun q => by rw [hp5 q])
  have ho6 : e6 = none → e5 = none ∧ nr_E g k (vf_p g 1) = none := fun q => ⟨or_l (hq6.symm.trans q), or_r (hq6.symm.trans q)⟩
  have hxx : e6 = none → _ := fun q => hx6 (by rw [hp5 (ho6 q).1]; exact (ho6 q).2)
  have hp6 : e6 = none → p6 = vf_p g 2 := fun q => by rw [(hxx q).1, hp5 (ho6 q).1]; rfl
  have hv6 : e6 = none → (x6 = nI (vf_v g (vf_p g 1)) ∧ vf_v g (vf_p g 1) < 2 ^ 31) ∧ p6 ≤ k := fun q => by
    have h9 := hxx q
    rw [hp5 (ho6 q).1] at h9
    exact ⟨h9.2.2, h9.2.1⟩
  refine W.eq (g2 := F0 m 48 ls [.int (x6), .ref d]) rfl ?_
  refine pf_Rd_39 E hM hS wd (Nat.le_of_ble_eq_true rfl) dd_Rd_read_48 (fun H locs hM hS => ?_)
  have hM : mw_at D mg_cl z (va_up M1 d (some (.inr (6, [.ref b, .int (nI p6), .int (eN e6), .int (x5), .int (x6), .int (v5), .int (v6), .int (v7), .int (v8)])))) H := hM
  obtain ⟨M1, hM1⟩ : ∃ M9 : mw_M, M9 = va_up M1 d (some (.inr (6, [.ref b, .int (nI p6), .int (eN e6), .int (x5), .int (x6), .int (v5), .int (v6), .int (v7), .int (v8)]))) := ⟨_, rfl⟩
  rw [← hM1] at hM
  have wb := mw_uu hM1 wb (mw_ne wb wd (fun q => by cases q))
  have wr := mw_uu hM1 wr (mw_ne wr wd (fun q => by cases q))
  have wd := mw_us hM1
  have hF := mw_fu hM1 hF (rfl)
  refine lv_aload_n hx hb dd_Rd_read_51 rfl (lv_at hl 0 rfl) ?_
  refine lv_aload_n hx hb dd_Rd_read_52 rfl (lv_at hl 0 rfl) ?_
  refine mw_V (As := []) (rest := [.ref d]) E (cc_Rd_readNumber l D z (M1) b r f k g d p6 e6 x5 x6 v5 v6 v7 v8 wb wr hk0 hg wd hl6 (by omega)) ky_Rd_readNumber kv_Rd_readNumber tw_Rd_32 hM hS wd rfl rfl rfl hl.1 rfl (Nat.le_of_ble_eq_true rfl) dd_Rd_read_53 (by first | decide | exact ⟨by dsimp only; omega, by dsimp only; omega⟩) (by decide) (fun v M1 H locs hp hM hS => ?_)
  obtain ⟨p7, x7, rfl, wd2, hn7, hx7, hF2⟩ := hp
  have wb := hF2.at wb (mw_ne wb wd (fun q => by cases q))
  have wr := hF2.at wr (mw_ne wr wd (fun q => by cases q))
  have wd := wd2
  have hF := hF.trans hF2
  obtain ⟨e7, he7⟩ : ∃ o9 : Option Nat, o9 = e6.or (nr_E g k p6) := ⟨_, rfl⟩
  rw [← he7] at wd
  have hl7 : ∀ q : Nat, e7 = some q → q < 2 ^ 20 := by rw [he7]; exact eN_or hl6 (nr_Elt (by omega) hk0 (fun j9 q9 => (hg j9 q9).2))
  have hq7 : e7 = e6.or (nr_E g k (vf_p g 2)) := by rw [he7]; exact or_c (fun q => by rw [hp6 q])
  have ho7 : e7 = none → e6 = none ∧ nr_E g k (vf_p g 2) = none := fun q => ⟨or_l (hq7.symm.trans q), or_r (hq7.symm.trans q)⟩
  have hxx : e7 = none → _ := fun q => hx7 (by rw [hp6 (ho7 q).1]; exact (ho7 q).2)
  have hp7 : e7 = none → p7 = vf_p g 3 := fun q => by rw [(hxx q).1, hp6 (ho7 q).1]; rfl
  have hv7 : e7 = none → (x7 = nI (vf_v g (vf_p g 2)) ∧ vf_v g (vf_p g 2) < 2 ^ 31) ∧ p7 ≤ k := fun q => by
    have h9 := hxx q
    rw [hp6 (ho7 q).1] at h9
    exact ⟨h9.2.2, h9.2.1⟩
  refine W.eq (g2 := F0 m 56 ls [.int (x7), .ref d]) rfl ?_
  refine pf_Rd_42 E hM hS wd (Nat.le_of_ble_eq_true rfl) dd_Rd_read_56 (fun H locs hM hS => ?_)
  have hM : mw_at D mg_cl z (va_up M1 d (some (.inr (6, [.ref b, .int (nI p7), .int (eN e7), .int (x5), .int (x6), .int (x7), .int (v6), .int (v7), .int (v8)])))) H := hM
  obtain ⟨M1, hM1⟩ : ∃ M9 : mw_M, M9 = va_up M1 d (some (.inr (6, [.ref b, .int (nI p7), .int (eN e7), .int (x5), .int (x6), .int (x7), .int (v6), .int (v7), .int (v8)]))) := ⟨_, rfl⟩
  rw [← hM1] at hM
  have wb := mw_uu hM1 wb (mw_ne wb wd (fun q => by cases q))
  have wr := mw_uu hM1 wr (mw_ne wr wd (fun q => by cases q))
  have wd := mw_us hM1
  have hF := mw_fu hM1 hF (rfl)
  refine lv_aload_n hx hb dd_Rd_read_59 rfl (lv_at hl 0 rfl) ?_
  refine lv_aload_n hx hb dd_Rd_read_60 rfl (lv_at hl 0 rfl) ?_
  refine mw_V (As := []) (rest := [.ref d]) E (cc_Rd_readNumber l D z (M1) b r f k g d p7 e7 x5 x6 x7 v6 v7 v8 wb wr hk0 hg wd hl7 (by omega)) ky_Rd_readNumber kv_Rd_readNumber tw_Rd_32 hM hS wd rfl rfl rfl hl.1 rfl (Nat.le_of_ble_eq_true rfl) dd_Rd_read_61 (by first | decide | exact ⟨by dsimp only; omega, by dsimp only; omega⟩) (by decide) (fun v M1 H locs hp hM hS => ?_)
  obtain ⟨p8, x8, rfl, wd2, hn8, hx8, hF2⟩ := hp
  have wb := hF2.at wb (mw_ne wb wd (fun q => by cases q))
  have wr := hF2.at wr (mw_ne wr wd (fun q => by cases q))
  have wd := wd2
  have hF := hF.trans hF2
  obtain ⟨e8, he8⟩ : ∃ o9 : Option Nat, o9 = e7.or (nr_E g k p7) := ⟨_, rfl⟩
  rw [← he8] at wd
  have hl8 : ∀ q : Nat, e8 = some q → q < 2 ^ 20 := by rw [he8]; exact eN_or hl7 (nr_Elt (by omega) hk0 (fun j9 q9 => (hg j9 q9).2))
  have hq8 : e8 = e7.or (nr_E g k (vf_p g 3)) := by rw [he8]; exact or_c (fun q => by rw [hp7 q])
  have ho8 : e8 = none → e7 = none ∧ nr_E g k (vf_p g 3) = none := fun q => ⟨or_l (hq8.symm.trans q), or_r (hq8.symm.trans q)⟩
  have hxx : e8 = none → _ := fun q => hx8 (by rw [hp7 (ho8 q).1]; exact (ho8 q).2)
  have hp8 : e8 = none → p8 = vf_p g 4 := fun q => by rw [(hxx q).1, hp7 (ho8 q).1]; rfl
  have hv8 : e8 = none → (x8 = nI (vf_v g (vf_p g 3)) ∧ vf_v g (vf_p g 3) < 2 ^ 31) ∧ p8 ≤ k := fun q => by
    have h9 := hxx q
    rw [hp7 (ho8 q).1] at h9
    exact ⟨h9.2.2, h9.2.1⟩
  refine W.eq (g2 := F0 m 64 ls [.int (x8), .ref d]) rfl ?_
  refine pf_Rd_45 E hM hS wd (Nat.le_of_ble_eq_true rfl) dd_Rd_read_64 (fun H locs hM hS => ?_)
  have hM : mw_at D mg_cl z (va_up M1 d (some (.inr (6, [.ref b, .int (nI p8), .int (eN e8), .int (x5), .int (x6), .int (x7), .int (x8), .int (v7), .int (v8)])))) H := hM
  obtain ⟨M1, hM1⟩ : ∃ M9 : mw_M, M9 = va_up M1 d (some (.inr (6, [.ref b, .int (nI p8), .int (eN e8), .int (x5), .int (x6), .int (x7), .int (x8), .int (v7), .int (v8)]))) := ⟨_, rfl⟩
  rw [← hM1] at hM
  have wb := mw_uu hM1 wb (mw_ne wb wd (fun q => by cases q))
  have wr := mw_uu hM1 wr (mw_ne wr wd (fun q => by cases q))
  have wd := mw_us hM1
  have hF := mw_fu hM1 hF (rfl)
  refine lv_aload_n hx hb dd_Rd_read_67 rfl (lv_at hl 0 rfl) ?_
  refine mw_V (As := []) (rest := []) E (cc_Rd_readId l D z (M1) b r f k g d p8 e8 x5 x6 x7 x8 v7 v8 wb wr hk0 hg wd hl8 (by omega)) ky_Rd_readId kv_Rd_readId tw_Rd_48 hM hS wd rfl rfl rfl hl.1 rfl (Nat.le_of_ble_eq_true rfl) dd_Rd_read_68 (by first | decide | exact ⟨by dsimp only; omega, by dsimp only; omega⟩) (by decide) (fun v M1 H locs hp hM hS => ?_)
  obtain ⟨p9, rfl, wd2, hn9, hx9, hF2⟩ := hp
  have wb := hF2.at wb (mw_ne wb wd (fun q => by cases q))
  have wr := hF2.at wr (mw_ne wr wd (fun q => by cases q))
  have wd := wd2
  have hF := hF.trans hF2
  obtain ⟨e9, he9⟩ : ∃ o9 : Option Nat, o9 = e8.or (id_E g k p8) := ⟨_, rfl⟩
  rw [← he9] at wd
  have hl9 : ∀ q : Nat, e9 = some q → q < 2 ^ 20 := by rw [he9]; exact eN_or hl8 (id_Elt (by omega) hk0)
  have hq9 : e9 = e8.or (id_E g k (vf_p g 4)) := by rw [he9]; exact or_c (fun q => by rw [hp8 q])
  have ho9 : e9 = none → e8 = none ∧ id_E g k (vf_p g 4) = none := fun q => ⟨or_l (hq9.symm.trans q), or_r (hq9.symm.trans q)⟩
  have hxx : e9 = none → _ := fun q => hx9 (by rw [hp8 (ho9 q).1]; exact (ho9 q).2)
  have hp9 : e9 = none → p9 = vf_p g 5 := fun q => by rw [(hxx q).1, hp8 (ho9 q).1]; rfl
  refine W.eq (g2 := F0 m 71 ls []) rfl ?_
  refine lv_iconst (v := nI 0) hx hb dd_Rd_read_71 (by decide) ?_
  refine lv_istore_n (lv' := [(2, .int (nI 0)), (0, .ref d), (1, .ref b)]) hx hb dd_Rd_read_72 rfl hl (by decide) rfl (fun ls hl => ?_)
  refine lv_iload_n hx hb dd_Rd_read_73 rfl (lv_at hl 0 rfl) ?_
  refine va_getsN hx hb E.Z.2.1.1 hS E.o (va_Nw.use rfl (E.N.1 _ tw_Rd_51)) (fun _ h => h) dd_Rd_read_74 ?_
  refine va_tlen (v := nI 4) hx hb E.Z.2.1.2 hS rfl dd_Rd_read_77 ?_
  refine lv_icmp_ge (tgt := 96) hx hb dd_Rd_read_78 (by decide) (fun h78 => ?_) (fun h78 => ?_)
  ·
    rw [nI_leI (by omega) (by omega)] at h78
    exact absurd h78 (by decide)
  ·
    rw [nI_leI (by omega) (by omega)] at h78
    refine lv_aload_n hx hb dd_Rd_read_81 rfl (lv_at hl 1 rfl) ?_
    refine va_getsN hx hb E.Z.2.1.1 hS E.o (va_Nw.use rfl (E.N.1 _ tw_Rd_51)) (fun _ h => h) dd_Rd_read_82 ?_
    refine lv_iload_n hx hb dd_Rd_read_85 rfl (lv_at hl 0 rfl) ?_
    refine va_ti (v := .int (([3, 2, 7, 128] : List Int32).getD (nI 0).toNatClampNeg 0)) hx hb E.Z.2.1.2 hS (vp_in_nI (by omega) (by omega)) rfl dd_Rd_read_86 ?_
    refine mw_topi (y := ([3, 2, 7, 128] : List Int32).getD 0 0) (by rw [nI_clamp (by omega)]) ?_
    refine mw_topi (y := nI 3) (by decide) ?_
    refine mw_V (As := [.int (nI 3)]) (rest := []) E (cc_Rd_expect l D z (M1) b r f k g d p9 e9 x5 x6 x7 x8 v7 v8 3 wb wr hk0 hg wd hl9 (by omega) (by omega)) ky_Rd_expect kv_Rd_expect tw_Rd_25 hM hS wd rfl rfl rfl hl.1 rfl (Nat.le_of_ble_eq_true rfl) dd_Rd_read_87 (by first | decide | exact ⟨by dsimp only; omega, by dsimp only; omega⟩) (by decide) (fun v M1 H locs hp hM hS => ?_)
    obtain ⟨rfl, wd2, hF2⟩ := hp
    have wb := hF2.at wb (mw_ne wb wd (fun q => by cases q))
    have wr := hF2.at wr (mw_ne wr wd (fun q => by cases q))
    have wd := wd2
    have hF := hF.trans hF2
    obtain ⟨e10, he10⟩ : ∃ o9 : Option Nat, o9 = e9.or (te g k 3 p9) := ⟨_, rfl⟩
    rw [← he10] at wd
    have hl10 : ∀ q : Nat, e10 = some q → q < 2 ^ 20 := by rw [he10]; exact eN_or hl9 (te_lt (by omega))
    have hq10 : e10 = e9.or (te g k 3 (vf_p g 5)) := by rw [he10]; exact or_c (fun q => by rw [hp9 q])
    have ho10 : e10 = none → e9 = none ∧ te g k 3 (vf_p g 5) = none := fun q => ⟨or_l (hq10.symm.trans q), or_r (hq10.symm.trans q)⟩
    obtain ⟨p10, hpp⟩ : ∃ p99 : Nat, p99 = p9 + 1 := ⟨_, rfl⟩
    rw [← hpp] at wd
    have hn10 : p9 ≤ p10 ∧ p10 ≤ p9 + 1 := by omega
    have hp10 : e10 = none → p10 = vf_p g 5 + 1 := fun q => hpp.trans (congrArg (· + 1) (hp9 (ho10 q).1))
    refine W.eq (g2 := F0 m 90 ls []) rfl ?_
    refine lv_iinc (k := 0) (v := nI (0 + 1)) (lv' := [(2, .int (nI (0 + 1))), (0, .ref d), (1, .ref b)]) hx hb dd_Rd_read_90 hl rfl (nI_1 _) (by decide) rfl (fun ls hl => ?_)
    have hl : lv_has ls 3 [(2, .int (nI 1)), (0, .ref d), (1, .ref b)] := hl
    refine lv_goto (tgt := 73) hx hb dd_Rd_read_93 (by decide) ?_
    refine lv_iload_n hx hb dd_Rd_read_73 rfl (lv_at hl 0 rfl) ?_
    refine va_getsN hx hb E.Z.2.1.1 hS E.o (va_Nw.use rfl (E.N.1 _ tw_Rd_51)) (fun _ h => h) dd_Rd_read_74 ?_
    refine va_tlen (v := nI 4) hx hb E.Z.2.1.2 hS rfl dd_Rd_read_77 ?_
    refine lv_icmp_ge (tgt := 96) hx hb dd_Rd_read_78 (by decide) (fun h78 => ?_) (fun h78 => ?_)
    ·
      rw [nI_leI (by omega) (by omega)] at h78
      exact absurd h78 (by decide)
    ·
      rw [nI_leI (by omega) (by omega)] at h78
      refine lv_aload_n hx hb dd_Rd_read_81 rfl (lv_at hl 1 rfl) ?_
      refine va_getsN hx hb E.Z.2.1.1 hS E.o (va_Nw.use rfl (E.N.1 _ tw_Rd_51)) (fun _ h => h) dd_Rd_read_82 ?_
      refine lv_iload_n hx hb dd_Rd_read_85 rfl (lv_at hl 0 rfl) ?_
      refine va_ti (v := .int (([3, 2, 7, 128] : List Int32).getD (nI 1).toNatClampNeg 0)) hx hb E.Z.2.1.2 hS (vp_in_nI (by omega) (by omega)) rfl dd_Rd_read_86 ?_
      refine mw_topi (y := ([3, 2, 7, 128] : List Int32).getD 1 0) (by rw [nI_clamp (by omega)]) ?_
      refine mw_topi (y := nI 2) (by decide) ?_
      refine mw_V (As := [.int (nI 2)]) (rest := []) E (cc_Rd_expect l D z (M1) b r f k g d p10 e10 x5 x6 x7 x8 v7 v8 2 wb wr hk0 hg wd hl10 (by omega) (by omega)) ky_Rd_expect kv_Rd_expect tw_Rd_25 hM hS wd rfl rfl rfl hl.1 rfl (Nat.le_of_ble_eq_true rfl) dd_Rd_read_87 (by first | decide | exact ⟨by dsimp only; omega, by dsimp only; omega⟩) (by decide) (fun v M1 H locs hp hM hS => ?_)
      obtain ⟨rfl, wd2, hF2⟩ := hp
      have wb := hF2.at wb (mw_ne wb wd (fun q => by cases q))
      have wr := hF2.at wr (mw_ne wr wd (fun q => by cases q))
      have wd := wd2
      have hF := hF.trans hF2
      obtain ⟨e11, he11⟩ : ∃ o9 : Option Nat, o9 = e10.or (te g k 2 p10) := ⟨_, rfl⟩
      rw [← he11] at wd
      have hl11 : ∀ q : Nat, e11 = some q → q < 2 ^ 20 := by rw [he11]; exact eN_or hl10 (te_lt (by omega))
      have hq11 : e11 = e10.or (te g k 2 (vf_p g 5 + 1)) := by rw [he11]; exact or_c (fun q => by rw [hp10 q])
      have ho11 : e11 = none → e10 = none ∧ te g k 2 (vf_p g 5 + 1) = none := fun q => ⟨or_l (hq11.symm.trans q), or_r (hq11.symm.trans q)⟩
      obtain ⟨p11, hpp⟩ : ∃ p99 : Nat, p99 = p10 + 1 := ⟨_, rfl⟩
      rw [← hpp] at wd
      have hn11 : p10 ≤ p11 ∧ p11 ≤ p10 + 1 := by omega
      have hp11 : e11 = none → p11 = vf_p g 5 + 2 := fun q => hpp.trans (congrArg (· + 1) (hp10 (ho11 q).1))
      refine W.eq (g2 := F0 m 90 ls []) rfl ?_
      refine lv_iinc (k := 0) (v := nI (1 + 1)) (lv' := [(2, .int (nI (1 + 1))), (0, .ref d), (1, .ref b)]) hx hb dd_Rd_read_90 hl rfl (nI_1 _) (by decide) rfl (fun ls hl => ?_)
      have hl : lv_has ls 3 [(2, .int (nI 2)), (0, .ref d), (1, .ref b)] := hl
      refine lv_goto (tgt := 73) hx hb dd_Rd_read_93 (by decide) ?_
      refine lv_iload_n hx hb dd_Rd_read_73 rfl (lv_at hl 0 rfl) ?_
      refine va_getsN hx hb E.Z.2.1.1 hS E.o (va_Nw.use rfl (E.N.1 _ tw_Rd_51)) (fun _ h => h) dd_Rd_read_74 ?_
      refine va_tlen (v := nI 4) hx hb E.Z.2.1.2 hS rfl dd_Rd_read_77 ?_
      refine lv_icmp_ge (tgt := 96) hx hb dd_Rd_read_78 (by decide) (fun h78 => ?_) (fun h78 => ?_)
      ·
        rw [nI_leI (by omega) (by omega)] at h78
        exact absurd h78 (by decide)
      ·
        rw [nI_leI (by omega) (by omega)] at h78
        refine lv_aload_n hx hb dd_Rd_read_81 rfl (lv_at hl 1 rfl) ?_
        refine va_getsN hx hb E.Z.2.1.1 hS E.o (va_Nw.use rfl (E.N.1 _ tw_Rd_51)) (fun _ h => h) dd_Rd_read_82 ?_
        refine lv_iload_n hx hb dd_Rd_read_85 rfl (lv_at hl 0 rfl) ?_
        refine va_ti (v := .int (([3, 2, 7, 128] : List Int32).getD (nI 2).toNatClampNeg 0)) hx hb E.Z.2.1.2 hS (vp_in_nI (by omega) (by omega)) rfl dd_Rd_read_86 ?_
        refine mw_topi (y := ([3, 2, 7, 128] : List Int32).getD 2 0) (by rw [nI_clamp (by omega)]) ?_
        refine mw_topi (y := nI 7) (by decide) ?_
        refine mw_V (As := [.int (nI 7)]) (rest := []) E (cc_Rd_expect l D z (M1) b r f k g d p11 e11 x5 x6 x7 x8 v7 v8 7 wb wr hk0 hg wd hl11 (by omega) (by omega)) ky_Rd_expect kv_Rd_expect tw_Rd_25 hM hS wd rfl rfl rfl hl.1 rfl (Nat.le_of_ble_eq_true rfl) dd_Rd_read_87 (by first | decide | exact ⟨by dsimp only; omega, by dsimp only; omega⟩) (by decide) (fun v M1 H locs hp hM hS => ?_)
        obtain ⟨rfl, wd2, hF2⟩ := hp
        have wb := hF2.at wb (mw_ne wb wd (fun q => by cases q))
        have wr := hF2.at wr (mw_ne wr wd (fun q => by cases q))
        have wd := wd2
        have hF := hF.trans hF2
        obtain ⟨e12, he12⟩ : ∃ o9 : Option Nat, o9 = e11.or (te g k 7 p11) := ⟨_, rfl⟩
        rw [← he12] at wd
        have hl12 : ∀ q : Nat, e12 = some q → q < 2 ^ 20 := by rw [he12]; exact eN_or hl11 (te_lt (by omega))
        have hq12 : e12 = e11.or (te g k 7 (vf_p g 5 + 2)) := by rw [he12]; exact or_c (fun q => by rw [hp11 q])
        have ho12 : e12 = none → e11 = none ∧ te g k 7 (vf_p g 5 + 2) = none := fun q => ⟨or_l (hq12.symm.trans q), or_r (hq12.symm.trans q)⟩
        obtain ⟨p12, hpp⟩ : ∃ p99 : Nat, p99 = p11 + 1 := ⟨_, rfl⟩
        rw [← hpp] at wd
        have hn12 : p11 ≤ p12 ∧ p12 ≤ p11 + 1 := by omega
        have hp12 : e12 = none → p12 = vf_p g 5 + 3 := fun q => hpp.trans (congrArg (· + 1) (hp11 (ho12 q).1))
        refine W.eq (g2 := F0 m 90 ls []) rfl ?_
        refine lv_iinc (k := 0) (v := nI (2 + 1)) (lv' := [(2, .int (nI (2 + 1))), (0, .ref d), (1, .ref b)]) hx hb dd_Rd_read_90 hl rfl (nI_1 _) (by decide) rfl (fun ls hl => ?_)
        have hl : lv_has ls 3 [(2, .int (nI 3)), (0, .ref d), (1, .ref b)] := hl
        refine lv_goto (tgt := 73) hx hb dd_Rd_read_93 (by decide) ?_
        refine lv_iload_n hx hb dd_Rd_read_73 rfl (lv_at hl 0 rfl) ?_
        refine va_getsN hx hb E.Z.2.1.1 hS E.o (va_Nw.use rfl (E.N.1 _ tw_Rd_51)) (fun _ h => h) dd_Rd_read_74 ?_
        refine va_tlen (v := nI 4) hx hb E.Z.2.1.2 hS rfl dd_Rd_read_77 ?_
        refine lv_icmp_ge (tgt := 96) hx hb dd_Rd_read_78 (by decide) (fun h78 => ?_) (fun h78 => ?_)
        ·
          rw [nI_leI (by omega) (by omega)] at h78
          exact absurd h78 (by decide)
        ·
          rw [nI_leI (by omega) (by omega)] at h78
          refine lv_aload_n hx hb dd_Rd_read_81 rfl (lv_at hl 1 rfl) ?_
          refine va_getsN hx hb E.Z.2.1.1 hS E.o (va_Nw.use rfl (E.N.1 _ tw_Rd_51)) (fun _ h => h) dd_Rd_read_82 ?_
          refine lv_iload_n hx hb dd_Rd_read_85 rfl (lv_at hl 0 rfl) ?_
          refine va_ti (v := .int (([3, 2, 7, 128] : List Int32).getD (nI 3).toNatClampNeg 0)) hx hb E.Z.2.1.2 hS (vp_in_nI (by omega) (by omega)) rfl dd_Rd_read_86 ?_
          refine mw_topi (y := ([3, 2, 7, 128] : List Int32).getD 3 0) (by rw [nI_clamp (by omega)]) ?_
          refine mw_topi (y := nI 128) (by decide) ?_
          refine mw_V (As := [.int (nI 128)]) (rest := []) E (cc_Rd_expect l D z (M1) b r f k g d p12 e12 x5 x6 x7 x8 v7 v8 128 wb wr hk0 hg wd hl12 (by omega) (by omega)) ky_Rd_expect kv_Rd_expect tw_Rd_25 hM hS wd rfl rfl rfl hl.1 rfl (Nat.le_of_ble_eq_true rfl) dd_Rd_read_87 (by first | decide | exact ⟨by dsimp only; omega, by dsimp only; omega⟩) (by decide) (fun v M1 H locs hp hM hS => ?_)
          obtain ⟨rfl, wd2, hF2⟩ := hp
          have wb := hF2.at wb (mw_ne wb wd (fun q => by cases q))
          have wr := hF2.at wr (mw_ne wr wd (fun q => by cases q))
          have wd := wd2
          have hF := hF.trans hF2
          obtain ⟨e13, he13⟩ : ∃ o9 : Option Nat, o9 = e12.or (te g k 128 p12) := ⟨_, rfl⟩
          rw [← he13] at wd
          have hl13 : ∀ q : Nat, e13 = some q → q < 2 ^ 20 := by rw [he13]; exact eN_or hl12 (te_lt (by omega))
          have hq13 : e13 = e12.or (te g k 128 (vf_p g 5 + 3)) := by rw [he13]; exact or_c (fun q => by rw [hp12 q])
          have ho13 : e13 = none → e12 = none ∧ te g k 128 (vf_p g 5 + 3) = none := fun q => ⟨or_l (hq13.symm.trans q), or_r (hq13.symm.trans q)⟩
          obtain ⟨p13, hpp⟩ : ∃ p99 : Nat, p99 = p12 + 1 := ⟨_, rfl⟩
          rw [← hpp] at wd
          have hn13 : p12 ≤ p13 ∧ p13 ≤ p12 + 1 := by omega
          have hp13 : e13 = none → p13 = vf_p g 5 + 4 := fun q => hpp.trans (congrArg (· + 1) (hp12 (ho13 q).1))
          refine W.eq (g2 := F0 m 90 ls []) rfl ?_
          refine lv_iinc (k := 0) (v := nI (3 + 1)) (lv' := [(2, .int (nI (3 + 1))), (0, .ref d), (1, .ref b)]) hx hb dd_Rd_read_90 hl rfl (nI_1 _) (by decide) rfl (fun ls hl => ?_)
          have hl : lv_has ls 3 [(2, .int (nI 4)), (0, .ref d), (1, .ref b)] := hl
          refine lv_goto (tgt := 73) hx hb dd_Rd_read_93 (by decide) ?_
          refine lv_iload_n hx hb dd_Rd_read_73 rfl (lv_at hl 0 rfl) ?_
          refine va_getsN hx hb E.Z.2.1.1 hS E.o (va_Nw.use rfl (E.N.1 _ tw_Rd_51)) (fun _ h => h) dd_Rd_read_74 ?_
          refine va_tlen (v := nI 4) hx hb E.Z.2.1.2 hS rfl dd_Rd_read_77 ?_
          refine lv_icmp_ge (tgt := 96) hx hb dd_Rd_read_78 (by decide) (fun h78 => ?_) (fun h78 => ?_)
          ·
            rw [nI_leI (by omega) (by omega)] at h78
            refine lv_aload_n hx hb dd_Rd_read_96 rfl (lv_at hl 1 rfl) ?_
            refine lv_aload_n hx hb dd_Rd_read_97 rfl (lv_at hl 1 rfl) ?_
            refine gf_Rd_18 E hM wd rfl dd_Rd_read_98 ?_
            refine pf_Rd_55 E hM hS wd (Nat.le_of_ble_eq_true rfl) dd_Rd_read_101 (fun H locs hM hS => ?_)
            have hM : mw_at D mg_cl z (va_up M1 d (some (.inr (6, [.ref b, .int (nI p13), .int (eN e13), .int (x5), .int (x6), .int (x7), .int (x8), .int (nI p13), .int (v8)])))) H := hM
            obtain ⟨M1, hM1⟩ : ∃ M9 : mw_M, M9 = va_up M1 d (some (.inr (6, [.ref b, .int (nI p13), .int (eN e13), .int (x5), .int (x6), .int (x7), .int (x8), .int (nI p13), .int (v8)]))) := ⟨_, rfl⟩
            rw [← hM1] at hM
            have wb := mw_uu hM1 wb (mw_ne wb wd (fun q => by cases q))
            have wr := mw_uu hM1 wr (mw_ne wr wd (fun q => by cases q))
            have wd := mw_us hM1
            have hF := mw_fu hM1 hF (rfl)
            refine lv_aload_n hx hb dd_Rd_read_104 rfl (lv_at hl 1 rfl) ?_
            refine lv_aload_n hx hb dd_Rd_read_105 rfl (lv_at hl 1 rfl) ?_
            refine mw_V (As := []) (rest := [.ref d]) E (cc_Rd_readNumber l D z (M1) b r f k g d p13 e13 x5 x6 x7 x8 (nI p13) v8 wb wr hk0 hg wd hl13 (by omega)) ky_Rd_readNumber kv_Rd_readNumber tw_Rd_32 hM hS wd rfl rfl rfl hl.1 rfl (Nat.le_of_ble_eq_true rfl) dd_Rd_read_106 (by first | decide | exact ⟨by dsimp only; omega, by dsimp only; omega⟩) (by decide) (fun v M1 H locs hp hM hS => ?_)
            obtain ⟨p14, x14, rfl, wd2, hn14, hx14, hF2⟩ := hp
            have wb := hF2.at wb (mw_ne wb wd (fun q => by cases q))
            have wr := hF2.at wr (mw_ne wr wd (fun q => by cases q))
            have wd := wd2
            have hF := hF.trans hF2
            obtain ⟨e14, he14⟩ : ∃ o9 : Option Nat, o9 = e13.or (nr_E g k p13) := ⟨_, rfl⟩
            rw [← he14] at wd
            have hl14 : ∀ q : Nat, e14 = some q → q < 2 ^ 20 := by rw [he14]; exact eN_or hl13 (nr_Elt (by omega) hk0 (fun j9 q9 => (hg j9 q9).2))
            have hq14 : e14 = e13.or (nr_E g k (vf_p g 5 + 4)) := by rw [he14]; exact or_c (fun q => by rw [hp13 q])
            have ho14 : e14 = none → e13 = none ∧ nr_E g k (vf_p g 5 + 4) = none := fun q => ⟨or_l (hq14.symm.trans q), or_r (hq14.symm.trans q)⟩
            have hxx : e14 = none → _ := fun q => hx14 (by rw [hp13 (ho14 q).1]; exact (ho14 q).2)
            have hp14 : e14 = none → p14 = np g (vf_p g 5 + 4) := fun q => by rw [(hxx q).1, hp13 (ho14 q).1]; rfl
            have hv14 : e14 = none → (x14 = nI (vf_v g (vf_p g 5 + 4)) ∧ vf_v g (vf_p g 5 + 4) < 2 ^ 31) ∧ p14 ≤ k := fun q => by
              have h9 := hxx q
              rw [hp13 (ho14 q).1] at h9
              exact ⟨h9.2.2, h9.2.1⟩
            refine W.eq (g2 := F0 m 109 ls [.int (x14), .ref d]) rfl ?_
            refine pf_Rd_58 E hM hS wd (Nat.le_of_ble_eq_true rfl) dd_Rd_read_109 (fun H locs hM hS => ?_)
            have hM : mw_at D mg_cl z (va_up M1 d (some (.inr (6, [.ref b, .int (nI p14), .int (eN e14), .int (x5), .int (x6), .int (x7), .int (x8), .int (nI p13), .int (x14)])))) H := hM
            obtain ⟨M1, hM1⟩ : ∃ M9 : mw_M, M9 = va_up M1 d (some (.inr (6, [.ref b, .int (nI p14), .int (eN e14), .int (x5), .int (x6), .int (x7), .int (x8), .int (nI p13), .int (x14)]))) := ⟨_, rfl⟩
            rw [← hM1] at hM
            have wb := mw_uu hM1 wb (mw_ne wb wd (fun q => by cases q))
            have wr := mw_uu hM1 wr (mw_ne wr wd (fun q => by cases q))
            have wd := mw_us hM1
            have hF := mw_fu hM1 hF (rfl)
            refine lv_aload_n hx hb dd_Rd_read_112 rfl (lv_at hl 1 rfl) ?_
            refine mw_V (As := []) (rest := []) E (cc_Rd_checkLengths l D z (M1) b r f k g d p14 e14 x5 x6 x7 x8 x14 p13 wb wr hk0 hg wd hl14 (by omega) (by omega) ⟨by omega, by omega⟩) ky_Rd_checkLengths kv_Rd_checkLengths tw_Rd_61 hM hS wd rfl rfl rfl hl.1 rfl (Nat.le_of_ble_eq_true rfl) dd_Rd_read_113 (by first | decide | exact ⟨by dsimp only; omega, by dsimp only; omega⟩) (by decide) (fun v M1 H locs hp hM hS => ?_)
            obtain ⟨rfl, wd2, hF2⟩ := hp
            have wd := wd2
            have hF := hF.trans hF2
            refine W.eq (g2 := F0 m 116 ls []) rfl ?_
            refine mr_v E hr hk hM hS (by decide) (by decide) ?_ dd_Rd_read_116
            have hE : e14.or (cl_E g k p13 p14) = vf_E g k := by
              have h14 : e14 = vf_14 g k := by
                unfold vf_14 vf_9
                rw [hq14, hq13, hq12, hq11, hq10, hq9, hq8, hq7, hq6, hq5, hq4, hq3, hq2, hq1, hq0]
              unfold vf_E
              rw [← h14]
              exact or_c (fun q => by rw [hp14 q, hp13 (ho14 q).1])
            rw [hE] at wd
            refine ⟨rfl, ⟨_, _, _, _, _, _, _, wd, fun q => ?_⟩, hF⟩
            have q14 : e14 = none := or_l (hE.trans q)
            have q13 := (ho14 q14).1
            have q12 := (ho13 q13).1
            have q11 := (ho12 q12).1
            have q10 := (ho11 q11).1
            have q9 := (ho10 q10).1
            have q8 := (ho9 q9).1
            have q7 := (ho8 q8).1
            have q6 := (ho7 q7).1
            have q5 := (ho6 q6).1
            exact ⟨(hv5 q5).1, (hv6 q6).1, (hv7 q7).1, (hv8 q8).1, ⟨by rw [hp13 q13], by have := (hv14 q14).2; have := hp13 q13; omega, vf_5 g⟩, (hv14 q14).1⟩
          ·
            rw [nI_leI (by omega) (by omega)] at h78
            exact absurd (by decide) h78
set_option maxHeartbeats 4000000 in
set_option maxRecDepth 100000 in
theorem cc_Xi_judge (l : Launch) (D : va_G) (z : Nat) (M : mw_M) (x xb xi xk xe xa xw xl xr xt rn cu : Nat) (fo se : Int32) (cl : Nat) (r : Nat) (f : Nat → Int32) (k : Nat) (g : Nat → Nat) (rk lf kc : Nat) (ac pr : Int32) (fk : Nat → Int32) (gk : Nat → Nat) (pl2 v3 v4 v5 v6 v7 v8 : Int32) (wx : M x = some (.inr (0, [.ref xb, .ref xi, .ref xk, .ref xe, .ref xa, .ref xw, .ref xl, .ref xr, .ref xt, .int (fo), .int (nI cl), .int (se), .ref rn, .ref cu]))) (wb : M xb = some (.inr (1, [.ref r, .int (nI k)]))) (wr : M r = some (.inl (D.1 100, 100, .inl f))) (hk0 : k ≤ 100) (hg : ∀ j : Nat, j < k → f j = nI (g j) ∧ g j < 256) (wk : M xk = some (.inr (8, [.int (nI lf), .ref rk, .int (nI kc), .int (ac), .int (pr)]))) (wrk : M rk = some (.inl (D.1 100, 4, .inl fk))) (hgk : ∀ j : Nat, j < 4 → fk j = nI (gk j) ∧ gk j < 2 ^ 20) (hlf : lf < 2 ^ 20) (hkc : kc < 2 ^ 20) (hcl : cl < 2 ^ 20) (wd : M xr = some (.inr (6, [.ref xb, .int (pl2), .int (eN (vf_E g k)), .int (v3), .int (v4), .int (v5), .int (v6), .int (v7), .int (v8)]))) (hok : vf_E g k = none → vf_ok g k v3 v4 v5 v6 v7 v8) (hEl : ∀ q : Nat, vf_E g k = some q → q < 2 ^ 20) : mw_C l yy_Xi_judge bb_Xi_judge 2 (Option.some Jvm.ClassFile.FieldType.int) 2 51 0 0 D z M [.ref x] (fun v M' => v = some (.int (vf_ans g k (fun j => ky_good kc lf gk (nI j) cl) cl)) ∧ M' = M) := by
  refine mw_of (by decide) (Nat.le_of_ble_eq_true rfl) ?_
  intro p e s m below meth c ls E hr hk hnm hM hl
  have hx := E.x
  have hb := E.b
  have E : mw_E p m c bb_Xi_judge 2 s _ D z "IdentityIssuer" := E
  have hl : lv_has ls 2 [(0, .ref x)] := hl
  have hS : va_S (mw_A z) s.heap s.heap [] := va_S.rf
  refine lv_aload_n hx hb dd_Xi_judge_0 rfl (lv_at hl 0 rfl) ?_
  refine gf_Xi_50 E hM wx rfl dd_Xi_judge_1 ?_
  refine gf_Xi_321 E hM wd rfl dd_Xi_judge_4 ?_
  refine lv_iconst (v := -1) hx hb dd_Xi_judge_7 (by decide) ?_
  refine lv_icmp_eq (tgt := 21) hx hb dd_Xi_judge_8 (by decide) (fun h8 => ?_) (fun h8 => ?_)
  ·
    have hE : vf_E g k = none := by
      cases hE : vf_E g k with
      | none => rfl
      | some q => rw [hE] at h8; exact absurd h8.symm (nI_nm1 (by have := hEl q hE; omega))
    obtain ⟨⟨y3, z3⟩, ⟨y4, z4⟩, ⟨y5, z5⟩, ⟨y6, z6⟩, ⟨y7, z7, z70⟩, ⟨y8, z8⟩⟩ := hok hE
    subst y3 y4 y5 y6 y7 y8
    obtain ⟨n3, hn3⟩ : ∃ n9 : Nat, n9 = vf_v g (vf_p g 0) := ⟨_, rfl⟩
    rw [← hn3] at z3 wd
    obtain ⟨n4, hn4⟩ : ∃ n9 : Nat, n9 = vf_v g (vf_p g 1) := ⟨_, rfl⟩
    rw [← hn4] at z4 wd
    obtain ⟨n5, hn5⟩ : ∃ n9 : Nat, n9 = vf_v g (vf_p g 2) := ⟨_, rfl⟩
    rw [← hn5] at z5 wd
    obtain ⟨n6, hn6⟩ : ∃ n9 : Nat, n9 = vf_v g (vf_p g 3) := ⟨_, rfl⟩
    rw [← hn6] at z6 wd
    obtain ⟨n8, hn8⟩ : ∃ n9 : Nat, n9 = vf_v g (vf_p g 5 + 4) := ⟨_, rfl⟩
    rw [← hn8] at z8 wd
    obtain ⟨n7, hn7⟩ : ∃ n9 : Nat, n9 = vf_p g 5 + 4 := ⟨_, rfl⟩
    rw [← hn7] at z7 wd
    have hA : vf_ans g k (fun j => ky_good kc lf gk (nI j) cl) cl = if ky_good kc lf gk (nI n4) cl = false then -1006 else if ¬ (n8 < sk_m n4 ∧ pw_n (sk_m n4) 31 65537 (n8 % sk_m n4) 1 = by_sm g 2 (n7 - 2)) then -1007 else if cl < n5 ∨ n6 ≤ cl then -1005 else nI n3 := by
      unfold vf_ans
      rw [hE, hn3, hn4, hn5, hn6, hn7, hn8]
    refine lv_aload_n hx hb dd_Xi_judge_21 rfl (lv_at hl 0 rfl) ?_
    refine gf_Xi_81 E hM wx rfl dd_Xi_judge_22 ?_
    refine lv_aload_n hx hb dd_Xi_judge_25 rfl (lv_at hl 0 rfl) ?_
    refine gf_Xi_50 E hM wx rfl dd_Xi_judge_26 ?_
    refine gf_Xi_324 E hM wd rfl dd_Xi_judge_29 ?_
    refine lv_aload_n hx hb dd_Xi_judge_32 rfl (lv_at hl 0 rfl) ?_
    refine gf_Xi_154 E hM wx rfl dd_Xi_judge_33 ?_
    refine mw_V (As := [.int (nI n4), .int (nI cl)]) (rest := []) E (cc_Ky_isGood l D z (M) xk rk lf kc ac pr fk gk (nI n4) cl wk wrk hgk hlf hkc hcl) ky_Ky_isGood kv_Ky_isGood tw_Xi_157 hM hS wk rfl rfl rfl hl.1 rfl (Nat.le_of_ble_eq_true rfl) dd_Xi_judge_36 (by first | decide | exact ⟨by dsimp only; omega, by dsimp only; omega⟩) (by decide) (fun v M1 H locs hp hM hS => ?_)
    obtain ⟨rfl, hq⟩ := hp
    have hq := hq.symm
    subst hq
    refine W.eq (g2 := F0 m 39 ls [.int (zI (ky_good kc lf gk (nI n4) cl))]) rfl ?_
    cases hgd : ky_good kc lf gk (nI n4) cl with
    | false =>
      refine mw_topi (y := zI false) (rfl) ?_
      refine lv_if_ne (tgt := 46) hx hb dd_Xi_judge_39 (by decide) (fun h39 => ?_) (fun h39 => ?_)
      ·
        exact absurd rfl h39
      ·
        refine lv_sipush (v := -1006) hx hb dd_Xi_judge_42 (by decide) ?_
        refine mr_i E hr hk hM hS (by decide) (by decide) ?_ dd_Xi_judge_45
        refine ⟨?_, rfl⟩
        rw [hA, if_pos hgd]
    | true =>
      refine mw_topi (y := zI true) (rfl) ?_
      refine lv_if_ne (tgt := 46) hx hb dd_Xi_judge_39 (by decide) (fun h39 => ?_) (fun h39 => ?_)
      ·
        refine lv_aload_n hx hb dd_Xi_judge_46 rfl (lv_at hl 0 rfl) ?_
        refine gf_Xi_10 E hM wx rfl dd_Xi_judge_47 ?_
        refine lv_iconst (v := nI 2) hx hb dd_Xi_judge_50 (by decide) ?_
        refine lv_aload_n hx hb dd_Xi_judge_51 rfl (lv_at hl 0 rfl) ?_
        refine gf_Xi_50 E hM wx rfl dd_Xi_judge_52 ?_
        refine gf_Xi_325 E hM wd rfl dd_Xi_judge_55 ?_
        refine mw_V (As := [.int (nI 2), .int (nI n7)]) (rest := []) E (cc_By_sum l D z (M) xb r f k g 2 n7 wb wr hk0 hg (by omega) (by omega)) ky_By_sum kv_By_sum tw_Xi_328 hM hS wb rfl rfl rfl hl.1 rfl (Nat.le_of_ble_eq_true rfl) dd_Xi_judge_58 (by first | decide | exact ⟨by dsimp only; omega, by dsimp only; omega⟩) (by decide) (fun v M1 H locs hp hM hS => ?_)
        obtain ⟨rfl, hq⟩ := hp
        have hq := hq.symm
        subst hq
        refine W.eq (g2 := F0 m 61 ls [.int (nI (by_sm g 2 (n7 - 2)))]) rfl ?_
        have hsl := by_sm_lt g 2 (n7 - 2)
        refine lv_istore_n (lv' := [(1, .int (nI (by_sm g 2 (n7 - 2)))), (0, .ref x)]) hx hb dd_Xi_judge_61 rfl hl (by decide) rfl (fun ls hl => ?_)
        refine lv_aload_n hx hb dd_Xi_judge_62 rfl (lv_at hl 1 rfl) ?_
        refine gf_Xi_50 E hM wx rfl dd_Xi_judge_63 ?_
        refine gf_Xi_331 E hM wd rfl dd_Xi_judge_66 ?_
        refine lv_iload_n hx hb dd_Xi_judge_69 rfl (lv_at hl 0 rfl) ?_
        refine lv_aload_n hx hb dd_Xi_judge_70 rfl (lv_at hl 1 rfl) ?_
        refine gf_Xi_50 E hM wx rfl dd_Xi_judge_71 ?_
        refine gf_Xi_324 E hM wd rfl dd_Xi_judge_74 ?_
        refine mw_S (As := [.int (nI n8), .int (nI (by_sm g 2 (n7 - 2))), .int (nI n4)]) (rest := []) E (cc_Ky_isSignature l D z (M) n8 (by_sm g 2 (n7 - 2)) n4 z8 (by omega) z4) ky_Ky_isSignature kv_Ky_isSignature tw_Xi_334 hM hS rfl hl.1 rfl (Nat.le_of_ble_eq_true rfl) dd_Xi_judge_77 (by first | decide | exact ⟨by dsimp only; omega, by dsimp only; omega⟩) (by decide) (fun v M1 H locs hp hM hS => ?_)
        obtain ⟨b9, rfl, hb9, hq⟩ := hp
        have hq := hq.symm
        subst hq
        cases b9 with
        | false =>
          refine W.eq (g2 := F0 m 80 ls [.int (zI false)]) rfl ?_
          refine lv_if_ne (tgt := 87) hx hb dd_Xi_judge_80 (by decide) (fun h80 => ?_) (fun h80 => ?_)
          ·
            exact absurd rfl h80
          ·
            refine lv_sipush (v := -1007) hx hb dd_Xi_judge_83 (by decide) ?_
            refine mr_i E hr hk hM hS (by decide) (by decide) ?_ dd_Xi_judge_86
            refine ⟨?_, rfl⟩
            rw [hA, if_neg (by rw [hgd]; decide), if_pos (fun q => by cases hb9.2 q)]
        | true =>
          refine W.eq (g2 := F0 m 80 ls [.int (zI true)]) rfl ?_
          refine lv_if_ne (tgt := 87) hx hb dd_Xi_judge_80 (by decide) (fun h80 => ?_) (fun h80 => ?_)
          ·
            refine lv_aload_n hx hb dd_Xi_judge_87 rfl (lv_at hl 1 rfl) ?_
            refine gf_Xi_154 E hM wx rfl dd_Xi_judge_88 ?_
            refine lv_aload_n hx hb dd_Xi_judge_91 rfl (lv_at hl 1 rfl) ?_
            refine gf_Xi_50 E hM wx rfl dd_Xi_judge_92 ?_
            refine gf_Xi_338 E hM wd rfl dd_Xi_judge_95 ?_
            refine lv_icmp_lt (tgt := 115) hx hb dd_Xi_judge_98 (by decide) (fun h98 => ?_) (fun h98 => ?_)
            ·
              rw [nI_ltI (by omega) (by omega)] at h98
              refine lv_sipush (v := -1005) hx hb dd_Xi_judge_115 (by decide) ?_
              refine mr_i E hr hk hM hS (by decide) (by decide) ?_ dd_Xi_judge_118
              refine ⟨?_, rfl⟩
              rw [hA, if_neg (by rw [hgd]; decide), if_neg (fun q => q (hb9.1 rfl)), if_pos (by omega)]
            ·
              rw [nI_ltI (by omega) (by omega)] at h98
              refine lv_aload_n hx hb dd_Xi_judge_101 rfl (lv_at hl 1 rfl) ?_
              refine gf_Xi_154 E hM wx rfl dd_Xi_judge_102 ?_
              refine lv_aload_n hx hb dd_Xi_judge_105 rfl (lv_at hl 1 rfl) ?_
              refine gf_Xi_50 E hM wx rfl dd_Xi_judge_106 ?_
              refine gf_Xi_339 E hM wd rfl dd_Xi_judge_109 ?_
              refine lv_icmp_lt (tgt := 119) hx hb dd_Xi_judge_112 (by decide) (fun h112 => ?_) (fun h112 => ?_)
              ·
                rw [nI_ltI (by omega) (by omega)] at h112
                refine lv_aload_n hx hb dd_Xi_judge_119 rfl (lv_at hl 1 rfl) ?_
                refine gf_Xi_50 E hM wx rfl dd_Xi_judge_120 ?_
                refine gf_Xi_340 E hM wd rfl dd_Xi_judge_123 ?_
                refine mr_i E hr hk hM hS (by decide) (by decide) ?_ dd_Xi_judge_126
                refine ⟨?_, rfl⟩
                rw [hA, if_neg (by rw [hgd]; decide), if_neg (fun q => q (hb9.1 rfl)), if_neg (by omega)]
              ·
                rw [nI_ltI (by omega) (by omega)] at h112
                refine lv_sipush (v := -1005) hx hb dd_Xi_judge_115 (by decide) ?_
                refine mr_i E hr hk hM hS (by decide) (by decide) ?_ dd_Xi_judge_118
                refine ⟨?_, rfl⟩
                rw [hA, if_neg (by rw [hgd]; decide), if_neg (fun q => q (hb9.1 rfl)), if_pos (by omega)]
          ·
            exact absurd h80 (by decide)
      ·
        exact absurd h39 (by decide)
  ·
    have hE : ∃ q : Nat, vf_E g k = some q := by
      cases hE : vf_E g k with
      | none => rw [hE] at h8; exact absurd rfl h8
      | some q => exact ⟨q, rfl⟩
    obtain ⟨q9, hE⟩ := hE
    refine lv_iconst (v := -1) hx hb dd_Xi_judge_11 (by decide) ?_
    refine lv_aload_n hx hb dd_Xi_judge_12 rfl (lv_at hl 0 rfl) ?_
    refine gf_Xi_50 E hM wx rfl dd_Xi_judge_13 ?_
    refine gf_Xi_321 E hM wd rfl dd_Xi_judge_16 ?_
    refine lv_isub hx hb dd_Xi_judge_19 ?_
    refine mw_topi (y := vf_ans g k (fun j => ky_good kc lf gk (nI j) cl) cl) ((show -1 - eN (vf_E g k) = vf_ans g k _ cl by unfold vf_ans; rw [hE]; rfl)) ?_
    refine mr_i E hr hk hM hS (by decide) (by decide) ?_ dd_Xi_judge_20
    exact ⟨rfl, rfl⟩
theorem cl_Elt {g : Nat → Nat} {k be pl : Nat} (h : k ≤ 100) : ∀ q : Nat, cl_E g k be pl = some q → q < 2 ^ 20 := by
  unfold cl_E
  refine eN_or (eN_or ?_ ?_) ?_
  · split
    · exact none_lt
    · exact some_lt (by decide)
  · split
    · exact some_lt (by omega)
    · exact none_lt
  · split
    · exact none_lt
    · exact some_lt (by decide)
theorem or_lt {o a : Option Nat} (h : ∀ q : Nat, o = some q → q < 2 ^ 20) (h2 : o = none → ∀ q : Nat, a = some q → q < 2 ^ 20) : ∀ q : Nat, o.or a = some q → q < 2 ^ 20 := by
  cases o with
  | none => exact h2 rfl
  | some x => exact fun q e => h q e
theorem nr_Ek {g : Nat → Nat} {k p : Nat} (h : nr_E g k p = none) : p + 1 < k ∧ 1 ≤ g (p + 1) ∧ g (p + 1) ≤ 4 := by
  unfold nr_E at h
  have h2 := or_r h
  by_cases hc : p + 1 < k ∧ 1 ≤ g (p + 1) ∧ g (p + 1) ≤ 4
  · exact hc
  · rw [if_neg hc] at h2
    cases h2
theorem id_Ek {g : Nat → Nat} {k p : Nat} (h : id_E g k p = none) : p + 1 < k ∧ g (p + 1) ≤ k - (p + 2) := by
  unfold id_E at h
  have h2 := or_r h
  by_cases hc : p + 1 < k ∧ g (p + 1) ≤ k - (p + 2)
  · exact hc
  · rw [if_neg hc] at h2
    cases h2
theorem vf_Elt {g : Nat → Nat} {k : Nat} (hk : k ≤ 100) (hb : ∀ j : Nat, j < k → g j < 256) : ∀ q : Nat, vf_E g k = some q → q < 2 ^ 20 := by
  have n1 : ∀ p : Nat, p < 2 ^ 18 → nr_E g k p = none → np g p < 1000 := fun p h1 h2 => by have := nr_Ek h2; unfold np; omega
  have n2 : ∀ p : Nat, nr_E g k p = none → p < 2 ^ 18 := fun p h2 => by have := nr_Ek h2; omega
  unfold vf_E vf_14 vf_9
  refine eN_or ?_ (cl_Elt hk)
  refine or_lt (or_lt (or_lt (or_lt (or_lt (or_lt (or_lt (or_lt (or_lt (or_lt (or_lt (or_lt (or_lt (or_lt none_lt ?_) ?_) ?_) ?_) ?_) ?_) ?_) ?_) ?_) ?_) ?_) ?_) ?_) ?_
  · exact fun _ => te_lt (by decide)
  · exact fun _ => ta_lt (by decide)
  · exact fun _ => te_lt (by decide)
  · exact fun _ => ta_lt (by decide)
  · exact fun _ => nr_Elt (show 4 < 2 ^ 19 by decide) hk hb
  · exact fun h => nr_Elt (Nat.lt_trans (n1 _ (show 4 < 2 ^ 18 by decide) (or_r h)) (by decide)) hk hb
  · exact fun h => nr_Elt (Nat.lt_trans (n1 _ (n2 _ (or_r h)) (or_r h)) (by decide)) hk hb
  · exact fun h => nr_Elt (Nat.lt_trans (n1 _ (n2 _ (or_r h)) (or_r h)) (by decide)) hk hb
  · exact fun h => id_Elt (Nat.lt_trans (n1 _ (n2 _ (or_r h)) (or_r h)) (by decide)) hk
  all_goals
    intro h
    have h5 : vf_p g 5 < 1000 := by
      refine Nat.lt_of_le_of_lt (m := k) ?_ (by omega)
      show vf_p g 4 + 2 + g (vf_p g 4 + 1) ≤ k
      first
        | have h6 := id_Ek (or_r h); omega
        | have h6 := id_Ek (or_r (or_l h)); omega
        | have h6 := id_Ek (or_r (or_l (or_l h))); omega
        | have h6 := id_Ek (or_r (or_l (or_l (or_l h)))); omega
        | have h6 := id_Ek (or_r (or_l (or_l (or_l (or_l h))))); omega
    first
      | exact te_lt (by omega)
      | exact nr_Elt (by omega) hk hb
theorem cc_Xi_verify (l : Launch) (D : va_G) (z : Nat) (M : mw_M) (x xb xi xk xe xa xw xl xr xt rn cu : Nat) (fo se : Int32) (cl : Nat) (r : Nat) (f : Nat → Int32) (k : Nat) (g : Nat → Nat) (rk lf kc : Nat) (ac pr : Int32) (fk : Nat → Int32) (gk : Nat → Nat) (b0 : Nat) (pl er v3 v4 v5 v6 v7 v8 : Int32) (wx : M x = some (.inr (0, [.ref xb, .ref xi, .ref xk, .ref xe, .ref xa, .ref xw, .ref xl, .ref xr, .ref xt, .int (fo), .int (nI cl), .int (se), .ref rn, .ref cu]))) (wb : M xb = some (.inr (1, [.ref r, .int (nI k)]))) (wr : M r = some (.inl (D.1 100, 100, .inl f))) (hk0 : k ≤ 100) (hg : ∀ j : Nat, j < k → f j = nI (g j) ∧ g j < 256) (wk : M xk = some (.inr (8, [.int (nI lf), .ref rk, .int (nI kc), .int (ac), .int (pr)]))) (wrk : M rk = some (.inl (D.1 100, 4, .inl fk))) (hgk : ∀ j : Nat, j < 4 → fk j = nI (gk j) ∧ gk j < 2 ^ 20) (hlf : lf < 2 ^ 20) (hkc : kc < 2 ^ 20) (hcl : cl < 2 ^ 20) (wd : M xr = some (.inr (6, [.ref b0, .int (pl), .int (er), .int (v3), .int (v4), .int (v5), .int (v6), .int (v7), .int (v8)]))) : mw_C l yy_Xi_verify bb_Xi_verify 2 (Option.some Jvm.ClassFile.FieldType.int) 8 178 0 0 D z M [.ref x] (fun v M' => v = some (.int (vf_ans g k (fun j => ky_good kc lf gk (nI j) cl) cl)) ∧ (∃ b1 pl1 e1 v3 v4 v5 v6 v7 v8, M' xr = some (.inr (6, [.ref b1, .int pl1, .int e1, .int v3, .int v4, .int v5, .int v6, .int v7, .int v8]))) ∧ M' xb = some (.inr (1, [.ref r, .int (nI 0)])) ∧ mw_fr (fun q => q = xb ∨ q = xr) M M') := by
  refine mw_of (by decide) (Nat.le_of_ble_eq_true rfl) ?_
  intro p e s m below meth c ls E hr hk hnm hM hl
  have hx := E.x
  have hb := E.b
  have E : mw_E p m c bb_Xi_verify 2 s _ D z "IdentityIssuer" := E
  have hl : lv_has ls 2 [(0, .ref x)] := hl
  have hS : va_S (mw_A z) s.heap s.heap [] := va_S.rf
  have hF : mw_fr (fun q => q = xb ∨ q = xr) M M := mw_fr.rf
  refine lv_aload_n hx hb dd_Xi_verify_0 rfl (lv_at hl 0 rfl) ?_
  refine gf_Xi_50 E hM wx rfl dd_Xi_verify_1 ?_
  refine lv_aload_n hx hb dd_Xi_verify_4 rfl (lv_at hl 0 rfl) ?_
  refine gf_Xi_10 E hM wx rfl dd_Xi_verify_5 ?_
  refine mw_V (As := [.ref xb]) (rest := []) E (cc_Rd_read l D z M xb r f k g xr b0 pl er v3 v4 v5 v6 v7 v8 wb wr hk0 hg wd) ky_Rd_read kv_Rd_read tw_Xi_257 hM hS wd rfl rfl rfl hl.1 rfl (Nat.le_of_ble_eq_true rfl) dd_Xi_verify_8 (by first | decide | exact ⟨by dsimp only; omega, by dsimp only; omega⟩) (by decide) (fun v M1 H locs hp hM hS => ?_)
  obtain ⟨rfl, ⟨pl2, w3, w4, w5, w6, w7, w8, wn, hok⟩, hF2⟩ := hp
  have wx := hF2.at wx (mw_ne wx wd (fun q => by cases q))
  have wb := hF2.at wb (mw_ne wb wd (fun q => by cases q))
  have wr := hF2.at wr (mw_ne wr wd (fun q => by cases q))
  have wk := hF2.at wk (mw_ne wk wd (fun q => by cases q))
  have wrk := hF2.at wrk (mw_ne wrk wd (fun q => by cases q))
  have wd := wn
  have hF := hF.trans (hF2.mono (fun q h => Or.inr h))
  refine W.eq (g2 := F0 m 11 ls []) rfl ?_
  refine lv_aload_n hx hb dd_Xi_verify_11 rfl (lv_at hl 0 rfl) ?_
  refine mw_V (As := []) (rest := []) E (cc_Xi_judge l D z M1 x xb xi xk xe xa xw xl xr xt rn cu fo se cl r f k g rk lf kc ac pr fk gk pl2 w3 w4 w5 w6 w7 w8 wx wb wr hk0 hg wk wrk hgk hlf hkc hcl wd hok (vf_Elt hk0 (fun j9 q9 => (hg j9 q9).2))) ky_Xi_judge kv_Xi_judge tw_Xi_261 hM hS wx rfl rfl rfl hl.1 rfl (Nat.le_of_ble_eq_true rfl) dd_Xi_verify_12 (by first | decide | exact ⟨by dsimp only; omega, by dsimp only; omega⟩) (by decide) (fun v M1 H locs hp hM hS => ?_)
  obtain ⟨rfl, hq⟩ := hp
  have hq := hq.symm
  subst hq
  refine W.eq (g2 := F0 m 15 ls [.int (vf_ans g k (fun j => ky_good kc lf gk (nI j) cl) cl)]) rfl ?_
  refine lv_istore_n (lv' := [(1, .int (vf_ans g k (fun j => ky_good kc lf gk (nI j) cl) cl)), (0, .ref x)]) hx hb dd_Xi_verify_15 rfl hl (by decide) rfl (fun ls hl => ?_)
  refine lv_aload_n hx hb dd_Xi_verify_16 rfl (lv_at hl 1 rfl) ?_
  refine gf_Xi_10 E hM wx rfl dd_Xi_verify_17 ?_
  refine mw_V (As := []) (rest := []) E (cc_By_clear l D z M1 xb r f k wb wr hk0) ky_By_clear kv_By_clear tw_Xi_95 hM hS wb rfl rfl rfl hl.1 rfl (Nat.le_of_ble_eq_true rfl) dd_Xi_verify_20 (by first | decide | exact ⟨by dsimp only; omega, by dsimp only; omega⟩) (by decide) (fun v M1 H locs hp hM hS => ?_)
  obtain ⟨rfl, wb2, hF2⟩ := hp
  have wd := hF2.at wd (mw_ne wd wb (fun q => by cases q))
  have hF := hF.trans (hF2.mono (fun q h => Or.inl h))
  refine W.eq (g2 := F0 m 23 ls []) rfl ?_
  refine lv_iload_n hx hb dd_Xi_verify_23 rfl (lv_at hl 0 rfl) ?_
  refine mr_i E hr hk hM hS (by decide) (by decide) ?_ dd_Xi_verify_24
  exact ⟨rfl, ⟨_, _, _, _, _, _, _, _, _, wd⟩, wb2, hF⟩
