/-! the reference: verified, verify -/
theorem v4_t {g : Nat → Nat} {k p3 p13 : Nat} {x4 : Int32} (hw : x4 = if p3 < k then nI (g p3) else -1) (h3 : p3 = 3) (hb9 : p13 < 2 ^ 18) (hbb : ∀ j : Nat, j < k → g j < 256) (h4 : 4 ≤ p13) (h : x4 = nI (p13 - 4)) : 3 < k ∧ g 3 = p13 - 4 := by
  subst h3
  by_cases hk : 3 < k
  · rw [if_pos hk] at hw
    exact ⟨hk, (nI_eq (by have := hbb 3 hk; omega) (by omega)).mp (hw.symm.trans h)⟩
  · rw [if_neg hk] at hw
    exact absurd (hw.symm.trans h) (nI_nm1 (by omega))
theorem v4_f {g : Nat → Nat} {k p3 p13 : Nat} {x4 : Int32} (hw : x4 = if p3 < k then nI (g p3) else -1) (h3 : p3 = 3) (h : ¬ x4 = nI (p13 - 4)) : ¬ (3 < k ∧ g 3 = p13 - 4) := fun q => h (by
  subst h3
  rw [hw, if_pos q.1, q.2])
theorem v2_t {g : Nat → Nat} {k p1 p14 : Nat} {x2 : Int32} (hw : x2 = if p1 < k then nI (g p1) else -1) (h1 : p1 = 1) (hbb : ∀ j : Nat, j < k → g j < 256) (hpe : p14 = k) (h4 : 4 ≤ p14) (hk : k ≤ 100) (h : x2 = nI k - nI 2) : 1 < k ∧ g 1 = p14 - 2 := by
  subst h1
  rw [pk_sub (by omega)] at h
  rw [if_pos (by omega)] at hw
  exact ⟨by omega, by rw [hpe]; exact (nI_eq (by have := hbb 1 (by omega); omega) (by omega)).mp (hw.symm.trans h)⟩
theorem v2_f {g : Nat → Nat} {k p1 p14 : Nat} {x2 : Int32} (hw : x2 = if p1 < k then nI (g p1) else -1) (h1 : p1 = 1) (hpe : p14 = k) (h4 : 4 ≤ p14) (h : ¬ x2 = nI k - nI 2) : ¬ (1 < k ∧ g 1 = p14 - 2) := fun q => h (by
  subst h1
  rw [pk_sub (by omega), hw, if_pos q.1, q.2, hpe])
set_option maxHeartbeats 4000000 in
set_option maxRecDepth 100000 in
theorem cc_Mo_verified (l : Launch) (D : va_G) (z : Nat) (M : mw_M) (mm : Nat) (ra : Nat → Nat) (V : Nat → Int32) (A : Nat → Nat → Int32) (S : Nat → Int64) (k : Nat) (g : Nat → Nat) (lf kc cl : Nat) (ac pr : Int32) (gm : Nat → Nat) (hR : mq_R D M mm ra V A S) (hk0 : k ≤ 100) (hg : ∀ j : Nat, j < k → A 2 j = nI (g j) ∧ g j < 256) (hv3 : V 3 = nI k) (hv0 : V 0 = nI lf) (hv1 : V 1 = nI cl) (hv9 : V 9 = nI kc) (hv11 : V 11 = ac) (hv12 : V 12 = pr) (hgm : ∀ j : Nat, j < kc → A 10 j = nI (gm j) ∧ gm j < 2 ^ 20) (hlf : lf < 2 ^ 20) (hkc : kc ≤ 600) (hcl : cl < 2 ^ 20) : mw_C l yy_Mo_verified bb_Mo_verified 12 (Option.some Jvm.ClassFile.FieldType.int) 5 111 0 0 D z M [.ref mm] (fun v M' => v = some (.int (vf_ans g k (fun j => mo_good kc lf gm (nI j) cl) cl)) ∧ (∃ V2, mq_R D M' mm ra V2 A S ∧ V2 3 = nI k ∧ rv_s V V2) ∧ mw_fr (mq_P mm ra) M M') := by
  refine mw_of (by decide) (Nat.le_of_ble_eq_true rfl) ?_
  intro p e s m below meth c ls E hr hk hnm hM hl
  have hx := E.x
  have hb := E.b
  have E : mw_E p m c bb_Mo_verified 12 s _ D z "IdentityIssuerModel" := E
  have hl : lv_has ls 12 [(0, .ref mm)] := hl
  have hS : va_S (mw_A z) s.heap s.heap [] := va_S.rf
  have hF : mw_fr (mq_P mm ra) M M := mw_fr.rf
  have hbb : ∀ j : Nat, j < k → g j < 256 := fun j q => (hg j q).2
  refine lv_aload_n hx hb dd_Mo_verified_0 rfl (lv_at hl 0 rfl) ?_
  refine lv_iconst (v := nI 0) hx hb dd_Mo_verified_1 (by decide) ?_
  refine pf_Mo_291 E hM hS hR.m (by rw [mo_len]; decide) dd_Mo_verified_2 (fun H locs hM hS => ?_)
  rw [mo_set (by decide), mq_vu rfl] at hM
  obtain ⟨V21, hV21⟩ : ∃ V9 : Nat → Int32, V9 = va_up V 50 (nI 0) := ⟨_, rfl⟩
  rw [← hV21] at hM
  obtain ⟨M1, hM1⟩ : ∃ M9 : mw_M, M9 = va_up M mm (some (.inr (13, mo_l (mq_v ra V21)))) := ⟨_, rfl⟩
  rw [← hM1] at hM
  have hR := hR.setV hM1
  have hF := mw_fu hM1 hF (Or.inl rfl)
  have hv3 := mq_vn hV21 hv3 (by decide)
  have hv50 := mq_vs hV21
  refine lv_aload_n hx hb dd_Mo_verified_5 rfl (lv_at hl 0 rfl) ?_
  refine lv_iconst (v := -1) hx hb dd_Mo_verified_6 (by decide) ?_
  refine pf_Mo_288 E hM hS hR.m (by rw [mo_len]; decide) dd_Mo_verified_7 (fun H locs hM hS => ?_)
  rw [mo_set (by decide), mq_vu rfl] at hM
  obtain ⟨V22, hV22⟩ : ∃ V9 : Nat → Int32, V9 = va_up V21 51 (-1) := ⟨_, rfl⟩
  rw [← hV22] at hM
  obtain ⟨M1, hM1⟩ : ∃ M9 : mw_M, M9 = va_up M1 mm (some (.inr (13, mo_l (mq_v ra V22)))) := ⟨_, rfl⟩
  rw [← hM1] at hM
  have hR := hR.setV hM1
  have hF := mw_fu hM1 hF (Or.inl rfl)
  have hv3 := mq_vn hV22 hv3 (by decide)
  have hv50 := mq_vn hV22 hv50 (by decide)
  have hv51 := mq_vs hV22
  have hrv : rv_s V V22 := fun j a b c9 => by rw [hV22, va_up_ne _ _ b, hV21, va_up_ne _ _ a]
  obtain ⟨e0, hq0⟩ : ∃ o9 : Option Nat, o9 = none := ⟨_, rfl⟩
  have hv51 : V22 51 = eN e0 := by rw [hq0]; exact hv51
  obtain ⟨p0, hp00⟩ : ∃ p99 : Nat, p99 = 0 := ⟨_, rfl⟩
  have hv50 : V22 50 = nI p0 := by rw [hp00]; exact hv50
  have hl0 : ∀ q : Nat, e0 = some q → q < 2 ^ 20 := by rw [hq0]; exact none_lt
  have hp0 : e0 = none → p0 = 0 := fun _ => hp00
  have hn0 : p0 = 0 := hp00
  have hb0 : e0 = none → p0 ≤ k := fun _ => by omega
  refine lv_aload_n hx hb dd_Mo_verified_10 rfl (lv_at hl 0 rfl) ?_
  refine lv_bipush (v := nI 48) hx hb dd_Mo_verified_11 (by decide) ?_
  refine lv_bipush (v := nI 48) hx hb dd_Mo_verified_13 (by decide) ?_
  refine mw_V (As := [.int (nI 48), .int (nI 48)]) (rest := []) E (cc_Mo_in l D z (M1) mm ra V22 A S k g p0 e0 48 48 hR hk0 hg hv3 hv50 hv51 hl0 (by omega) hb0 (by omega) (by omega)) ky_Mo_in kv_Mo_in tw_Mo_297 hM hS hR.m rfl rfl rfl hl.1 rfl (Nat.le_of_ble_eq_true rfl) dd_Mo_verified_15 (by first | decide | exact ⟨by dsimp only; omega, by dsimp only; omega⟩) (by decide) (fun v M1 H locs hp hM hS => ?_)
  obtain ⟨rfl, ⟨V23, hR, hv3, hv50, hv51, hr2⟩, hF2⟩ := hp
  have hF := hF.trans hF2
  have hrv := rv_t hrv hr2
  obtain ⟨e1, he1⟩ : ∃ o9 : Option Nat, o9 = e0.or (ti g k 48 48 p0) := ⟨_, rfl⟩
  rw [← he1] at hv51
  have hl1 : ∀ q : Nat, e1 = some q → q < 2 ^ 20 := by rw [he1]; exact eN_or hl0 (ti_lt (by omega))
  have hq1 : e1 = e0.or (te g k 48 0) := by rw [he1]; exact or_c (fun q => by rw [ti_te, hp0 q])
  have ho1 : e1 = none → e0 = none ∧ te g k 48 0 = none := fun q => ⟨or_l (hq1.symm.trans q), or_r (hq1.symm.trans q)⟩
  have hb1 : e1 = none → p0 + 1 ≤ k := fun q => (ti_N (or_6 he1 q).2).1
  obtain ⟨p1, hpp⟩ : ∃ p99 : Nat, p99 = p0 + 1 := ⟨_, rfl⟩
  rw [← hpp] at hv50 hb1
  have hn1 : p1 = p0 + 1 := hpp
  have hp1 : e1 = none → p1 = 1 := fun q => hpp.trans (congrArg (· + 1) (hp0 (ho1 q).1))
  refine W.eq (g2 := F0 m 18 ls [.int (if p0 < k then nI (g p0) else -1)]) rfl ?_
  refine lv_pop hx hb dd_Mo_verified_18 rfl ?_
  refine lv_aload_n hx hb dd_Mo_verified_19 rfl (lv_at hl 0 rfl) ?_
  refine lv_iconst (v := nI 0) hx hb dd_Mo_verified_20 (by decide) ?_
  refine lv_sipush (v := nI 255) hx hb dd_Mo_verified_21 (by decide) ?_
  refine mw_V (As := [.int (nI 0), .int (nI 255)]) (rest := []) E (cc_Mo_in l D z (M1) mm ra V23 A S k g p1 e1 0 255 hR hk0 hg hv3 hv50 hv51 hl1 (by omega) hb1 (by omega) (by omega)) ky_Mo_in kv_Mo_in tw_Mo_297 hM hS hR.m rfl rfl rfl hl.1 rfl (Nat.le_of_ble_eq_true rfl) dd_Mo_verified_24 (by first | decide | exact ⟨by dsimp only; omega, by dsimp only; omega⟩) (by decide) (fun v M1 H locs hp hM hS => ?_)
  obtain ⟨rfl, ⟨V24, hR, hv3, hv50, hv51, hr2⟩, hF2⟩ := hp
  have hF := hF.trans hF2
  have hrv := rv_t hrv hr2
  obtain ⟨e2, he2⟩ : ∃ o9 : Option Nat, o9 = e1.or (ti g k 0 255 p1) := ⟨_, rfl⟩
  rw [← he2] at hv51
  have hl2 : ∀ q : Nat, e2 = some q → q < 2 ^ 20 := by rw [he2]; exact eN_or hl1 (ti_lt (by omega))
  have hq2 : e2 = e1.or (ta k 1) := by rw [he2]; exact or_c (fun q => by rw [ti_ta hbb, hp1 q])
  have ho2 : e2 = none → e1 = none ∧ ta k 1 = none := fun q => ⟨or_l (hq2.symm.trans q), or_r (hq2.symm.trans q)⟩
  have hb2 : e2 = none → p1 + 1 ≤ k := fun q => (ti_N (or_6 he2 q).2).1
  obtain ⟨p2, hpp⟩ : ∃ p99 : Nat, p99 = p1 + 1 := ⟨_, rfl⟩
  rw [← hpp] at hv50 hb2
  have hn2 : p2 = p1 + 1 := hpp
  have hp2 : e2 = none → p2 = 2 := fun q => hpp.trans (congrArg (· + 1) (hp1 (ho2 q).1))
  obtain ⟨x2, hw2⟩ : ∃ x99 : Int32, x99 = if p1 < k then nI (g p1) else -1 := ⟨_, rfl⟩
  rw [← hw2]
  refine W.eq (g2 := F0 m 27 ls [.int (x2)]) rfl ?_
  refine lv_istore_n (lv' := [(1, .int (x2)), (0, .ref mm)]) hx hb dd_Mo_verified_27 rfl hl (by decide) rfl (fun ls hl => ?_)
  refine lv_aload_n hx hb dd_Mo_verified_28 rfl (lv_at hl 1 rfl) ?_
  refine lv_bipush (v := nI 48) hx hb dd_Mo_verified_29 (by decide) ?_
  refine lv_bipush (v := nI 48) hx hb dd_Mo_verified_31 (by decide) ?_
  refine mw_V (As := [.int (nI 48), .int (nI 48)]) (rest := []) E (cc_Mo_in l D z (M1) mm ra V24 A S k g p2 e2 48 48 hR hk0 hg hv3 hv50 hv51 hl2 (by omega) hb2 (by omega) (by omega)) ky_Mo_in kv_Mo_in tw_Mo_297 hM hS hR.m rfl rfl rfl hl.1 rfl (Nat.le_of_ble_eq_true rfl) dd_Mo_verified_33 (by first | decide | exact ⟨by dsimp only; omega, by dsimp only; omega⟩) (by decide) (fun v M1 H locs hp hM hS => ?_)
  obtain ⟨rfl, ⟨V25, hR, hv3, hv50, hv51, hr2⟩, hF2⟩ := hp
  have hF := hF.trans hF2
  have hrv := rv_t hrv hr2
  obtain ⟨e3, he3⟩ : ∃ o9 : Option Nat, o9 = e2.or (ti g k 48 48 p2) := ⟨_, rfl⟩
  rw [← he3] at hv51
  have hl3 : ∀ q : Nat, e3 = some q → q < 2 ^ 20 := by rw [he3]; exact eN_or hl2 (ti_lt (by omega))
  have hq3 : e3 = e2.or (te g k 48 2) := by rw [he3]; exact or_c (fun q => by rw [ti_te, hp2 q])
  have ho3 : e3 = none → e2 = none ∧ te g k 48 2 = none := fun q => ⟨or_l (hq3.symm.trans q), or_r (hq3.symm.trans q)⟩
  have hb3 : e3 = none → p2 + 1 ≤ k := fun q => (ti_N (or_6 he3 q).2).1
  obtain ⟨p3, hpp⟩ : ∃ p99 : Nat, p99 = p2 + 1 := ⟨_, rfl⟩
  rw [← hpp] at hv50 hb3
  have hn3 : p3 = p2 + 1 := hpp
  have hp3 : e3 = none → p3 = 3 := fun q => hpp.trans (congrArg (· + 1) (hp2 (ho3 q).1))
  refine W.eq (g2 := F0 m 36 ls [.int (if p2 < k then nI (g p2) else -1)]) rfl ?_
  refine lv_pop hx hb dd_Mo_verified_36 rfl ?_
  refine lv_aload_n hx hb dd_Mo_verified_37 rfl (lv_at hl 1 rfl) ?_
  refine lv_iconst (v := nI 0) hx hb dd_Mo_verified_38 (by decide) ?_
  refine lv_sipush (v := nI 255) hx hb dd_Mo_verified_39 (by decide) ?_
  refine mw_V (As := [.int (nI 0), .int (nI 255)]) (rest := []) E (cc_Mo_in l D z (M1) mm ra V25 A S k g p3 e3 0 255 hR hk0 hg hv3 hv50 hv51 hl3 (by omega) hb3 (by omega) (by omega)) ky_Mo_in kv_Mo_in tw_Mo_297 hM hS hR.m rfl rfl rfl hl.1 rfl (Nat.le_of_ble_eq_true rfl) dd_Mo_verified_42 (by first | decide | exact ⟨by dsimp only; omega, by dsimp only; omega⟩) (by decide) (fun v M1 H locs hp hM hS => ?_)
  obtain ⟨rfl, ⟨V26, hR, hv3, hv50, hv51, hr2⟩, hF2⟩ := hp
  have hF := hF.trans hF2
  have hrv := rv_t hrv hr2
  obtain ⟨e4, he4⟩ : ∃ o9 : Option Nat, o9 = e3.or (ti g k 0 255 p3) := ⟨_, rfl⟩
  rw [← he4] at hv51
  have hl4 : ∀ q : Nat, e4 = some q → q < 2 ^ 20 := by rw [he4]; exact eN_or hl3 (ti_lt (by omega))
  have hq4 : e4 = e3.or (ta k 3) := by rw [he4]; exact or_c (fun q => by rw [ti_ta hbb, hp3 q])
  have ho4 : e4 = none → e3 = none ∧ ta k 3 = none := fun q => ⟨or_l (hq4.symm.trans q), or_r (hq4.symm.trans q)⟩
  have hb4 : e4 = none → p3 + 1 ≤ k := fun q => (ti_N (or_6 he4 q).2).1
  obtain ⟨p4, hpp⟩ : ∃ p99 : Nat, p99 = p3 + 1 := ⟨_, rfl⟩
  rw [← hpp] at hv50 hb4
  have hn4 : p4 = p3 + 1 := hpp
  have hp4 : e4 = none → p4 = vf_p g 0 := fun q => hpp.trans (congrArg (· + 1) (hp3 (ho4 q).1))
  obtain ⟨x4, hw4⟩ : ∃ x99 : Int32, x99 = if p3 < k then nI (g p3) else -1 := ⟨_, rfl⟩
  rw [← hw4]
  refine W.eq (g2 := F0 m 45 ls [.int (x4)]) rfl ?_
  refine lv_istore_n (lv' := [(2, .int (x4)), (1, .int (x2)), (0, .ref mm)]) hx hb dd_Mo_verified_45 rfl hl (by decide) rfl (fun ls hl => ?_)
  refine lv_aload_n hx hb dd_Mo_verified_46 rfl (lv_at hl 2 rfl) ?_
  refine mw_V (As := []) (rest := []) E (cc_Mo_inNumber l D z (M1) mm ra V26 A S k g p4 e4 hR hk0 hg hv3 hv50 hv51 hl4 (by omega) hb4) ky_Mo_inNumber kv_Mo_inNumber tw_Mo_300 hM hS hR.m rfl rfl rfl hl.1 rfl (Nat.le_of_ble_eq_true rfl) dd_Mo_verified_47 (by first | decide | exact ⟨by dsimp only; omega, by dsimp only; omega⟩) (by decide) (fun v M1 H locs hp hM hS => ?_)
  obtain ⟨⟨V27, p5, x5, rfl, hR, hv3, hv50, hv51, hr2, hm5, hn5, hx5⟩, hF2⟩ := hp
  have hF := hF.trans hF2
  have hrv := rv_t hrv hr2
  obtain ⟨e5, he5⟩ : ∃ o9 : Option Nat, o9 = e4.or (nr_E g k p4) := ⟨_, rfl⟩
  rw [← he5] at hv51 hx5
  have hl5 : ∀ q : Nat, e5 = some q → q < 2 ^ 20 := by rw [he5]; exact eN_or hl4 (nr_Elt (by omega) hk0 hbb)
  have hq5 : e5 = e4.or (nr_E g k (vf_p g 0)) := by rw [he5]; exact or_c (fun q => by rw [hp4 q])
  have ho5 : e5 = none → e4 = none ∧ nr_E g k (vf_p g 0) = none := fun q => ⟨or_l (hq5.symm.trans q), or_r (hq5.symm.trans q)⟩
  have hm5 := hm5 (by omega)
  have hp5 : e5 = none → p5 = vf_p g 1 := fun q => (hx5 q).1.trans (congrArg (np g) (hp4 (ho5 q).1))
  have hb5 : e5 = none → p5 ≤ k := fun q => (hx5 q).2.1
  have hw5 : e5 = none → x5 = nI (vf_v g (vf_p g 0)) ∧ vf_v g (vf_p g 0) < 2 ^ 31 := fun q => by
    have h9 := (hx5 q).2.2
    rw [hp4 (ho5 q).1] at h9
    exact h9
  refine W.eq (g2 := F0 m 50 ls [.int (x5)]) rfl ?_
  refine lv_istore_n (lv' := [(3, .int (x5)), (2, .int (x4)), (1, .int (x2)), (0, .ref mm)]) hx hb dd_Mo_verified_50 rfl hl (by decide) rfl (fun ls hl => ?_)
  refine lv_aload_n hx hb dd_Mo_verified_51 rfl (lv_at hl 3 rfl) ?_
  refine mw_V (As := []) (rest := []) E (cc_Mo_inNumber l D z (M1) mm ra V27 A S k g p5 e5 hR hk0 hg hv3 hv50 hv51 hl5 (by omega) hb5) ky_Mo_inNumber kv_Mo_inNumber tw_Mo_300 hM hS hR.m rfl rfl rfl hl.1 rfl (Nat.le_of_ble_eq_true rfl) dd_Mo_verified_52 (by first | decide | exact ⟨by dsimp only; omega, by dsimp only; omega⟩) (by decide) (fun v M1 H locs hp hM hS => ?_)
  obtain ⟨⟨V28, p6, x6, rfl, hR, hv3, hv50, hv51, hr2, hm6, hn6, hx6⟩, hF2⟩ := hp
  have hF := hF.trans hF2
  have hrv := rv_t hrv hr2
  obtain ⟨e6, he6⟩ : ∃ o9 : Option Nat, o9 = e5.or (nr_E g k p5) := ⟨_, rfl⟩
  rw [← he6] at hv51 hx6
  have hl6 : ∀ q : Nat, e6 = some q → q < 2 ^ 20 := by rw [he6]; exact eN_or hl5 (nr_Elt (by omega) hk0 hbb)
  have hq6 : e6 = e5.or (nr_E g k (vf_p g 1)) := by rw [he6]; exact or_c (fun q => by rw [hp5 q])
  have ho6 : e6 = none → e5 = none ∧ nr_E g k (vf_p g 1) = none := fun q => ⟨or_l (hq6.symm.trans q), or_r (hq6.symm.trans q)⟩
  have hm6 := hm6 (by omega)
  have hp6 : e6 = none → p6 = vf_p g 2 := fun q => (hx6 q).1.trans (congrArg (np g) (hp5 (ho6 q).1))
  have hb6 : e6 = none → p6 ≤ k := fun q => (hx6 q).2.1
  have hw6 : e6 = none → x6 = nI (vf_v g (vf_p g 1)) ∧ vf_v g (vf_p g 1) < 2 ^ 31 := fun q => by
    have h9 := (hx6 q).2.2
    rw [hp5 (ho6 q).1] at h9
    exact h9
  refine W.eq (g2 := F0 m 55 ls [.int (x6)]) rfl ?_
  refine lv_istore (lv' := [(4, .int (x6)), (3, .int (x5)), (2, .int (x4)), (1, .int (x2)), (0, .ref mm)]) hx hb dd_Mo_verified_55 hl (by decide) rfl (fun ls hl => ?_)
  refine lv_aload_n hx hb dd_Mo_verified_57 rfl (lv_at hl 4 rfl) ?_
  refine mw_V (As := []) (rest := []) E (cc_Mo_inNumber l D z (M1) mm ra V28 A S k g p6 e6 hR hk0 hg hv3 hv50 hv51 hl6 (by omega) hb6) ky_Mo_inNumber kv_Mo_inNumber tw_Mo_300 hM hS hR.m rfl rfl rfl hl.1 rfl (Nat.le_of_ble_eq_true rfl) dd_Mo_verified_58 (by first | decide | exact ⟨by dsimp only; omega, by dsimp only; omega⟩) (by decide) (fun v M1 H locs hp hM hS => ?_)
  obtain ⟨⟨V29, p7, x7, rfl, hR, hv3, hv50, hv51, hr2, hm7, hn7, hx7⟩, hF2⟩ := hp
  have hF := hF.trans hF2
  have hrv := rv_t hrv hr2
  obtain ⟨e7, he7⟩ : ∃ o9 : Option Nat, o9 = e6.or (nr_E g k p6) := ⟨_, rfl⟩
  rw [← he7] at hv51 hx7
  have hl7 : ∀ q : Nat, e7 = some q → q < 2 ^ 20 := by rw [he7]; exact eN_or hl6 (nr_Elt (by omega) hk0 hbb)
  have hq7 : e7 = e6.or (nr_E g k (vf_p g 2)) := by rw [he7]; exact or_c (fun q => by rw [hp6 q])
  have ho7 : e7 = none → e6 = none ∧ nr_E g k (vf_p g 2) = none := fun q => ⟨or_l (hq7.symm.trans q), or_r (hq7.symm.trans q)⟩
  have hm7 := hm7 (by omega)
  have hp7 : e7 = none → p7 = vf_p g 3 := fun q => (hx7 q).1.trans (congrArg (np g) (hp6 (ho7 q).1))
  have hb7 : e7 = none → p7 ≤ k := fun q => (hx7 q).2.1
  have hw7 : e7 = none → x7 = nI (vf_v g (vf_p g 2)) ∧ vf_v g (vf_p g 2) < 2 ^ 31 := fun q => by
    have h9 := (hx7 q).2.2
    rw [hp6 (ho7 q).1] at h9
    exact h9
  refine W.eq (g2 := F0 m 61 ls [.int (x7)]) rfl ?_
  refine lv_istore (lv' := [(5, .int (x7)), (4, .int (x6)), (3, .int (x5)), (2, .int (x4)), (1, .int (x2)), (0, .ref mm)]) hx hb dd_Mo_verified_61 hl (by decide) rfl (fun ls hl => ?_)
  refine lv_aload_n hx hb dd_Mo_verified_63 rfl (lv_at hl 5 rfl) ?_
  refine mw_V (As := []) (rest := []) E (cc_Mo_inNumber l D z (M1) mm ra V29 A S k g p7 e7 hR hk0 hg hv3 hv50 hv51 hl7 (by omega) hb7) ky_Mo_inNumber kv_Mo_inNumber tw_Mo_300 hM hS hR.m rfl rfl rfl hl.1 rfl (Nat.le_of_ble_eq_true rfl) dd_Mo_verified_64 (by first | decide | exact ⟨by dsimp only; omega, by dsimp only; omega⟩) (by decide) (fun v M1 H locs hp hM hS => ?_)
  obtain ⟨⟨V30, p8, x8, rfl, hR, hv3, hv50, hv51, hr2, hm8, hn8, hx8⟩, hF2⟩ := hp
  have hF := hF.trans hF2
  have hrv := rv_t hrv hr2
  obtain ⟨e8, he8⟩ : ∃ o9 : Option Nat, o9 = e7.or (nr_E g k p7) := ⟨_, rfl⟩
  rw [← he8] at hv51 hx8
  have hl8 : ∀ q : Nat, e8 = some q → q < 2 ^ 20 := by rw [he8]; exact eN_or hl7 (nr_Elt (by omega) hk0 hbb)
  have hq8 : e8 = e7.or (nr_E g k (vf_p g 3)) := by rw [he8]; exact or_c (fun q => by rw [hp7 q])
  have ho8 : e8 = none → e7 = none ∧ nr_E g k (vf_p g 3) = none := fun q => ⟨or_l (hq8.symm.trans q), or_r (hq8.symm.trans q)⟩
  have hm8 := hm8 (by omega)
  have hp8 : e8 = none → p8 = vf_p g 4 := fun q => (hx8 q).1.trans (congrArg (np g) (hp7 (ho8 q).1))
  have hb8 : e8 = none → p8 ≤ k := fun q => (hx8 q).2.1
  have hw8 : e8 = none → x8 = nI (vf_v g (vf_p g 3)) ∧ vf_v g (vf_p g 3) < 2 ^ 31 := fun q => by
    have h9 := (hx8 q).2.2
    rw [hp7 (ho8 q).1] at h9
    exact h9
  refine W.eq (g2 := F0 m 67 ls [.int (x8)]) rfl ?_
  refine lv_istore (lv' := [(6, .int (x8)), (5, .int (x7)), (4, .int (x6)), (3, .int (x5)), (2, .int (x4)), (1, .int (x2)), (0, .ref mm)]) hx hb dd_Mo_verified_67 hl (by decide) rfl (fun ls hl => ?_)
  refine lv_aload_n hx hb dd_Mo_verified_69 rfl (lv_at hl 6 rfl) ?_
  refine mw_V (As := []) (rest := []) E (cc_Mo_inId l D z (M1) mm ra V30 A S k g p8 e8 hR hk0 hg hv3 hv50 hv51 hl8 (by omega) hb8) ky_Mo_inId kv_Mo_inId tw_Mo_304 hM hS hR.m rfl rfl rfl hl.1 rfl (Nat.le_of_ble_eq_true rfl) dd_Mo_verified_70 (by first | decide | exact ⟨by dsimp only; omega, by dsimp only; omega⟩) (by decide) (fun v M1 H locs hp hM hS => ?_)
  obtain ⟨⟨V31, p9, rfl, hR, hv3, hv50, hv51, hr2, hm9, hn9, hx9⟩, hF2⟩ := hp
  have hF := hF.trans hF2
  have hrv := rv_t hrv hr2
  obtain ⟨e9, he9⟩ : ∃ o9 : Option Nat, o9 = e8.or (id_E g k p8) := ⟨_, rfl⟩
  rw [← he9] at hv51 hx9
  have hl9 : ∀ q : Nat, e9 = some q → q < 2 ^ 20 := by rw [he9]; exact eN_or hl8 (id_Elt (by omega) hk0)
  have hq9 : e9 = e8.or (id_E g k (vf_p g 4)) := by rw [he9]; exact or_c (fun q => by rw [hp8 q])
  have ho9 : e9 = none → e8 = none ∧ id_E g k (vf_p g 4) = none := fun q => ⟨or_l (hq9.symm.trans q), or_r (hq9.symm.trans q)⟩
  have hm9 := hm9 (by omega)
  have hp9 : e9 = none → p9 = vf_p g 5 := fun q => (hx9 q).1.trans (congrArg (np g) (hp8 (ho9 q).1))
  have hb9 : e9 = none → p9 ≤ k := fun q => (hx9 q).2
  refine W.eq (g2 := F0 m 73 ls []) rfl ?_
  refine lv_aload_n hx hb dd_Mo_verified_73 rfl (lv_at hl 6 rfl) ?_
  refine lv_iconst (v := nI 3) hx hb dd_Mo_verified_74 (by decide) ?_
  refine lv_iconst (v := nI 3) hx hb dd_Mo_verified_75 (by decide) ?_
  refine mw_V (As := [.int (nI 3), .int (nI 3)]) (rest := []) E (cc_Mo_in l D z (M1) mm ra V31 A S k g p9 e9 3 3 hR hk0 hg hv3 hv50 hv51 hl9 (by omega) hb9 (by omega) (by omega)) ky_Mo_in kv_Mo_in tw_Mo_297 hM hS hR.m rfl rfl rfl hl.1 rfl (Nat.le_of_ble_eq_true rfl) dd_Mo_verified_76 (by first | decide | exact ⟨by dsimp only; omega, by dsimp only; omega⟩) (by decide) (fun v M1 H locs hp hM hS => ?_)
  obtain ⟨rfl, ⟨V32, hR, hv3, hv50, hv51, hr2⟩, hF2⟩ := hp
  have hF := hF.trans hF2
  have hrv := rv_t hrv hr2
  obtain ⟨e10, he10⟩ : ∃ o9 : Option Nat, o9 = e9.or (ti g k 3 3 p9) := ⟨_, rfl⟩
  rw [← he10] at hv51
  have hl10 : ∀ q : Nat, e10 = some q → q < 2 ^ 20 := by rw [he10]; exact eN_or hl9 (ti_lt (by omega))
  have hq10 : e10 = e9.or (te g k 3 (vf_p g 5)) := by rw [he10]; exact or_c (fun q => by rw [ti_te, hp9 q])
  have ho10 : e10 = none → e9 = none ∧ te g k 3 (vf_p g 5) = none := fun q => ⟨or_l (hq10.symm.trans q), or_r (hq10.symm.trans q)⟩
  have hb10 : e10 = none → p9 + 1 ≤ k := fun q => (ti_N (or_6 he10 q).2).1
  obtain ⟨p10, hpp⟩ : ∃ p99 : Nat, p99 = p9 + 1 := ⟨_, rfl⟩
  rw [← hpp] at hv50 hb10
  have hn10 : p10 = p9 + 1 := hpp
  have hp10 : e10 = none → p10 = vf_p g 5 + 1 := fun q => hpp.trans (congrArg (· + 1) (hp9 (ho10 q).1))
  refine W.eq (g2 := F0 m 79 ls [.int (if p9 < k then nI (g p9) else -1)]) rfl ?_
  refine lv_pop hx hb dd_Mo_verified_79 rfl ?_
  refine lv_aload_n hx hb dd_Mo_verified_80 rfl (lv_at hl 6 rfl) ?_
  refine lv_iconst (v := nI 2) hx hb dd_Mo_verified_81 (by decide) ?_
  refine lv_iconst (v := nI 2) hx hb dd_Mo_verified_82 (by decide) ?_
  refine mw_V (As := [.int (nI 2), .int (nI 2)]) (rest := []) E (cc_Mo_in l D z (M1) mm ra V32 A S k g p10 e10 2 2 hR hk0 hg hv3 hv50 hv51 hl10 (by omega) hb10 (by omega) (by omega)) ky_Mo_in kv_Mo_in tw_Mo_297 hM hS hR.m rfl rfl rfl hl.1 rfl (Nat.le_of_ble_eq_true rfl) dd_Mo_verified_83 (by first | decide | exact ⟨by dsimp only; omega, by dsimp only; omega⟩) (by decide) (fun v M1 H locs hp hM hS => ?_)
  obtain ⟨rfl, ⟨V33, hR, hv3, hv50, hv51, hr2⟩, hF2⟩ := hp
  have hF := hF.trans hF2
  have hrv := rv_t hrv hr2
  obtain ⟨e11, he11⟩ : ∃ o9 : Option Nat, o9 = e10.or (ti g k 2 2 p10) := ⟨_, rfl⟩
  rw [← he11] at hv51
  have hl11 : ∀ q : Nat, e11 = some q → q < 2 ^ 20 := by rw [he11]; exact eN_or hl10 (ti_lt (by omega))
  have hq11 : e11 = e10.or (te g k 2 (vf_p g 5 + 1)) := by rw [he11]; exact or_c (fun q => by rw [ti_te, hp10 q])
  have ho11 : e11 = none → e10 = none ∧ te g k 2 (vf_p g 5 + 1) = none := fun q => ⟨or_l (hq11.symm.trans q), or_r (hq11.symm.trans q)⟩
  have hb11 : e11 = none → p10 + 1 ≤ k := fun q => (ti_N (or_6 he11 q).2).1
  obtain ⟨p11, hpp⟩ : ∃ p99 : Nat, p99 = p10 + 1 := ⟨_, rfl⟩
  rw [← hpp] at hv50 hb11
  have hn11 : p11 = p10 + 1 := hpp
  have hp11 : e11 = none → p11 = vf_p g 5 + 2 := fun q => hpp.trans (congrArg (· + 1) (hp10 (ho11 q).1))
  refine W.eq (g2 := F0 m 86 ls [.int (if p10 < k then nI (g p10) else -1)]) rfl ?_
  refine lv_pop hx hb dd_Mo_verified_86 rfl ?_
  refine lv_aload_n hx hb dd_Mo_verified_87 rfl (lv_at hl 6 rfl) ?_
  refine lv_bipush (v := nI 7) hx hb dd_Mo_verified_88 (by decide) ?_
  refine lv_bipush (v := nI 7) hx hb dd_Mo_verified_90 (by decide) ?_
  refine mw_V (As := [.int (nI 7), .int (nI 7)]) (rest := []) E (cc_Mo_in l D z (M1) mm ra V33 A S k g p11 e11 7 7 hR hk0 hg hv3 hv50 hv51 hl11 (by omega) hb11 (by omega) (by omega)) ky_Mo_in kv_Mo_in tw_Mo_297 hM hS hR.m rfl rfl rfl hl.1 rfl (Nat.le_of_ble_eq_true rfl) dd_Mo_verified_92 (by first | decide | exact ⟨by dsimp only; omega, by dsimp only; omega⟩) (by decide) (fun v M1 H locs hp hM hS => ?_)
  obtain ⟨rfl, ⟨V34, hR, hv3, hv50, hv51, hr2⟩, hF2⟩ := hp
  have hF := hF.trans hF2
  have hrv := rv_t hrv hr2
  obtain ⟨e12, he12⟩ : ∃ o9 : Option Nat, o9 = e11.or (ti g k 7 7 p11) := ⟨_, rfl⟩
  rw [← he12] at hv51
  have hl12 : ∀ q : Nat, e12 = some q → q < 2 ^ 20 := by rw [he12]; exact eN_or hl11 (ti_lt (by omega))
  have hq12 : e12 = e11.or (te g k 7 (vf_p g 5 + 2)) := by rw [he12]; exact or_c (fun q => by rw [ti_te, hp11 q])
  have ho12 : e12 = none → e11 = none ∧ te g k 7 (vf_p g 5 + 2) = none := fun q => ⟨or_l (hq12.symm.trans q), or_r (hq12.symm.trans q)⟩
  have hb12 : e12 = none → p11 + 1 ≤ k := fun q => (ti_N (or_6 he12 q).2).1
  obtain ⟨p12, hpp⟩ : ∃ p99 : Nat, p99 = p11 + 1 := ⟨_, rfl⟩
  rw [← hpp] at hv50 hb12
  have hn12 : p12 = p11 + 1 := hpp
  have hp12 : e12 = none → p12 = vf_p g 5 + 3 := fun q => hpp.trans (congrArg (· + 1) (hp11 (ho12 q).1))
  refine W.eq (g2 := F0 m 95 ls [.int (if p11 < k then nI (g p11) else -1)]) rfl ?_
  refine lv_pop hx hb dd_Mo_verified_95 rfl ?_
  refine lv_aload_n hx hb dd_Mo_verified_96 rfl (lv_at hl 6 rfl) ?_
  refine lv_sipush (v := nI 128) hx hb dd_Mo_verified_97 (by decide) ?_
  refine lv_sipush (v := nI 128) hx hb dd_Mo_verified_100 (by decide) ?_
  refine mw_V (As := [.int (nI 128), .int (nI 128)]) (rest := []) E (cc_Mo_in l D z (M1) mm ra V34 A S k g p12 e12 128 128 hR hk0 hg hv3 hv50 hv51 hl12 (by omega) hb12 (by omega) (by omega)) ky_Mo_in kv_Mo_in tw_Mo_297 hM hS hR.m rfl rfl rfl hl.1 rfl (Nat.le_of_ble_eq_true rfl) dd_Mo_verified_103 (by first | decide | exact ⟨by dsimp only; omega, by dsimp only; omega⟩) (by decide) (fun v M1 H locs hp hM hS => ?_)
  obtain ⟨rfl, ⟨V35, hR, hv3, hv50, hv51, hr2⟩, hF2⟩ := hp
  have hF := hF.trans hF2
  have hrv := rv_t hrv hr2
  obtain ⟨e13, he13⟩ : ∃ o9 : Option Nat, o9 = e12.or (ti g k 128 128 p12) := ⟨_, rfl⟩
  rw [← he13] at hv51
  have hl13 : ∀ q : Nat, e13 = some q → q < 2 ^ 20 := by rw [he13]; exact eN_or hl12 (ti_lt (by omega))
  have hq13 : e13 = e12.or (te g k 128 (vf_p g 5 + 3)) := by rw [he13]; exact or_c (fun q => by rw [ti_te, hp12 q])
  have ho13 : e13 = none → e12 = none ∧ te g k 128 (vf_p g 5 + 3) = none := fun q => ⟨or_l (hq13.symm.trans q), or_r (hq13.symm.trans q)⟩
  have hb13 : e13 = none → p12 + 1 ≤ k := fun q => (ti_N (or_6 he13 q).2).1
  obtain ⟨p13, hpp⟩ : ∃ p99 : Nat, p99 = p12 + 1 := ⟨_, rfl⟩
  rw [← hpp] at hv50 hb13
  have hn13 : p13 = p12 + 1 := hpp
  have hp13 : e13 = none → p13 = vf_p g 5 + 4 := fun q => hpp.trans (congrArg (· + 1) (hp12 (ho13 q).1))
  refine W.eq (g2 := F0 m 106 ls [.int (if p12 < k then nI (g p12) else -1)]) rfl ?_
  refine lv_pop hx hb dd_Mo_verified_106 rfl ?_
  refine lv_aload_n hx hb dd_Mo_verified_107 rfl (lv_at hl 6 rfl) ?_
  refine gf_Mo_291 E hM hR.m ((mo_at (by decide)).trans (congrArg some (mq_vi rfl hv50))) dd_Mo_verified_108 ?_
  refine lv_istore (lv' := [(7, .int (nI p13)), (6, .int (x8)), (5, .int (x7)), (4, .int (x6)), (3, .int (x5)), (2, .int (x4)), (1, .int (x2)), (0, .ref mm)]) hx hb dd_Mo_verified_111 hl (by decide) rfl (fun ls hl => ?_)
  refine lv_aload_n hx hb dd_Mo_verified_113 rfl (lv_at hl 7 rfl) ?_
  refine mw_V (As := []) (rest := []) E (cc_Mo_inNumber l D z (M1) mm ra V35 A S k g p13 e13 hR hk0 hg hv3 hv50 hv51 hl13 (by omega) hb13) ky_Mo_inNumber kv_Mo_inNumber tw_Mo_300 hM hS hR.m rfl rfl rfl hl.1 rfl (Nat.le_of_ble_eq_true rfl) dd_Mo_verified_114 (by first | decide | exact ⟨by dsimp only; omega, by dsimp only; omega⟩) (by decide) (fun v M1 H locs hp hM hS => ?_)
  obtain ⟨⟨V36, p14, x14, rfl, hR, hv3, hv50, hv51, hr2, hm14, hn14, hx14⟩, hF2⟩ := hp
  have hF := hF.trans hF2
  have hrv := rv_t hrv hr2
  obtain ⟨e14, he14⟩ : ∃ o9 : Option Nat, o9 = e13.or (nr_E g k p13) := ⟨_, rfl⟩
  rw [← he14] at hv51 hx14
  have hl14 : ∀ q : Nat, e14 = some q → q < 2 ^ 20 := by rw [he14]; exact eN_or hl13 (nr_Elt (by omega) hk0 hbb)
  have hq14 : e14 = e13.or (nr_E g k (vf_p g 5 + 4)) := by rw [he14]; exact or_c (fun q => by rw [hp13 q])
  have ho14 : e14 = none → e13 = none ∧ nr_E g k (vf_p g 5 + 4) = none := fun q => ⟨or_l (hq14.symm.trans q), or_r (hq14.symm.trans q)⟩
  have hm14 := hm14 (by omega)
  have hp14 : e14 = none → p14 = np g (vf_p g 5 + 4) := fun q => (hx14 q).1.trans (congrArg (np g) (hp13 (ho14 q).1))
  have hb14 : e14 = none → p14 ≤ k := fun q => (hx14 q).2.1
  have hw14 : e14 = none → x14 = nI (vf_v g (vf_p g 5 + 4)) ∧ vf_v g (vf_p g 5 + 4) < 2 ^ 31 := fun q => by
    have h9 := (hx14 q).2.2
    rw [hp13 (ho14 q).1] at h9
    exact h9
  refine W.eq (g2 := F0 m 117 ls [.int (x14)]) rfl ?_
  refine lv_istore (lv' := [(8, .int (x14)), (7, .int (nI p13)), (6, .int (x8)), (5, .int (x7)), (4, .int (x6)), (3, .int (x5)), (2, .int (x4)), (1, .int (x2)), (0, .ref mm)]) hx hb dd_Mo_verified_117 hl (by decide) rfl (fun ls hl => ?_)
  have h4x : 4 ≤ p13 := by omega
  have join132 : ∀ (y1 : Option Nat) (V3 : Nat → Int32) (M3 : mw_M) (H : Heap) (locs : List Loc) (ls : Array Slot), y1 = e14.or (if 3 < k ∧ g 3 = p13 - 4 then none else some 3) → (∀ q : Nat, y1 = some q → q < 2 ^ 20) → (y1 = none → e14 = none) → mq_R D M3 mm ra V3 A S → V3 3 = nI k → V3 50 = nI p14 → V3 51 = eN y1 → rv_s V V3 → mw_fr (mq_P mm ra) M M3 → mw_at D mg_cl z M3 H → va_S (mw_A z) s.heap H locs → lv_has ls 12 [(8, .int (x14)), (7, .int (nI p13)), (6, .int (x8)), (5, .int (x7)), (4, .int (x6)), (3, .int (x5)), (2, .int (x4)), (1, .int (x2)), (0, .ref mm)] → W p l e ({ frames := 5, cells := 0, slots := 0, locals := 111 } : Room) s m ([.ref mm] : List Value).toArray below meth c H locs (0) (0) (MQ below (mw_Q D z (fun v M' => v = some (.int (vf_ans g k (fun j => mo_good kc lf gm (nI j) cl) cl)) ∧ (∃ V2, mq_R D M' mm ra V2 A S ∧ V2 3 = nI k ∧ rv_s V V2) ∧ mw_fr (mq_P mm ra) M M')) ([.ref mm] : List Value).toArray s 0 0 (mw_A z)) (F0 m 132 ls []) := by
    intro y1 V3 M3 H locs ls hy1 hly1 hy1n hR hv3 hv50 hv51 hrv hF hM hS hl
    have join151 : ∀ (y2 : Option Nat) (V3 : Nat → Int32) (M3 : mw_M) (H : Heap) (locs : List Loc) (ls : Array Slot), y2 = y1.or (if p14 < k then some p14 else none) → (∀ q : Nat, y2 = some q → q < 2 ^ 20) → (y2 = none → e14 = none) → mq_R D M3 mm ra V3 A S → V3 3 = nI k → V3 50 = nI p14 → V3 51 = eN y2 → rv_s V V3 → mw_fr (mq_P mm ra) M M3 → mw_at D mg_cl z M3 H → va_S (mw_A z) s.heap H locs → lv_has ls 12 [(8, .int (x14)), (7, .int (nI p13)), (6, .int (x8)), (5, .int (x7)), (4, .int (x6)), (3, .int (x5)), (2, .int (x4)), (1, .int (x2)), (0, .ref mm)] → W p l e ({ frames := 5, cells := 0, slots := 0, locals := 111 } : Room) s m ([.ref mm] : List Value).toArray below meth c H locs (0) (0) (MQ below (mw_Q D z (fun v M' => v = some (.int (vf_ans g k (fun j => mo_good kc lf gm (nI j) cl) cl)) ∧ (∃ V2, mq_R D M' mm ra V2 A S ∧ V2 3 = nI k ∧ rv_s V V2) ∧ mw_fr (mq_P mm ra) M M')) ([.ref mm] : List Value).toArray s 0 0 (mw_A z)) (F0 m 151 ls []) := by
      intro y2 V3 M3 H locs ls hy2 hly2 hy2n hR hv3 hv50 hv51 hrv hF hM hS hl
      have hpe : y2 = none → p14 = k := fun q => by
        have h1 := hb14 (hy2n q)
        have h2 := (or_6 hy2 q).2
        by_cases h3 : p14 < k
        · rw [if_pos h3] at h2
          cases h2
        · omega
      have join166 : ∀ (y3 : Option Nat) (V3 : Nat → Int32) (M3 : mw_M) (H : Heap) (locs : List Loc) (ls : Array Slot), y3 = y2.or (if 1 < k ∧ g 1 = p14 - 2 then none else some 1) → (∀ q : Nat, y3 = some q → q < 2 ^ 20) → (y3 = none → e14 = none) → mq_R D M3 mm ra V3 A S → V3 3 = nI k → V3 50 = nI p14 → V3 51 = eN y3 → rv_s V V3 → mw_fr (mq_P mm ra) M M3 → mw_at D mg_cl z M3 H → va_S (mw_A z) s.heap H locs → lv_has ls 12 [(8, .int (x14)), (7, .int (nI p13)), (6, .int (x8)), (5, .int (x7)), (4, .int (x6)), (3, .int (x5)), (2, .int (x4)), (1, .int (x2)), (0, .ref mm)] → W p l e ({ frames := 5, cells := 0, slots := 0, locals := 111 } : Room) s m ([.ref mm] : List Value).toArray below meth c H locs (0) (0) (MQ below (mw_Q D z (fun v M' => v = some (.int (vf_ans g k (fun j => mo_good kc lf gm (nI j) cl) cl)) ∧ (∃ V2, mq_R D M' mm ra V2 A S ∧ V2 3 = nI k ∧ rv_s V V2) ∧ mw_fr (mq_P mm ra) M M')) ([.ref mm] : List Value).toArray s 0 0 (mw_A z)) (F0 m 166 ls []) := by
        intro y3 V3 M3 H locs ls hy3 hly3 hy3n hR hv3 hv50 hv51 hrv hF hM hS hl
        have hE : y3 = vf_E g k := by
          have h14 : e14 = vf_14 g k := by
            unfold vf_14 vf_9
            rw [hq14, hq13, hq12, hq11, hq10, hq9, hq8, hq7, hq6, hq5, hq4, hq3, hq2, hq1, hq0]
          unfold vf_E
          rw [← h14]
          have h9 : y3 = e14.or (cl_E g k p13 p14) := by
            rw [hy3, hy2, hy1]
            unfold cl_E
            rw [Option.or_assoc, Option.or_assoc, Option.or_assoc]
          rw [h9]
          exact or_c (fun q => by rw [hp14 q, hp13 (ho14 q).1])
        cases hy : y3 with
        | some q9 =>
          rw [hy] at hv51 hE
          have hl9 := hly3 q9 hy
          have hv51 : V3 51 = nI q9 := hv51
          refine lv_aload_n hx hb dd_Mo_verified_166 rfl (lv_at hl 8 rfl) ?_
          refine gf_Mo_288 E hM hR.m ((mo_at (by decide)).trans (congrArg some (mq_vi rfl hv51))) dd_Mo_verified_167 ?_
          refine lv_if_lt (tgt := 180) hx hb dd_Mo_verified_170 (by decide) (fun h170 => ?_) (fun h170 => ?_)
          ·
            exact absurd h170 (nI_pos (by omega))
          ·
            refine lv_iconst (v := -1) hx hb dd_Mo_verified_173 (by decide) ?_
            refine lv_aload_n hx hb dd_Mo_verified_174 rfl (lv_at hl 8 rfl) ?_
            refine gf_Mo_288 E hM hR.m ((mo_at (by decide)).trans (congrArg some (mq_vi rfl hv51))) dd_Mo_verified_175 ?_
            refine lv_isub hx hb dd_Mo_verified_178 ?_
            refine mr_i E hr hk hM hS (by decide) (by decide) ?_ dd_Mo_verified_179
            refine ⟨?_, ⟨_, hR, hv3, hrv⟩, hF⟩
            unfold vf_ans
            rw [← hE]
        | none =>
          rw [hy] at hv51 hE
          have hv51 : V3 51 = -1 := hv51
          have q14 : e14 = none := hy3n hy
          have q13 := (ho14 q14).1
          have q12 := (ho13 q13).1
          have q11 := (ho12 q12).1
          have q10 := (ho11 q11).1
          have q9 := (ho10 q10).1
          have q8 := (ho9 q9).1
          have q7 := (ho8 q8).1
          have q6 := (ho7 q7).1
          have q5 := (ho6 q6).1
          obtain ⟨n3, hn_3⟩ : ∃ n9 : Nat, n9 = vf_v g (vf_p g 0) := ⟨_, rfl⟩
          obtain ⟨hx_3, hz3⟩ := hw5 q5
          rw [← hn_3] at hx_3 hz3
          subst hx_3
          obtain ⟨n4, hn_4⟩ : ∃ n9 : Nat, n9 = vf_v g (vf_p g 1) := ⟨_, rfl⟩
          obtain ⟨hx_4, hz4⟩ := hw6 q6
          rw [← hn_4] at hx_4 hz4
          subst hx_4
          obtain ⟨n5, hn_5⟩ : ∃ n9 : Nat, n9 = vf_v g (vf_p g 2) := ⟨_, rfl⟩
          obtain ⟨hx_5, hz5⟩ := hw7 q7
          rw [← hn_5] at hx_5 hz5
          subst hx_5
          obtain ⟨n6, hn_6⟩ : ∃ n9 : Nat, n9 = vf_v g (vf_p g 3) := ⟨_, rfl⟩
          obtain ⟨hx_6, hz6⟩ := hw8 q8
          rw [← hn_6] at hx_6 hz6
          subst hx_6
          obtain ⟨n8, hn_8⟩ : ∃ n9 : Nat, n9 = vf_v g (vf_p g 5 + 4) := ⟨_, rfl⟩
          obtain ⟨hx_8, hz8⟩ := hw14 q14
          rw [← hn_8] at hx_8 hz8
          subst hx_8
          have hp13 := hp13 q13
          have hp13k : p13 ≤ k := by have := hb14 q14; have := hb13 q13; omega
          have hA : vf_ans g k (fun j => mo_good kc lf gm (nI j) cl) cl = if mo_good kc lf gm (nI n4) cl = false then -1006 else if ¬ (n8 < sk_m n4 ∧ pw_n (sk_m n4) 31 65537 (n8 % sk_m n4) 1 = by_sm g 2 (p13 - 2)) then -1007 else if cl < n5 ∨ n6 ≤ cl then -1005 else nI n3 := by
            unfold vf_ans
            rw [← hE, hn_3, hn_4, hn_5, hn_6, hn_8, hp13]
          have hv0 := (hrv 0 (by decide) (by decide) (by decide)).trans hv0
          have hv1 := (hrv 1 (by decide) (by decide) (by decide)).trans hv1
          have hv9 := (hrv 9 (by decide) (by decide) (by decide)).trans hv9
          have hv11 := (hrv 11 (by decide) (by decide) (by decide)).trans hv11
          have hv12 := (hrv 12 (by decide) (by decide) (by decide)).trans hv12
          have hmk := sk_lt n4
          refine lv_aload_n hx hb dd_Mo_verified_166 rfl (lv_at hl 8 rfl) ?_
          refine gf_Mo_288 E hM hR.m ((mo_at (by decide)).trans (congrArg some (mq_vi rfl hv51))) dd_Mo_verified_167 ?_
          refine lv_if_lt (tgt := 180) hx hb dd_Mo_verified_170 (by decide) (fun h170 => ?_) (fun h170 => ?_)
          ·
            refine lv_aload_n hx hb dd_Mo_verified_180 rfl (lv_at hl 8 rfl) ?_
            refine lv_iload hx hb dd_Mo_verified_181 (lv_at hl 4 rfl) ?_
            refine mw_V (As := [.int (nI n4)]) (rest := []) E (cc_Mo_isGood l D z (M3) mm (mq_v ra V3) (ra 10) lf kc cl ac pr (A 10) gm (nI n4) hR.m (mq_vi rfl hv0) (mq_vi rfl hv1) (mq_vi rfl hv9) (mq_va rfl) (mq_vi rfl hv11) (mq_vi rfl hv12) (hR.w 10 rfl (by decide)) hgm hlf hkc hcl) ky_Mo_isGood kv_Mo_isGood tw_Mo_198 hM hS hR.m rfl rfl rfl hl.1 rfl (Nat.le_of_ble_eq_true rfl) dd_Mo_verified_183 (by first | decide | exact ⟨by dsimp only; omega, by dsimp only; omega⟩) (by decide) (fun v M1 H locs hp hM hS => ?_)
            obtain ⟨rfl, hq⟩ := hp
            have hq := hq.symm
            subst hq
            refine W.eq (g2 := F0 m 186 ls [.int (zI (mo_good kc lf gm (nI n4) cl))]) rfl ?_
            cases hgd : mo_good kc lf gm (nI n4) cl with
            | false =>
              refine mw_topi (y := zI false) (rfl) ?_
              refine lv_if_ne (tgt := 193) hx hb dd_Mo_verified_186 (by decide) (fun h186 => ?_) (fun h186 => ?_)
              ·
                exact absurd rfl h186
              ·
                refine lv_sipush (v := -1006) hx hb dd_Mo_verified_189 (by decide) ?_
                refine mr_i E hr hk hM hS (by decide) (by decide) ?_ dd_Mo_verified_192
                refine ⟨?_, ⟨_, hR, hv3, hrv⟩, hF⟩
                rw [hA, if_pos hgd]
            | true =>
              refine mw_topi (y := zI true) (rfl) ?_
              refine lv_if_ne (tgt := 193) hx hb dd_Mo_verified_186 (by decide) (fun h186 => ?_) (fun h186 => ?_)
              ·
                refine lv_lconst (v := lN 1) hx hb dd_Mo_verified_193 (by decide) ?_
                refine lv_lstore (lv' := [(9, .long (lN 1)), (8, .int (nI n8)), (7, .int (nI p13)), (6, .int (nI n6)), (5, .int (nI n5)), (4, .int (nI n4)), (3, .int (nI n3)), (2, .int (x4)), (1, .int (x2)), (0, .ref mm)]) hx hb dd_Mo_verified_194 hl (by decide) rfl (fun ls hl => ?_)
                refine lv_iconst (v := nI 2) hx hb dd_Mo_verified_196 (by decide) ?_
                refine lv_istore (lv' := [(11, .int (nI 2)), (9, .long (lN 1)), (8, .int (nI n8)), (7, .int (nI p13)), (6, .int (nI n6)), (5, .int (nI n5)), (4, .int (nI n4)), (3, .int (nI n3)), (2, .int (x4)), (1, .int (x2)), (0, .ref mm)]) hx hb dd_Mo_verified_197 hl (by decide) rfl (fun ls hl => ?_)
                have loop199 : ∀ (c9 : Nat) (q h0 : Nat) (H : Heap) (locs : List Loc) (ls : Array Slot), 2 ≤ q → q + c9 = p13 → h0 = by_sm g 2 (q - 2) → mw_at D mg_cl z M3 H → va_S (mw_A z) s.heap H locs → lv_has ls 12 [(11, .int (nI q)), (9, .long (lN h0)), (8, .int (nI n8)), (7, .int (nI p13)), (6, .int (nI n6)), (5, .int (nI n5)), (4, .int (nI n4)), (3, .int (nI n3)), (0, .ref mm)] → W p l e ({ frames := 5, cells := 0, slots := 0, locals := 111 } : Room) s m ([.ref mm] : List Value).toArray below meth c H locs (0) (0) (MQ below (mw_Q D z (fun v M' => v = some (.int (vf_ans g k (fun j => mo_good kc lf gm (nI j) cl) cl)) ∧ (∃ V2, mq_R D M' mm ra V2 A S ∧ V2 3 = nI k ∧ rv_s V V2) ∧ mw_fr (mq_P mm ra) M M')) ([.ref mm] : List Value).toArray s 0 0 (mw_A z)) (F0 m 199 ls []) := by
                  intro c9
                  induction c9 with
                  | zero =>
                    intro q h0 H locs ls hq2 hqn hh0 hM hS hl
                    have hhb : h0 < 1000000007 := by rw [hh0]; exact by_sm_lt _ _ _
                    refine lv_iload hx hb dd_Mo_verified_199 (lv_at hl 0 rfl) ?_
                    refine lv_iload hx hb dd_Mo_verified_201 (lv_at hl 3 rfl) ?_
                    refine lv_icmp_ge (tgt := 226) hx hb dd_Mo_verified_203 (by decide) (fun h203 => ?_) (fun h203 => ?_)
                    ·
                      rw [nI_leI (by omega) (by omega)] at h203
                      have hh0 : h0 = by_sm g 2 (p13 - 2) := by rw [hh0, show q = p13 by omega]
                      refine lv_iload hx hb dd_Mo_verified_226 (lv_at hl 2 rfl) ?_
                      refine lv_i2l (v := lN n8) hx hb dd_Mo_verified_228 (nI_l (by omega)) ?_
                      refine lv_iload hx hb dd_Mo_verified_229 (lv_at hl 6 rfl) ?_
                      refine mw_S (As := [.int (nI n4)]) (rest := [.long (lN n8)]) E (cc_Mo_modulus l D z (M3) n4 hz4) ky_Mo_modulus kv_Mo_modulus tw_Mo_252 hM hS rfl hl.1 rfl (Nat.le_of_ble_eq_true rfl) dd_Mo_verified_231 (by first | decide | exact ⟨by dsimp only; omega, by dsimp only; omega⟩) (by decide) (fun v M1 H locs hp hM hS => ?_)
                      obtain ⟨rfl, hq⟩ := hp
                      have hq := hq.symm
                      subst hq
                      refine W.eq (g2 := F0 m 234 ls [.long (lN (sk_m n4)), .long (lN n8)]) rfl ?_
                      refine mw_lcmp (v := lc n8 (sk_m n4)) hx hb (lc_n (by omega) (by omega)) dd_Mo_verified_234 ?_
                      refine lv_if_ge (tgt := 258) hx hb dd_Mo_verified_235 (by decide) (fun h235 => ?_) (fun h235 => ?_)
                      ·
                        refine lv_sipush (v := -1007) hx hb dd_Mo_verified_258 (by decide) ?_
                        refine mr_i E hr hk hM hS (by decide) (by decide) ?_ dd_Mo_verified_261
                        refine ⟨?_, ⟨_, hR, hv3, hrv⟩, hF⟩
                        rw [hA, if_neg (by rw [hgd]; decide), if_pos (fun q => absurd q.1 (by have := lc_ge.mp h235; omega))]
                      ·
                        refine lv_iload hx hb dd_Mo_verified_238 (lv_at hl 2 rfl) ?_
                        refine lv_i2l (v := lN n8) hx hb dd_Mo_verified_240 (nI_l (by omega)) ?_
                        refine lv_ldc2 (v := 65537) hx hb E.o (E.t _ tw_Mo_255) dd_Mo_verified_241 ?_
                        refine mw_topl (y := lN 65537) (by decide) ?_
                        refine mw_topl (y := lN 65537) (by decide) ?_
                        refine lv_iload hx hb dd_Mo_verified_244 (lv_at hl 6 rfl) ?_
                        refine mw_S (As := [.int (nI n4)]) (rest := [.long (lN 65537), .long (lN n8)]) E (cc_Mo_modulus l D z (M3) n4 hz4) ky_Mo_modulus kv_Mo_modulus tw_Mo_252 hM hS rfl hl.1 rfl (Nat.le_of_ble_eq_true rfl) dd_Mo_verified_246 (by first | decide | exact ⟨by dsimp only; omega, by dsimp only; omega⟩) (by decide) (fun v M1 H locs hp hM hS => ?_)
                        obtain ⟨rfl, hq⟩ := hp
                        have hq := hq.symm
                        subst hq
                        refine W.eq (g2 := F0 m 249 ls [.long (lN (sk_m n4)), .long (lN 65537), .long (lN n8)]) rfl ?_
                        refine mw_S (As := [.long (lN n8), .long (lN 65537), .long (lN (sk_m n4))]) (rest := []) E (cc_Mo_power l D z (M3) n8 65537 (sk_m n4) (by omega) (by decide) (by omega) (by omega)) ky_Mo_power kv_Mo_power tw_Mo_281 hM hS rfl hl.1 rfl (Nat.le_of_ble_eq_true rfl) dd_Mo_verified_249 (by first | decide | exact ⟨by dsimp only; omega, by dsimp only; omega⟩) (by decide) (fun v M1 H locs hp hM hS => ?_)
                        obtain ⟨rfl, hq⟩ := hp
                        have hq := hq.symm
                        subst hq
                        refine W.eq (g2 := F0 m 252 ls [.long (lN (pw_n (sk_m n4) 31 65537 (n8 % sk_m n4) 1))]) rfl ?_
                        have hpl := pw_lt (show 1 < sk_m n4 by omega) 31 65537 (n8 % sk_m n4) 1 (by omega)
                        refine lv_lload hx hb dd_Mo_verified_252 (lv_at hl 1 rfl) ?_
                        refine mw_lcmp (v := lc (pw_n (sk_m n4) 31 65537 (n8 % sk_m n4) 1) h0) hx hb (lc_n (by omega) (by omega)) dd_Mo_verified_254 ?_
                        refine lv_if_eq (tgt := 262) hx hb dd_Mo_verified_255 (by decide) (fun h255 => ?_) (fun h255 => ?_)
                        ·
                          refine lv_aload_n hx hb dd_Mo_verified_262 rfl (lv_at hl 8 rfl) ?_
                          refine gf_Mo_180 E hM hR.m ((mo_at (by decide)).trans (congrArg some (mq_vi rfl hv1))) dd_Mo_verified_263 ?_
                          refine lv_iload hx hb dd_Mo_verified_266 (lv_at hl 5 rfl) ?_
                          refine lv_icmp_lt (tgt := 280) hx hb dd_Mo_verified_268 (by decide) (fun h268 => ?_) (fun h268 => ?_)
                          ·
                            rw [nI_ltI (by omega) (by omega)] at h268
                            refine lv_sipush (v := -1005) hx hb dd_Mo_verified_280 (by decide) ?_
                            refine lv_goto (tgt := 287) hx hb dd_Mo_verified_283 (by decide) ?_
                            refine mr_i E hr hk hM hS (by decide) (by decide) ?_ dd_Mo_verified_287
                            refine ⟨?_, ⟨_, hR, hv3, hrv⟩, hF⟩
                            rw [hA, if_neg (by rw [hgd]; decide), if_neg (fun q => q ⟨Nat.lt_of_not_le (fun q => h235 (lc_ge.mpr q)), by rw [← hh0]; exact lc_eq.mp h255⟩), if_pos (by omega)]
                          ·
                            rw [nI_ltI (by omega) (by omega)] at h268
                            refine lv_aload_n hx hb dd_Mo_verified_271 rfl (lv_at hl 8 rfl) ?_
                            refine gf_Mo_180 E hM hR.m ((mo_at (by decide)).trans (congrArg some (mq_vi rfl hv1))) dd_Mo_verified_272 ?_
                            refine lv_iload hx hb dd_Mo_verified_275 (lv_at hl 4 rfl) ?_
                            refine lv_icmp_lt (tgt := 286) hx hb dd_Mo_verified_277 (by decide) (fun h277 => ?_) (fun h277 => ?_)
                            ·
                              rw [nI_ltI (by omega) (by omega)] at h277
                              refine lv_iload_n hx hb dd_Mo_verified_286 rfl (lv_at hl 7 rfl) ?_
                              refine mr_i E hr hk hM hS (by decide) (by decide) ?_ dd_Mo_verified_287
                              refine ⟨?_, ⟨_, hR, hv3, hrv⟩, hF⟩
                              rw [hA, if_neg (by rw [hgd]; decide), if_neg (fun q => q ⟨Nat.lt_of_not_le (fun q => h235 (lc_ge.mpr q)), by rw [← hh0]; exact lc_eq.mp h255⟩), if_neg (by omega)]
                            ·
                              rw [nI_ltI (by omega) (by omega)] at h277
                              refine lv_sipush (v := -1005) hx hb dd_Mo_verified_280 (by decide) ?_
                              refine lv_goto (tgt := 287) hx hb dd_Mo_verified_283 (by decide) ?_
                              refine mr_i E hr hk hM hS (by decide) (by decide) ?_ dd_Mo_verified_287
                              refine ⟨?_, ⟨_, hR, hv3, hrv⟩, hF⟩
                              rw [hA, if_neg (by rw [hgd]; decide), if_neg (fun q => q ⟨Nat.lt_of_not_le (fun q => h235 (lc_ge.mpr q)), by rw [← hh0]; exact lc_eq.mp h255⟩), if_pos (by omega)]
                        ·
                          refine lv_sipush (v := -1007) hx hb dd_Mo_verified_258 (by decide) ?_
                          refine mr_i E hr hk hM hS (by decide) (by decide) ?_ dd_Mo_verified_261
                          refine ⟨?_, ⟨_, hR, hv3, hrv⟩, hF⟩
                          rw [hA, if_neg (by rw [hgd]; decide), if_pos (fun q => h255 (lc_eq.mpr (by rw [hh0]; exact q.2)))]
                    ·
                      rw [nI_leI (by omega) (by omega)] at h203
                      omega
                  | succ c9 ih5 =>
                    intro q h0 H locs ls hq2 hqn hh0 hM hS hl
                    have hhb : h0 < 1000000007 := by rw [hh0]; exact by_sm_lt _ _ _
                    refine lv_iload hx hb dd_Mo_verified_199 (lv_at hl 0 rfl) ?_
                    refine lv_iload hx hb dd_Mo_verified_201 (lv_at hl 3 rfl) ?_
                    refine lv_icmp_ge (tgt := 226) hx hb dd_Mo_verified_203 (by decide) (fun h203 => ?_) (fun h203 => ?_)
                    ·
                      rw [nI_leI (by omega) (by omega)] at h203
                      omega
                    ·
                      rw [nI_leI (by omega) (by omega)] at h203
                      refine lv_lload hx hb dd_Mo_verified_206 (lv_at hl 1 rfl) ?_
                      refine lv_aload_n hx hb dd_Mo_verified_208 rfl (lv_at hl 8 rfl) ?_
                      refine gf_Mo_7 E hM hR.m ((mo_at (by decide)).trans (congrArg some (mq_va rfl))) dd_Mo_verified_209 ?_
                      have w2 : M3 (ra 2) = some (.inl (D.1 100, 100, .inl (A 2))) := hR.w 2 rfl (by decide)
                      refine lv_iload hx hb dd_Mo_verified_212 (lv_at hl 0 rfl) ?_
                      refine mw_iald hx hb E.K hM 0 w2 rfl (vp_in_nI (by omega) (by omega)) dd_Mo_verified_214 ?_
                      refine mw_topi (y := (A 2) q) (by rw [nI_clamp (by omega)]) ?_
                      refine mw_topi (y := nI (g q)) ((hg q (by omega)).1) ?_
                      have hb256 := hbb q (by omega)
                      refine mw_S (As := [.long (lN h0), .int (nI (g q))]) (rest := []) E (cc_Mo_mix l D z (M3) h0 (g q) hhb hb256) ky_Mo_mix kv_Mo_mix tw_Mo_274 hM hS rfl hl.1 rfl (Nat.le_of_ble_eq_true rfl) dd_Mo_verified_215 (by first | decide | exact ⟨by dsimp only; omega, by dsimp only; omega⟩) (by decide) (fun v M1 H locs hp hM hS => ?_)
                      obtain ⟨rfl, hq⟩ := hp
                      have hq := hq.symm
                      subst hq
                      refine W.eq (g2 := F0 m 218 ls [.long (lN ((h0 * 257 + g q + 1) % 1000000007))]) rfl ?_
                      refine lv_lstore (lv' := [(9, .long (lN ((h0 * 257 + g q + 1) % 1000000007))), (11, .int (nI q)), (8, .int (nI n8)), (7, .int (nI p13)), (6, .int (nI n6)), (5, .int (nI n5)), (4, .int (nI n4)), (3, .int (nI n3)), (0, .ref mm)]) hx hb dd_Mo_verified_218 hl (by decide) rfl (fun ls hl => ?_)
                      refine lv_iinc (k := 1) (v := nI (q + 1)) (lv' := [(11, .int (nI (q + 1))), (9, .long (lN ((h0 * 257 + g q + 1) % 1000000007))), (8, .int (nI n8)), (7, .int (nI p13)), (6, .int (nI n6)), (5, .int (nI n5)), (4, .int (nI n4)), (3, .int (nI n3)), (0, .ref mm)]) hx hb dd_Mo_verified_220 hl rfl (nI_1 _) (by decide) rfl (fun ls hl => ?_)
                      refine lv_goto (tgt := 199) hx hb dd_Mo_verified_223 (by decide) ?_
                      exact ih5 (q + 1) _ H locs ls (by omega) (by omega) (by rw [show q + 1 - 2 = (q - 2) + 1 by omega]; show _ = (by_sm g 2 (q - 2) * 257 + g (2 + (q - 2)) + 1) % 1000000007; rw [← hh0, show 2 + (q - 2) = q by omega]) hM hS (lv_sub hl [0, 1, 2, 3, 4, 5, 6, 7, 8] rfl)
                exact loop199 (p13 - 2) 2 1 H locs ls (by omega) (by omega) rfl hM hS (lv_sub hl [0, 1, 2, 3, 4, 5, 6, 7, 10] rfl)
              ·
                exact absurd h186 (by decide)
          ·
            exact absurd (by decide) h170
      refine lv_iload_n hx hb dd_Mo_verified_151 rfl (lv_at hl 7 rfl) ?_
      refine lv_aload_n hx hb dd_Mo_verified_152 rfl (lv_at hl 8 rfl) ?_
      refine gf_Mo_122 E hM hR.m ((mo_at (by decide)).trans (congrArg some (mq_vi rfl hv3))) dd_Mo_verified_153 ?_
      refine lv_iconst (v := nI 2) hx hb dd_Mo_verified_156 (by decide) ?_
      refine lv_isub hx hb dd_Mo_verified_157 ?_
      refine lv_icmp_eq (tgt := 166) hx hb dd_Mo_verified_158 (by decide) (fun h158 => ?_) (fun h158 => ?_)
      ·
        exact join166 y2 _ _ H locs ls ((Option.or_none.symm.trans (or_c (fun q => (if_pos (v2_t hw2 (by omega) hbb (hpe q) (by omega) hk0 h158)).symm)))) hly2 (hy2n) hR hv3 hv50 hv51 hrv hF hM hS (lv_sub hl [0, 1, 2, 3, 4, 5, 6, 7, 8] rfl)
      ·
        refine lv_aload_n hx hb dd_Mo_verified_161 rfl (lv_at hl 8 rfl) ?_
        refine lv_iconst (v := nI 1) hx hb dd_Mo_verified_162 (by decide) ?_
        refine mw_V (As := [.int (nI 1)]) (rest := []) E (cc_Mo_error l D z (M3) mm ra V3 A S k g (p14) y2 (1) hR hk0 hg hv3 hv50 hv51 hly2 (by omega) ((fun q => hb14 (hy2n q))) (fun q => by have := hpe q; omega) (by omega)) ky_Mo_error kv_Mo_error tw_Mo_294 hM hS hR.m rfl rfl rfl hl.1 rfl (Nat.le_of_ble_eq_true rfl) dd_Mo_verified_163 (by first | decide | exact ⟨by dsimp only; omega, by dsimp only; omega⟩) (by decide) (fun v M1 H locs hp hM hS => ?_)
        obtain ⟨rfl, ⟨V37, hR, hv3, hv50, hv51, hr2⟩, hF2⟩ := hp
        have hF := hF.trans hF2
        have hrv := rv_t hrv hr2
        obtain ⟨eo1, heo1⟩ : ∃ o9 : Option Nat, o9 = y2.or (some (1)) := ⟨_, rfl⟩
        rw [← heo1] at hv51
        have hleo1 : ∀ q : Nat, eo1 = some q → q < 2 ^ 20 := by rw [heo1]; exact eN_or hly2 (some_lt (by omega))
        refine W.eq (g2 := F0 m 166 ls []) rfl ?_
        exact join166 (y2.or (some (1))) _ _ H locs ls (or_c (fun q => (if_neg (v2_f hw2 (by omega) (hpe q) (by omega) h158)).symm)) (eN_or hly2 (some_lt (by omega))) (fun q => absurd (or_r q) (by intro q; cases q)) hR hv3 hv50 (by rw [heo1] at hv51; exact hv51) hrv hF hM hS (lv_sub hl [0, 1, 2, 3, 4, 5, 6, 7, 8] rfl)
    refine lv_aload_n hx hb dd_Mo_verified_132 rfl (lv_at hl 8 rfl) ?_
    refine gf_Mo_291 E hM hR.m ((mo_at (by decide)).trans (congrArg some (mq_vi rfl hv50))) dd_Mo_verified_133 ?_
    refine lv_aload_n hx hb dd_Mo_verified_136 rfl (lv_at hl 8 rfl) ?_
    refine gf_Mo_122 E hM hR.m ((mo_at (by decide)).trans (congrArg some (mq_vi rfl hv3))) dd_Mo_verified_137 ?_
    refine lv_icmp_ge (tgt := 151) hx hb dd_Mo_verified_140 (by decide) (fun h140 => ?_) (fun h140 => ?_)
    ·
      rw [nI_leI (by omega) (by omega)] at h140
      exact join151 y1 _ _ H locs ls (by rw [if_neg (by omega), Option.or_none]) hly1 (hy1n) hR hv3 hv50 hv51 hrv hF hM hS (lv_sub hl [0, 1, 2, 3, 4, 5, 6, 7, 8] rfl)
    ·
      rw [nI_leI (by omega) (by omega)] at h140
      refine lv_aload_n hx hb dd_Mo_verified_143 rfl (lv_at hl 8 rfl) ?_
      refine lv_aload_n hx hb dd_Mo_verified_144 rfl (lv_at hl 8 rfl) ?_
      refine gf_Mo_291 E hM hR.m ((mo_at (by decide)).trans (congrArg some (mq_vi rfl hv50))) dd_Mo_verified_145 ?_
      refine mw_V (As := [.int (nI p14)]) (rest := []) E (cc_Mo_error l D z (M3) mm ra V3 A S k g (p14) y1 (p14) hR hk0 hg hv3 hv50 hv51 hly1 (by omega) ((fun q => hb14 (hy1n q))) (fun _ => by omega) (by omega)) ky_Mo_error kv_Mo_error tw_Mo_294 hM hS hR.m rfl rfl rfl hl.1 rfl (Nat.le_of_ble_eq_true rfl) dd_Mo_verified_148 (by first | decide | exact ⟨by dsimp only; omega, by dsimp only; omega⟩) (by decide) (fun v M1 H locs hp hM hS => ?_)
      obtain ⟨rfl, ⟨V38, hR, hv3, hv50, hv51, hr2⟩, hF2⟩ := hp
      have hF := hF.trans hF2
      have hrv := rv_t hrv hr2
      obtain ⟨eo2, heo2⟩ : ∃ o9 : Option Nat, o9 = y1.or (some (p14)) := ⟨_, rfl⟩
      rw [← heo2] at hv51
      have hleo2 : ∀ q : Nat, eo2 = some q → q < 2 ^ 20 := by rw [heo2]; exact eN_or hly1 (some_lt (by omega))
      refine W.eq (g2 := F0 m 151 ls []) rfl ?_
      exact join151 (y1.or (some (p14))) _ _ H locs ls (by rw [if_pos (by omega)]) (eN_or hly1 (some_lt (by omega))) (fun q => absurd (or_r q) (by intro q; cases q)) hR hv3 hv50 (by rw [heo2] at hv51; exact hv51) hrv hF hM hS (lv_sub hl [0, 1, 2, 3, 4, 5, 6, 7, 8] rfl)
  refine lv_iload_n hx hb dd_Mo_verified_119 rfl (lv_at hl 6 rfl) ?_
  refine lv_iload hx hb dd_Mo_verified_120 (lv_at hl 1 rfl) ?_
  refine lv_iconst (v := nI 4) hx hb dd_Mo_verified_122 (by decide) ?_
  refine lv_isub hx hb dd_Mo_verified_123 ?_
  refine mw_topi (y := nI (p13 - 4)) (pk_sub (by omega)) ?_
  refine lv_icmp_eq (tgt := 132) hx hb dd_Mo_verified_124 (by decide) (fun h124 => ?_) (fun h124 => ?_)
  ·
    exact join132 e14 _ _ H locs ls (by rw [if_pos (v4_t hw4 (by omega) (by omega) hbb (by omega) h124), Option.or_none]) hl14 (fun q => q) hR hv3 hv50 hv51 hrv hF hM hS (lv_sub hl [0, 1, 2, 3, 4, 5, 6, 7, 8] rfl)
  ·
    refine lv_aload_n hx hb dd_Mo_verified_127 rfl (lv_at hl 8 rfl) ?_
    refine lv_iconst (v := nI 3) hx hb dd_Mo_verified_128 (by decide) ?_
    refine mw_V (As := [.int (nI 3)]) (rest := []) E (cc_Mo_error l D z (M1) mm ra V36 A S k g (p14) e14 (3) hR hk0 hg hv3 hv50 hv51 hl14 (by omega) hb14 (fun q => by have := hb14 q; omega) (by omega)) ky_Mo_error kv_Mo_error tw_Mo_294 hM hS hR.m rfl rfl rfl hl.1 rfl (Nat.le_of_ble_eq_true rfl) dd_Mo_verified_129 (by first | decide | exact ⟨by dsimp only; omega, by dsimp only; omega⟩) (by decide) (fun v M1 H locs hp hM hS => ?_)
    obtain ⟨rfl, ⟨V39, hR, hv3, hv50, hv51, hr2⟩, hF2⟩ := hp
    have hF := hF.trans hF2
    have hrv := rv_t hrv hr2
    obtain ⟨eo1, heo1⟩ : ∃ o9 : Option Nat, o9 = e14.or (some (3)) := ⟨_, rfl⟩
    rw [← heo1] at hv51
    have hleo1 : ∀ q : Nat, eo1 = some q → q < 2 ^ 20 := by rw [heo1]; exact eN_or hl14 (some_lt (by omega))
    refine W.eq (g2 := F0 m 132 ls []) rfl ?_
    exact join132 (e14.or (some (3))) _ _ H locs ls (by rw [if_neg (v4_f hw4 (by omega) h124)]) (eN_or hl14 (some_lt (by omega))) (fun q => absurd (or_r q) (by intro q; cases q)) hR hv3 hv50 (by rw [heo1] at hv51; exact hv51) hrv hF hM hS (lv_sub hl [0, 1, 2, 3, 4, 5, 6, 7, 8] rfl)
theorem cc_Mo_verify (l : Launch) (D : va_G) (z : Nat) (M : mw_M) (mm : Nat) (ra : Nat → Nat) (V : Nat → Int32) (A : Nat → Nat → Int32) (S : Nat → Int64) (k : Nat) (g : Nat → Nat) (lf kc cl : Nat) (ac pr : Int32) (gm : Nat → Nat) (hR : mq_R D M mm ra V A S) (hk0 : k ≤ 100) (hg : ∀ j : Nat, j < k → A 2 j = nI (g j) ∧ g j < 256) (hv3 : V 3 = nI k) (hv0 : V 0 = nI lf) (hv1 : V 1 = nI cl) (hv9 : V 9 = nI kc) (hv11 : V 11 = ac) (hv12 : V 12 = pr) (hgm : ∀ j : Nat, j < kc → A 10 j = nI (gm j) ∧ gm j < 2 ^ 20) (hlf : lf < 2 ^ 20) (hkc : kc ≤ 600) (hcl : cl < 2 ^ 20) : mw_C l yy_Mo_verify bb_Mo_verify 2 (Option.some Jvm.ClassFile.FieldType.int) 6 142 0 0 D z M [.ref mm] (fun v M' => v = some (.int (vf_ans g k (fun j => mo_good kc lf gm (nI j) cl) cl)) ∧ (∃ V2, mq_R D M' mm ra V2 A S ∧ V2 3 = nI 0 ∧ (∀ j : Nat, j ≠ 3 → j ≠ 50 → j ≠ 51 → j ≠ 8 → V2 j = V j)) ∧ mw_fr (mq_P mm ra) M M') := by
  refine mw_of (by decide) (Nat.le_of_ble_eq_true rfl) ?_
  intro p e s m below meth c ls E hr hk hnm hM hl
  have hx := E.x
  have hb := E.b
  have E : mw_E p m c bb_Mo_verify 2 s _ D z "IdentityIssuerModel" := E
  have hl : lv_has ls 2 [(0, .ref mm)] := hl
  have hS : va_S (mw_A z) s.heap s.heap [] := va_S.rf
  have hF : mw_fr (mq_P mm ra) M M := mw_fr.rf
  refine lv_aload_n hx hb dd_Mo_verify_0 rfl (lv_at hl 0 rfl) ?_
  refine mw_V (As := []) (rest := []) E (cc_Mo_verified l D z (M) mm ra V A S k g lf kc cl ac pr gm hR hk0 hg hv3 hv0 hv1 hv9 hv11 hv12 hgm hlf hkc hcl) ky_Mo_verified kv_Mo_verified tw_Mo_307 hM hS hR.m rfl rfl rfl hl.1 rfl (Nat.le_of_ble_eq_true rfl) dd_Mo_verify_1 (by first | decide | exact ⟨by dsimp only; omega, by dsimp only; omega⟩) (by decide) (fun v M1 H locs hp hM hS => ?_)
  obtain ⟨rfl, ⟨V7, hR, hv3, hrv⟩, hF2⟩ := hp
  have hF := hF.trans hF2
  refine W.eq (g2 := F0 m 4 ls [.int (vf_ans g k (fun j => mo_good kc lf gm (nI j) cl) cl)]) rfl ?_
  refine lv_istore_n (lv' := [(1, .int (vf_ans g k (fun j => mo_good kc lf gm (nI j) cl) cl)), (0, .ref mm)]) hx hb dd_Mo_verify_4 rfl hl (by decide) rfl (fun ls hl => ?_)
  refine lv_aload_n hx hb dd_Mo_verify_5 rfl (lv_at hl 1 rfl) ?_
  refine lv_iconst (v := nI 0) hx hb dd_Mo_verify_6 (by decide) ?_
  refine pf_Mo_122 E hM hS hR.m (by rw [mo_len]; decide) dd_Mo_verify_7 (fun H locs hM hS => ?_)
  rw [mo_set (by decide), mq_vu rfl] at hM
  obtain ⟨V21, hV21⟩ : ∃ V9 : Nat → Int32, V9 = va_up V7 3 (nI 0) := ⟨_, rfl⟩
  rw [← hV21] at hM
  obtain ⟨M1, hM1⟩ : ∃ M9 : mw_M, M9 = va_up M1 mm (some (.inr (13, mo_l (mq_v ra V21)))) := ⟨_, rfl⟩
  rw [← hM1] at hM
  have hR := hR.setV hM1
  have hF := mw_fu hM1 hF (Or.inl rfl)
  have hv3 := mq_vs hV21
  refine lv_iload_n hx hb dd_Mo_verify_10 rfl (lv_at hl 0 rfl) ?_
  refine mr_i E hr hk hM hS (by decide) (by decide) ?_ dd_Mo_verify_11
  exact ⟨rfl, ⟨_, hR, hv3, fun j a b c9 d9 => by rw [hV21, va_up_ne _ _ a]; exact hrv j b c9 d9⟩, hF⟩
