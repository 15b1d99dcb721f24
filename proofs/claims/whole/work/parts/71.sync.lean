/-! sync -/
set_option maxHeartbeats 4000000 in
set_option maxRecDepth 100000 in
theorem iv_sync (l : Launch) {D : va_G} {z x mm j : Nat} {M : mw_M} (a : Nat → Int32) (hj : j < 512) (h : iv D x mm j M) : iv_go l D z x mm yy_Xi_sync bb_Xi_sync 5 (Option.some Jvm.ClassFile.FieldType.int) yy_Mo_sync bb_Mo_sync 5 (Option.some Jvm.ClassFile.FieldType.int) [.int (a 1)] M (iv D x mm (j + 1)) := by
  have hh := h
  obtain ⟨N, o, V, A, S, k, ic, Ln, Dn, G, lf, cl, kc, ka, pr, f4, g4, gm, mk, ent, ns, ca, ce, CF, na, fk, km, nw, wa, told, wf, wm, wg, ts, ls, lk, lm, ws, LW, e0, e1, hO, hX, hB, hI, hK, hE, hC, hA, hW, hL, hU, hN, hD, hT, hR, pV, pB, p3, p4, p5, p6, p7, p8, p9, p10, p11, p12⟩ := h
  subst e0 e1
  obtain ⟨v0, v1, v3, v9, v11, v12, v14, v15, v23, v33, v41, v43⟩ := pV
  obtain ⟨b1, b2, b3, b4, b5, b6, b7, b8, b9, b10, b11, b12⟩ := pB
  rcases iv_hs (k := na) (a 1) with hm | ⟨q, hq, e⟩
  · obtain ⟨mo, wc⟩ := iv_lc hA.1
    exact iv_same hh (cc_Xi_sync_m l D z M (N 0) (N 1) (N 3) (N 30) (N 32) (N 35) (N 37) (N 40) (N 50) (N 51) (N 46) (N 43) (V 22) (nI cl) (nI ns) (N 36) na mo (a 1) hX wc (by omega) hm) (cc_Mo_sync_m l D z M (N 199) _ na (a 1) hR.m (mq_vi rfl v23) (by omega) hm) (by decide) (by decide) (by decide) (by decide) (by decide) (by decide)
  rw [e]
  obtain ⟨wy, hkl⟩ := hA.2 q hq
  obtain ⟨g1, g2, g3, g5, g6, g7, g8, g9⟩ := p8 q hq
  obtain ⟨L0, hn0⟩ := hN
  obtain ⟨tn, htn⟩ : ∃ tn : Nat → Nat, ∀ e : Nat, e < mk → A 20 e = nI (tn e) ∧ tn e < 2 ^ 20 := ⟨fun e => (A 20 e).toNatClampNeg, fun e he => by
    obtain ⟨-, t, h1, h2⟩ := p6 e he
    show A 20 e = nI (A 20 e).toNatClampNeg ∧ (A 20 e).toNatClampNeg < 2 ^ 20
    rw [h2, nI_clamp (by omega)]
    exact ⟨rfl, h1⟩⟩
  have hfe : ∀ e : Nat, e ∈ mq_es A mk → (mq_ss A q mk).find? (fh_p (mq_EF A) CF ce (mq_EF A e 0) (nI cl)) = mq_fr A (nI cl) q e := fun e he => sr_find g1 (by omega) b7 rfl (nI cl) (mq_es_in.mp he).1
  have hcnt : (mq_es A mk).countP (fun e => (ru_f2 (mq_EF A) (ru_set (mq_EF A) (mq_es A mk) (A 24 q) (A 25 q))) e && ((mq_ss A q mk).find? (fh_p (mq_EF A) CF ce (mq_EF A e 0) (nI cl))).isNone) = (mq_es A mk).countP (fun e => (ru_f2 (mq_EF A) (ru_set (mq_EF A) (mq_es A mk) (A 24 q) (A 25 q))) e && mq_lk A (nI cl) q e) := List.countP_congr (fun e he => by
    show ((ru_f2 (mq_EF A) (ru_set (mq_EF A) (mq_es A mk) (A 24 q) (A 25 q))) e && ((mq_ss A q mk).find? (fh_p (mq_EF A) CF ce (mq_EF A e 0) (nI cl))).isNone) = true ↔ ((ru_f2 (mq_EF A) (ru_set (mq_EF A) (mq_es A mk) (A 24 q) (A 25 q))) e && mq_lk A (nI cl) q e) = true
    rw [hfe e he, fr_n])
  have hgoc : rn_go (ru_f2 (mq_EF A) (ru_set (mq_EF A) (mq_es A mk) (A 24 q) (A 25 q))) (fun e => (mq_ss A q mk).find? (fh_p (mq_EF A) CF ce (mq_EF A e 0) (nI cl))) (mq_es A mk) ns = rn_go (ru_f2 (mq_EF A) (ru_set (mq_EF A) (mq_es A mk) (A 24 q) (A 25 q))) (mq_fr A (nI cl) q) (mq_es A mk) ns := rn_goc hfe
  have hNc : rn_N (ru_f2 (mq_EF A) (ru_set (mq_EF A) (mq_es A mk) (A 24 q) (A 25 q))) (fun e => (mq_ss A q mk).find? (fh_p (mq_EF A) CF ce (mq_EF A e 0) (nI cl))) (mq_es A mk) = rn_N (ru_f2 (mq_EF A) (ru_set (mq_EF A) (mq_es A mk) (A 24 q) (A 25 q))) (mq_fr A (nI cl) q) (mq_es A mk) := rn_Nc hfe
  have hkg := kr_good p5.1 (nI ka)
  have hss : ∀ n : Nat, n ∈ mq_ss A q mk → ct_is M (mq_EF A) CF ent ca ce n := fun n hn => hC n (ss_in g1 (by omega) hn).1 (ss_in g1 (by omega) hn).2
  have hsn : ∀ n : Nat, n ∈ mq_ss A q mk → n ≤ ns := fun n hn => (ss_in g1 (by omega) hn).2
  have htn2 : ∀ e : Nat, e ∈ mq_es A mk → mq_EF A e 4 = nI (tn e) ∧ tn e < 2 ^ 20 := fun e he => htn e (mq_es_in.mp he).1
  by_cases hx9 : 0 < (mq_es A mk).countP (fun e => (ru_f2 (mq_EF A) (ru_set (mq_EF A) (mq_es A mk) (A 24 q) (A 25 q))) e && mq_lk A (nI cl) q e) ∧ ky_good kc lf g4 (nI ka) cl = false
  · exact iv_same hh (cc_Xi_sync_x l D z M (N 0) (N 1) (N 3) (N 30) (N 32) (N 35) (N 37) (N 40) (N 50) (N 51) (N 46) (N 43) (V 22) cl ns (N 31) lf kc ka pr f4 g4 (N 33) (N 34) mk (N (100 + q)) (N (110 + q)) (N (120 + q)) (N 47) (A 24 q) (A 25 q) _ _ (A 32 q) tn (mq_es A mk) (mq_ss A q mk) L0 (mq_EF A) CF ent ca ce (N 36) q _ hX hK.1 hK.2 p5.2.2 (by omega) (by omega) (by omega) hE.1 wy hkl hss hn0 htn2 b12 g3 hsn (by omega) (by omega) (hO.na hE.1.2.1 (by omega)) (hO.na hkl (by omega)) (hO.rr (by omega)) (hO.rr (by omega)) hA.1 (iv_rg _ hq) (by rw [hcnt]; exact hx9)) (cc_Mo_sync_x l D z M (N 199) (fun k => N (200 + k)) V A S q na mk ns lf cl kc ka pr gm tn hR v23 b8 hq v15 b7 v0 v1 v9 v11 v12 v14 b5 (by omega) p5.2.1 (by omega) (by omega) (by omega) htn ⟨hx9.1, hkg.symm.trans hx9.2⟩) (by decide) (by decide) (by decide) (by decide) (by decide) (by decide)
  have hok : (mq_es A mk).countP (fun e => (ru_f2 (mq_EF A) (ru_set (mq_EF A) (mq_es A mk) (A 24 q) (A 25 q))) e && mq_lk A (nI cl) q e) = 0 ∨ ky_good kc lf g4 (nI ka) cl = true := by
    rcases Nat.eq_zero_or_pos ((mq_es A mk).countP (fun e => (ru_f2 (mq_EF A) (ru_set (mq_EF A) (mq_es A mk) (A 24 q) (A 25 q))) e && mq_lk A (nI cl) q e)) with h | h
    · exact Or.inl h
    · cases hk : ky_good kc lf g4 (nI ka) cl with
      | true => exact Or.inr rfl
      | false => exact absurd ⟨h, hk⟩ hx9
  have hc := cc_Xi_sync_y l D z M (N 0) (N 1) (N 3) (N 30) (N 32) (N 35) (N 37) (N 40) (N 50) (N 51) (N 46) (N 43) (V 22) cl ns (N 31) lf kc ka pr f4 g4 (N 33) (N 34) mk (N (100 + q)) (N (110 + q)) (N (120 + q)) (N 47) (A 24 q) (A 25 q) _ _ (A 32 q) tn (mq_es A mk) (mq_ss A q mk) L0 (mq_EF A) CF ent ca ce (N 36) q _ hX hK.1 hK.2 p5.2.2 (by omega) (by omega) (by omega) hE.1 wy hkl hss hn0 htn2 b12 g3 hsn (by omega) (by omega) (hO.na hE.1.2.1 (by omega)) (hO.na hkl (by omega)) (hO.rr (by omega)) (hO.rr (by omega)) hA.1 (iv_rg _ hq) (by rw [hcnt]; exact hok)
  rw [hcnt, hgoc, hNc] at hc
  refine ⟨_, _, _, _, _, by decide, by decide, by decide, by decide, hc, fun v M1 hp z1 => ?_⟩
  obtain ⟨rfl, ns1, L1, CF1, ca1, ce1, r1, k1, hgo, hal, hrn1, hold, hnew, hL1, wx1, wy1, hF0, hr1, hk1, hn1, hn2, hrk⟩ := hp
  have hF : mw_fr (iv_F (fun t => t = 0 ∨ t = 46 ∨ t = 47 ∨ t = 110 + q ∨ t = 120 + q ∨ t = 100 + q) N) M M1 := hF0.mono (fun p9 h => by
      rcases h with e | e | e | e | e | e
      · exact ⟨0, Or.inl rfl, e⟩
      · exact ⟨46, Or.inr (Or.inl rfl), e⟩
      · exact ⟨47, Or.inr (Or.inr (Or.inl rfl)), e⟩
      · exact ⟨110 + q, Or.inr (Or.inr (Or.inr (Or.inl rfl))), e⟩
      · exact ⟨120 + q, Or.inr (Or.inr (Or.inr (Or.inr (Or.inl rfl)))), e⟩
      · exact ⟨100 + q, Or.inr (Or.inr (Or.inr (Or.inr (Or.inr (rfl))))), e⟩)
  have hk : ∀ t : Nat, (t = 0 ∨ t = 46 ∨ t = 47 ∨ t = 110 + q ∨ t = 120 + q ∨ t = 100 + q) → iv_kd M (N t) := by
    intro t q
    rcases q with q | q | q | q | q | q
    · rw [q]
      exact kd_o hX (by decide)
    · rw [q]
      exact kd_a hn0
    · rw [q]
      exact kd_b hn0
    · rw [q]
      exact kd_a hkl
    · rw [q]
      exact kd_b hkl
    · rw [q]
      exact kd_o wy (by decide)
  have hR1 : iv_R D M1 N V A S := hR.fr (N1 := N) hO hF (fun t h9 (q : t = 0 ∨ t = 46 ∨ t = 47 ∨ t = 110 + q ∨ t = 120 + q ∨ t = 100 + q) => by omega) (fun _ _ => rfl)
  obtain ⟨f1, f2, f3⟩ := kr_first p5.1 (by omega : kc < 2 ^ 20)
  refine ⟨_, _, _, _, _, rfl, hR1.m, by decide, by decide, cc_Mo_sync_y l D z M1 (N 199) (fun k => N (200 + k)) V A S q na mk ns lf cl kc ka pr gm tn hR1 v23 b8 hq v15 b7 v0 v1 v9 v11 v12 v14 b5 (by omega) p5.2.1 (by omega) (by omega) (by omega) htn (hok.imp id (fun h => hkg.symm.trans h)) (ky_first kc lf g4 cl) f1 f2 f3, fun v2 M2 hp2 z2 => ?_⟩
  obtain ⟨rfl, ⟨ns2, L2, A1, hgo2, hR2, hss2, hA1, hAo, hsy, h31, h30, h30o, h32, hm1, hm2⟩, hF2⟩ := hp2
  refine ⟨rfl, ?_⟩
  have hpr := hgo.symm.trans hgo2
  have hp1 : ns1 = ns2 := congrArg Prod.fst hpr
  have hp2 : L1 = L2 := congrArg Prod.snd hpr
  subst hp1 hp2
  have hr9 := rn_1 (ru_f2 (mq_EF A) (ru_set (mq_EF A) (mq_es A mk) (A 24 q) (A 25 q))) (mq_fr A (nI cl) q) ns (mq_es A mk)
  rw [hgo] at hr9
  obtain ⟨hr8, hr7⟩ := hr9
  have hr8 : ns1 = ns + (rn_N (ru_f2 (mq_EF A) (ru_set (mq_EF A) (mq_es A mk) (A 24 q) (A 25 q))) (mq_fr A (nI cl) q) (mq_es A mk)).length := hr8
  have hr7 : L1.length ≤ (mq_es A mk).length := hr7
  have hgd : ns < ns1 → kc ≤ ka + 4 ∧ (ky_first kc lf g4 cl) ≤ ka := fun h => by
    have h1 : ky_good kc lf g4 (nI ka) cl = true := hok.elim (fun h0 => by
      rw [← rn_Nl] at h0
      omega) id
    refine ⟨?_, (f3 ka b5).mp (hkg.symm.trans h1)⟩
    unfold ky_good at h1
    rw [Bool.and_eq_true, Bool.and_eq_true] at h1
    have h2 := of_decide_eq_true h1.1.2
    rw [nI_toInt (by omega)] at h2
    omega
  have hg4 : ns < ns1 → g4 (ka % 4) = gm ka := fun h => p5.1.2.1 ka b5 (hgd h).1
  have P7 : iv_p7 CF1 ce1 ns1 mk kc cl lf gm := fun n h1 h2 => by
    by_cases hle : n ≤ ns
    · obtain ⟨-, o2, o3⟩ := hold n hle
      rw [o2, o3]
      exact p7 n h1 hle
    · obtain ⟨-, k2, k3, k4, k5⟩ := hnew n (by omega) h2
      have h6 : ce1 n < mk := by
        have h7 := List.mem_of_getElem? k5
        unfold rn_N at h7
        exact (mq_es_in.mp (List.mem_filter.mp h7).1).1
      refine ⟨h6, ka, cl, _, k2, k3, k4, b5, Nat.le_refl _, ?_⟩
      rw [← hg4 (by omega)]
      exact Nat.min_le_right _ _
  have ag1 : ag_ok A1 CF1 ce1 ns1 q mk := fun e he h0 => by
    rcases hsy e he with h | ⟨h1, h2, h3, h4, h5⟩ | ⟨i, i1, i2, i3, i4, i5⟩
    · exact absurd h h0
    · obtain ⟨n, c1, c2, c3, c4, c5, c6, c7⟩ := g1 e he h1
      obtain ⟨-, o2, o3⟩ := hold n c2
      exact ⟨n, c1, by omega, h2.trans c3, o2.trans c4, by rw [o3, h3]; exact c5, by rw [o3, h4]; exact c6, by rw [o3, h5]; exact c7⟩
    · have hi := (List.getElem?_eq_some_iff.mp i1).1
      obtain ⟨-, k2, k3, k4, k5⟩ := hnew (ns + 1 + i) (by omega) (by omega)
      rw [show ns + 1 + i - ns - 1 = i by omega, i1] at k5
      have k6 : e = ce1 (ns + 1 + i) := Option.some.inj k5
      refine ⟨ns + 1 + i, by omega, by omega, i2, k6.symm, k2.trans i3.symm, k3.trans i4.symm, ?_⟩
      rw [k4, i5, ← k6, hg4 (by omega)]
  have h26x : ∀ b e : Nat, b ≠ q → e < 60 → A1 26 (60 * b + e) = A 26 (60 * b + e) ∧ A1 27 (60 * b + e) = A 27 (60 * b + e) ∧ A1 28 (60 * b + e) = A 28 (60 * b + e) ∧ A1 29 (60 * b + e) = A 29 (60 * b + e) := fun b e hb he => hAo _ (by omega)
  have sso : ∀ b : Nat, b ≠ q → mq_ss A1 b mk = mq_ss A b mk := fun b hb => mq_ssL (fun e he => (h26x b e hb (by omega)).1)
  have hca : ∀ Lx : List Nat, (∀ n : Nat, n ∈ Lx → n ≤ ns) → Lx.map ca1 = Lx.map ca := fun Lx h => List.map_congr_left (fun n hn => (hold n (h n hn)).1)
  have hkc : (ky_first kc lf g4 cl) + (kc - (ky_first kc lf g4 cl)) = kc := by omega
  obtain ⟨N1, hN1⟩ : ∃ f : Nat → Nat, f = (va_up (va_up N (47) r1) (120 + q) k1) := ⟨_, rfl⟩
  have nx : ∀ t : Nat, (t ≠ 47 ∧ t ≠ 120 + q) → N1 t = N t := fun t h => by
    rw [hN1, va_up_ne _ _ h.2, va_up_ne _ _ h.1]
  have nb0 : N1 (47) = r1 := by rw [hN1, va_up_ne _ _ (by omega), va_up_self]
  have nb1 : N1 (120 + q) = k1 := by rw [hN1, va_up_self]
  obtain ⟨o1, ho1⟩ : ∃ f : Nat → Nat, f = fun p => if M p = none then (if p = r1 then 47 else 120 + q) else o p := ⟨_, rfl⟩
  have hO1 : iv_O D M1 N1 o1 := by
    refine hO.fr hF z1 (fun t => ?_) (fun p hp => by rw [ho1]; exact if_neg hp)
    by_cases t0 : t = 47
    · rw [t0, nb0]
      rcases hr1 with h | h
      · exact Or.inl h
      · rcases hrn1.row with h5 | h5
        · exact Or.inr (Or.inl h5)
        · exact Or.inr (Or.inr ⟨h, h5, by rw [ho1]; show (if M r1 = none then _ else _) = _; rw [if_pos h, if_pos rfl]⟩)
    · by_cases t1 : t = 120 + q
      · rw [t1, nb1]
        rcases hk1 with h | h
        · exact Or.inl h
        · rcases hal.row with h5 | h5
          · exact Or.inr (Or.inl h5)
          · exact Or.inr (Or.inr ⟨h, h5, by rw [ho1]; show (if M k1 = none then _ else _) = _; rw [if_pos h, if_neg (fun h6 => h5 (by rw [h6, hrk h6.symm]; exact z1))]⟩)
      · exact Or.inl (nx t ⟨t0, t1⟩)
  have en : N1 199 = N 199 := nx 199 (by omega)
  have er : (fun k => N1 (200 + k)) = fun k => N (200 + k) := funext (fun k => nx (200 + k) (by omega))
  have hR1 : iv_R D M1 N1 V A S := by
    unfold iv_R
    rw [en, er]
    exact hR1
  have hR2 : iv_R D M2 N1 (va_up V 14 (nI ns1)) A1 S := by
    unfold iv_R
    rw [en, er]
    exact hR2
  have hF2 : mw_fr (mq_P (N1 199) (fun k => N1 (200 + k))) M1 M2 := by
    rw [en, er]
    exact hF2
  have hrn2 := hrn1
  rw [← nx 46 (by omega), ← nb0] at hrn2
  have eV0 : (va_up V 14 (nI ns1)) 0 = V 0 := va_up_ne _ _ (by decide)
  have eV1 : (va_up V 14 (nI ns1)) 1 = V 1 := va_up_ne _ _ (by decide)
  have eV3 : (va_up V 14 (nI ns1)) 3 = V 3 := va_up_ne _ _ (by decide)
  have eV4 : (va_up V 14 (nI ns1)) 4 = V 4 := va_up_ne _ _ (by decide)
  have eV9 : (va_up V 14 (nI ns1)) 9 = V 9 := va_up_ne _ _ (by decide)
  have eV11 : (va_up V 14 (nI ns1)) 11 = V 11 := va_up_ne _ _ (by decide)
  have eV12 : (va_up V 14 (nI ns1)) 12 = V 12 := va_up_ne _ _ (by decide)
  have eV15 : (va_up V 14 (nI ns1)) 15 = V 15 := va_up_ne _ _ (by decide)
  have eV22 : (va_up V 14 (nI ns1)) 22 = V 22 := va_up_ne _ _ (by decide)
  have eV23 : (va_up V 14 (nI ns1)) 23 = V 23 := va_up_ne _ _ (by decide)
  have eV33 : (va_up V 14 (nI ns1)) 33 = V 33 := va_up_ne _ _ (by decide)
  have eV41 : (va_up V 14 (nI ns1)) 41 = V 41 := va_up_ne _ _ (by decide)
  have eV43 : (va_up V 14 (nI ns1)) 43 = V 43 := va_up_ne _ _ (by decide)
  have eV45 : (va_up V 14 (nI ns1)) 45 = V 45 := va_up_ne _ _ (by decide)
  have eA2 : A1 2 = A 2 := hA1 2 (by decide) (by decide) (by decide) (by decide) (by decide) (by decide) (by decide)
  have eA5 : A1 5 = A 5 := hA1 5 (by decide) (by decide) (by decide) (by decide) (by decide) (by decide) (by decide)
  have eA6 : A1 6 = A 6 := hA1 6 (by decide) (by decide) (by decide) (by decide) (by decide) (by decide) (by decide)
  have eA7 : A1 7 = A 7 := hA1 7 (by decide) (by decide) (by decide) (by decide) (by decide) (by decide) (by decide)
  have eA10 : A1 10 = A 10 := hA1 10 (by decide) (by decide) (by decide) (by decide) (by decide) (by decide) (by decide)
  have eA16 : A1 16 = A 16 := hA1 16 (by decide) (by decide) (by decide) (by decide) (by decide) (by decide) (by decide)
  have eA17 : A1 17 = A 17 := hA1 17 (by decide) (by decide) (by decide) (by decide) (by decide) (by decide) (by decide)
  have eA18 : A1 18 = A 18 := hA1 18 (by decide) (by decide) (by decide) (by decide) (by decide) (by decide) (by decide)
  have eA19 : A1 19 = A 19 := hA1 19 (by decide) (by decide) (by decide) (by decide) (by decide) (by decide) (by decide)
  have eA20 : A1 20 = A 20 := hA1 20 (by decide) (by decide) (by decide) (by decide) (by decide) (by decide) (by decide)
  have eA21 : A1 21 = A 21 := hA1 21 (by decide) (by decide) (by decide) (by decide) (by decide) (by decide) (by decide)
  have eA24 : A1 24 = A 24 := hA1 24 (by decide) (by decide) (by decide) (by decide) (by decide) (by decide) (by decide)
  have eA25 : A1 25 = A 25 := hA1 25 (by decide) (by decide) (by decide) (by decide) (by decide) (by decide) (by decide)
  have eA34 : A1 34 = A 34 := hA1 34 (by decide) (by decide) (by decide) (by decide) (by decide) (by decide) (by decide)
  have eA35 : A1 35 = A 35 := hA1 35 (by decide) (by decide) (by decide) (by decide) (by decide) (by decide) (by decide)
  have eA36 : A1 36 = A 36 := hA1 36 (by decide) (by decide) (by decide) (by decide) (by decide) (by decide) (by decide)
  have eA37 : A1 37 = A 37 := hA1 37 (by decide) (by decide) (by decide) (by decide) (by decide) (by decide) (by decide)
  have eA38 : A1 38 = A 38 := hA1 38 (by decide) (by decide) (by decide) (by decide) (by decide) (by decide) (by decide)
  have eA39 : A1 39 = A 39 := hA1 39 (by decide) (by decide) (by decide) (by decide) (by decide) (by decide) (by decide)
  have eA40 : A1 40 = A 40 := hA1 40 (by decide) (by decide) (by decide) (by decide) (by decide) (by decide) (by decide)
  have eA42 : A1 42 = A 42 := hA1 42 (by decide) (by decide) (by decide) (by decide) (by decide) (by decide) (by decide)
  have eA44 : A1 44 = A 44 := hA1 44 (by decide) (by decide) (by decide) (by decide) (by decide) (by decide) (by decide)
  have m1 : iv_O D M1 N1 o1 ∧ iv_X M1 N1 (((va_up V 14 (nI ns1))) 22) cl ns1 ∧ iv_B D M1 N1 k (A1 2) ∧ iv_I D M1 N1 ic Ln Dn G ∧ iv_K D M1 N1 lf kc ka pr f4 ∧ iv_E D M1 N1 mk (mq_es A1 mk) (mq_EF A1) ent ∧ iv_C M1 (mq_EF A1) CF1 ent ca1 ce1 ns1 ∧ iv_A D M1 N1 na (A1 24) (A1 25) (A1 32) ((va_up fk q (ky_first kc lf g4 cl))) ((va_up km q (kc - (ky_first kc lf g4 cl)))) (fun a9 => mq_ss A1 a9 mk) ca1 ∧ iv_W D M1 N1 na nw wa (A1 35) told wf wm wg ts ca1 ∧ iv_L D M1 N1 ls lk lm (((va_up V 14 (nI ns1))) 45) ca1 ∧ iv_U D M1 N1 ∧ iv_N D M1 N1 ∧ iv_D M1 N1 ∧ iv_T D M1 N1 ws LW := by
    rw [eV22, eV45, eA2, eA24, eA25, eA35, mq_es_c eA16, mq_EF_c eA17 eA18 eA19 eA20 eA21]
    exact ⟨hO1, by
      unfold iv_X
      rw [nx 0 (by omega), nx 1 (by omega), nx 3 (by omega), nx 30 (by omega), nx 32 (by omega), nx 35 (by omega), nx 37 (by omega), nx 40 (by omega), nx 50 (by omega), nx 51 (by omega), nx 46 (by omega), nx 43 (by omega)]
      exact wx1, hB.fr (N1 := N1) hO hF (fun t h8 h9 (q : t = 0 ∨ t = 46 ∨ t = 47 ∨ t = 110 + q ∨ t = 120 + q ∨ t = 100 + q) => by omega) (fun t h8 h9 => nx t (by omega)), hI.fr (N1 := N1) hO hF (fun t h8 h9 (q : t = 0 ∨ t = 46 ∨ t = 47 ∨ t = 110 + q ∨ t = 120 + q ∨ t = 100 + q) => by omega) (fun t h8 h9 => nx t (by omega)), hK.fr (N1 := N1) hO hF (fun t h8 h9 (q : t = 0 ∨ t = 46 ∨ t = 47 ∨ t = 110 + q ∨ t = 120 + q ∨ t = 100 + q) => by omega) (fun t h8 h9 => nx t (by omega)), hE.fr (N1 := N1) hO hF z1 hk (fun t h8 h9 (q : t = 0 ∨ t = 46 ∨ t = 47 ∨ t = 110 + q ∨ t = 120 + q ∨ t = 100 + q) => by omega) (fun t h8 h9 => nx t (by omega)), fun n h1 h2 => by
      by_cases hle : n ≤ ns
      · obtain ⟨o1, o2, o3⟩ := hold n hle
        exact (iv_ct (hC n h1 hle) hF hk).ext o1 o2 o3
      · exact (hnew n (by omega) h2).1, ⟨by
      rw [nx 35 (by omega), nx 36 (by omega), iv_mp (g := fun w => N (100 + w)) (fun w hw => nx (100 + w) (by omega))]
      exact iv_al hO hF z1 hA.1 (fun (h : 35 = 0 ∨ 35 = 46 ∨ 35 = 47 ∨ 35 = 110 + q ∨ 35 = 120 + q ∨ 35 = 100 + q) => by omega) (fun (h : 36 = 0 ∨ 36 = 46 ∨ 36 = 47 ∨ 36 = 110 + q ∨ 36 = 120 + q ∨ 36 = 100 + q) => by omega), fun w hw => by
      show _ ∧ al_at D M1 (N1 (110 + w)) (N1 (120 + w)) ((mq_ss A1 w mk).map ca1)
      by_cases hwn : w = q
      · subst hwn
        rw [h32, ux_s, va_up_self, va_up_self, nx (100 + w) (by omega), nx (110 + w) (by omega), nb1, hss2, hkc]
        exact ⟨wy1, hal⟩
      · obtain ⟨c1, c2⟩ := hA.2 w hw
        rw [h32, ux_n _ _ hwn, va_up_ne _ _ hwn, va_up_ne _ _ hwn, nx (100 + w) (by omega), nx (110 + w) (by omega), nx (120 + w) (by omega), sso w hwn, hca _ (fun n hn => (ss_in (p8 w hw).1 (by omega) hn).2)]
        exact ⟨iv_at hO hF c1 (fun (h : 100 + w = 0 ∨ 100 + w = 46 ∨ 100 + w = 47 ∨ 100 + w = 110 + q ∨ 100 + w = 120 + q ∨ 100 + w = 100 + q) => by omega), iv_al hO hF z1 c2 (fun (h : 110 + w = 0 ∨ 110 + w = 46 ∨ 110 + w = 47 ∨ 110 + w = 110 + q ∨ 110 + w = 120 + q ∨ 110 + w = 100 + q) => by omega) (fun (h : 120 + w = 0 ∨ 120 + w = 46 ∨ 120 + w = 47 ∨ 120 + w = 110 + q ∨ 120 + w = 120 + q ∨ 120 + w = 100 + q) => by omega)⟩⟩, (hW.fr (N1 := N1) hO hF z1 (fun t h9 (q : t = 0 ∨ t = 46 ∨ t = 47 ∨ t = 110 + q ∨ t = 120 + q ∨ t = 100 + q) => by omega) (fun t h9 => nx t (by omega)) b9).cs (fun w hw => hca _ (fun n hn => ((p9 w hw).2.2.2.1 n hn).2)), (hL.fr (N1 := N1) hO hF z1 (fun t h8 h9 (q : t = 0 ∨ t = 46 ∨ t = 47 ∨ t = 110 + q ∨ t = 120 + q ∨ t = 100 + q) => by omega) (fun t h8 h9 => nx t (by omega))).cs (hca _ (fun n hn => by
      obtain ⟨i, hi⟩ := List.getElem?_of_mem hn
      exact (p10.2.2 i n hi).1.2)), hU.fr (N1 := N1) hO hF z1 (fun t h8 h9 (q : t = 0 ∨ t = 46 ∨ t = 47 ∨ t = 110 + q ∨ t = 120 + q ∨ t = 100 + q) => by omega) (fun t h8 h9 => nx t (by omega)), ⟨_, hrn2⟩, hD.fr (N1 := N1) hO hF (fun (q : 50 = 0 ∨ 50 = 46 ∨ 50 = 47 ∨ 50 = 110 + q ∨ 50 = 120 + q ∨ 50 = 100 + q) => by omega) (nx 50 (by omega)), hT.fr (N1 := N1) hO hF (fun t h8 h9 (q : t = 0 ∨ t = 46 ∨ t = 47 ∨ t = 110 + q ∨ t = 120 + q ∨ t = 100 + q) => by omega) (fun t h8 h9 => nx t (by omega))⟩
  obtain ⟨mhO, mhX, mhB, mhI, mhK, mhE, mhC, mhA, mhW, mhL, mhU, mhN, mhD, mhT⟩ := iv_frR hR1 hF2 z2 b8 b9 m1
  exact ⟨N1, o1, (va_up V 14 (nI ns1)), A1, S, k, ic, Ln, Dn, G, lf, cl, kc, ka, pr, f4, g4, gm, mk, ent, ns1, ca1, ce1, CF1, na, (va_up fk q (ky_first kc lf g4 cl)), (va_up km q (kc - (ky_first kc lf g4 cl))), nw, wa, told, wf, wm, wg, ts, ls, lk, lm, ws, LW, nx 0 (by omega), nx 199 (by omega), mhO, mhX, mhB, mhI, mhK, mhE, mhC, mhA, mhW, mhL, mhU, mhN, mhD, mhT, hR2, ⟨eV0.trans v0, eV1.trans v1, eV3.trans v3, eV9.trans v9, eV11.trans v11, eV12.trans v12, va_up_self _ _ _, eV15.trans v15, eV23.trans v23, eV33.trans v33, eV41.trans v41, eV43.trans v43⟩, ⟨b1, by omega, b3, by omega, b5, by omega, b7, b8, b9, b10, b11, by rw [mq_es_c eA16]; exact b12⟩, by rw [eA2]; exact p3, by rw [eA5, eA6, eA7, eV4]; exact p4, by rw [eA10]; exact p5, by rw [eA17, eA20]; exact p6, P7, fun w hw => by
      by_cases hwn : w = q
      · subst hwn
        rw [hss2, h31, ux_s, va_up_self, va_up_self]
        refine ⟨ag1, fun e h1 h2 => (hAo _ (by omega)).1.trans (g2 e h1 h2), by omega, rfl, by omega, by omega, h30, fun h0 n hn q4 e4 l4 => ?_⟩
        rw [← hss2] at hn
        obtain ⟨m1, m2⟩ := ss_in ag1 (by omega) hn
        obtain ⟨c1, q2, q3, q5, c2, c3, c4, c5, c6, c7⟩ := P7 n m1 m2
        have hq2 := (p5.2.1 q2 c5).2
        have e5 : q4 = q5 := (nI_eq (by omega) (by omega)).mp (e4.symm.trans c4)
        rcases Nat.lt_or_ge cl (gm q2 + lf) with hlt | hge
        · have h3 : mo_good kc lf gm (nI q2) cl = true := by rw [mo_goodN (by omega), decide_eq_true c5, decide_eq_true hlt]; rfl
          have h4 := (f3 q2 c5).mp h3
          omega
        · omega
      · obtain ⟨c1, c2, c3, c4, c5, c6, c7, c8⟩ := p8 w hw
        rw [sso w hwn, h31, ux_n _ _ hwn, va_up_ne _ _ hwn, va_up_ne _ _ hwn]
        refine ⟨fun e he h0 => ?_, fun e h1 h2 => (h26x w e hwn h2).1.trans (c2 e h1 h2), c3, c4, c5, c6, fun p hp => (h30o _ (by omega)).trans (c7 p hp), fun h0 n hn q4 e4 l4 => ?_⟩
        · obtain ⟨x1, x2, x3, x4⟩ := h26x w e hwn (by omega)
          rw [x1] at h0
          obtain ⟨n, d1, d2, d3, d4, d5, d6, d7⟩ := c1 e he h0
          obtain ⟨-, o2, o3⟩ := hold n d2
          exact ⟨n, d1, by omega, x1.trans d3, o2.trans d4, by rw [o3, x2]; exact d5, by rw [o3, x3]; exact d6, by rw [o3, x4]; exact d7⟩
        · obtain ⟨-, -, o3⟩ := hold n (ss_in c1 (by omega) hn).2
          rw [o3] at e4
          exact c8 h0 n hn q4 e4 l4, fun w hw => by
      rw [eA34, eA36, eA37, eA38, eA39, eA40]
      obtain ⟨c1, c2, c3, c4, c5⟩ := p9 w hw
      exact ⟨c1, c2, c3, fun n hn => ⟨(c4 n hn).1, Nat.le_trans (c4 n hn).2 hn1⟩, c5⟩, by
      rw [eA42, eA44]
      refine ⟨p10.1, p10.2.1, fun i n hn => ?_⟩
      obtain ⟨⟨c1, c2⟩, c3⟩ := p10.2.2 i n hn
      obtain ⟨-, o2, o3⟩ := hold n c2
      rw [o2, o3]
      exact ⟨⟨c1, by omega⟩, c3⟩, p11, by
      rw [eA17]
      obtain ⟨wn, h1, h2, h3⟩ := p12
      obtain ⟨-, o2, o3⟩ := hold wn h1
      refine ⟨wn, by omega, h2, fun h => (h3 h).trans ?_⟩
      unfold ec_c
      rw [o2, o3]⟩
