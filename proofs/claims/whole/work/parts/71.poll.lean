/-! poll -/
set_option maxHeartbeats 4000000 in
set_option maxRecDepth 100000 in
theorem iv_poll (l : Launch) {D : va_G} {z x mm j : Nat} {M : mw_M} (a : Nat → Int32) (hj : j < 512) (h : iv D x mm j M) : iv_go l D z x mm yy_Xi_poll bb_Xi_poll 3 (Option.some Jvm.ClassFile.FieldType.int) yy_Mo_poll bb_Mo_poll 5 (Option.some Jvm.ClassFile.FieldType.int) [.int (a 1)] M (iv D x mm (j + 1)) := by
  have hh := h
  obtain ⟨N, o, V, A, S, k, ic, Ln, Dn, G, lf, cl, kc, ka, pr, f4, g4, gm, mk, ent, ns, ca, ce, CF, na, fk, km, nw, wa, told, wf, wm, wg, ts, ls, lk, lm, ws, LW, e0, e1, hO, hX, hB, hI, hK, hE, hC, hA, hW, hL, hU, hN, hD, hT, hR, pV, pB, p3, p4, p5, p6, p7, p8, p9, p10, p11, p12⟩ := h
  subst e0 e1
  obtain ⟨v0, v1, v3, v9, v11, v12, v14, v15, v23, v33, v41, v43⟩ := pV
  obtain ⟨b1, b2, b3, b4, b5, b6, b7, b8, b9, b10, b11, b12⟩ := pB
  rcases iv_hs (k := nw) (a 1) with hm | ⟨q, hq, e⟩
  · obtain ⟨mo, wc⟩ := iv_lc hW.1
    exact iv_same hh (cc_Xi_poll_m l D z M (N 0) (N 1) (N 3) (N 30) (N 32) (N 35) (N 37) (N 40) (N 50) (N 51) (N 46) (N 43) (V 22) (nI cl) (nI ns) (N 38) nw mo (a 1) hX wc (by omega) hm) (cc_Mo_poll_m l D z M (N 199) _ nw (a 1) hR.m (mq_vi rfl v33) (by omega) hm) (by decide) (by decide) (by decide) (by decide) (by decide) (by decide)
  rw [e]
  obtain ⟨x1, x2, x3, x4⟩ := hW.2 q hq
  obtain ⟨wy, hkl⟩ := hA.2 (wa q) x1
  obtain ⟨g1, g2, g3, g5, g6, g7, g8, g9⟩ := p8 (wa q) x1
  obtain ⟨y1, y2, y3, y4, y5, y6⟩ := p9 q hq
  obtain ⟨u1, u2, u3, L0, wu, hu⟩ := hU
  obtain ⟨L, hL1, hL12, hLf, hLo, hLi⟩ := iv_resp g1 (by omega) g3 (A 35 q) (nI cl)
  have hkm : L ≠ [] → 0 < km (wa q) := fun h => by
    obtain ⟨e9, he⟩ := List.exists_mem_of_ne_nil L h
    have hn : mq_sr A (wa q) e9 ∈ (mq_ss A (wa q) mk).filter (fl_p (mq_EF A) CF ce (A 35 q) (nI cl)) := by
      rw [hLf]
      exact List.mem_map.mpr ⟨e9, he, rfl⟩
    obtain ⟨n1, n2⟩ := List.mem_filter.mp hn
    obtain ⟨m1, m2⟩ := ss_in g1 (by omega) n1
    obtain ⟨c1, q2, q3, q4, c2, c3, c4, c5, c6, c7⟩ := p7 _ m1 m2
    have hq2 := (p5.2.1 q2 c5).2
    unfold fl_p at n2
    rw [Bool.and_eq_true, c4] at n2
    have n3 := (nI_ltI (by omega) (by omega)).mp (of_decide_eq_true n2.2)
    rcases Nat.eq_zero_or_pos (km (wa q)) with h0 | h0
    · have := g9 h0 _ n1 q4 c4 (by omega)
      omega
    · exact h0
  have hnw := iv_news (by omega : ns < 2 ^ 30) y2 y3 y4 y5 y6 hL12 (fun i n hn => by
    obtain ⟨e9, h9, -, h2, h3, -⟩ := hLi i n hn
    exact ⟨e9, h9, h2, h3⟩) g6 g7 g8 hkm
  have hss : ∀ n : Nat, n ∈ mq_ss A (wa q) mk → ct_is M (mq_EF A) CF ent ca ce n := fun n hn => hC n (ss_in g1 (by omega) hn).1 (ss_in g1 (by omega) hn).2
  have hts : ∀ n : Nat, n ∈ ts q → ct_is M (mq_EF A) CF ent ca ce n := fun n hn => hC n (y4 n hn).1 (y4 n hn).2
  have hsn : ∀ n : Nat, n ∈ mq_ss A (wa q) mk → n < 2 ^ 31 := fun n hn => by
    have := (ss_in g1 (by omega) hn).2
    omega
  have htn : ∀ n : Nat, n ∈ ts q → n < 2 ^ 31 := fun n hn => by
    have := (y4 n hn).2
    omega
  have ek1 : (if L.length = 0 then nI 0 else nI (fk (wa q))) = nI (if L.length = 0 then 0 else fk (wa q)) := by split <;> rfl
  have ek2 : (if L.length = 0 then nI 0 else nI (fk (wa q) + km (wa q))) = nI ((if L.length = 0 then 0 else fk (wa q)) + (if L.length = 0 then 0 else km (wa q))) := by split <;> rfl
  by_cases hns9 : nw_same A q (wa q) L (if L.length = 0 then 0 else km (wa q))
  · obtain ⟨ht, hP⟩ := hnw.mpr hns9
    have hc := cc_Xi_poll_0 l D z M (N 0) (N 1) (N 3) (N 30) (N 32) (N 35) (N 37) (N 40) (N 50) (N 51) (N 46) (N 43) (V 22) (nI cl) (nI ns) (N 38) q (N (130 + q)) (N (100 + wa q)) (N (110 + wa q)) (N (120 + wa q)) (N 44) (N 45) (N (140 + q)) (N (150 + q)) (N (160 + q)) (N 41) (N 42) (told q) (A 35 q) _ _ _ _ _ _ _ _ _ _ _ _ _ _ _ L0 _ (mq_ss A (wa q) mk) (ts q) (mq_EF A) CF ent ca ce hX hW.1 (iv_rg _ hq) x2 wy hkl wu hu x3 x4 hL.1 hL.2 hss hts g3 hsn htn (hO.na hu (by omega)) (hO.na x4 (by omega)) (hO.na hL.2 (by omega)) (hO.na hL.2 (by omega)) (hO.ne x3 (by omega)) (hO.ne hL.1 (by omega)) (hO.ne hL.1 (by omega)) (hO.rr (by omega)) (hO.rr (by omega)) (hO.rr (by omega)) (hO.rr (by omega)) (by rw [hLf, List.length_map, hLo, ht, decide_eq_true hP]; rfl)
    rw [hLf, List.length_map, hLo, ek1, ek2] at hc
    refine ⟨_, _, _, _, _, by decide, by decide, by decide, by decide, hc, fun v M1 hp z1 => ?_⟩
    obtain ⟨rfl, wu1, k1, hal, hF0, hk1⟩ := hp
    have hF : mw_fr (iv_F (fun t => t = 43 ∨ t = 44 ∨ t = 45) N) M M1 := hF0.mono (fun p9 h => by
        rcases h with e | e | e
        · exact ⟨43, Or.inl rfl, e⟩
        · exact ⟨44, Or.inr (Or.inl rfl), e⟩
        · exact ⟨45, Or.inr (Or.inr (rfl)), e⟩)
    have hk : ∀ t : Nat, (t = 43 ∨ t = 44 ∨ t = 45) → iv_kd M (N t) := by
      intro t q
      rcases q with q | q | q
      · rw [q]
        exact kd_o wu (by decide)
      · rw [q]
        exact kd_a hu
      · rw [q]
        exact kd_b hu
    have hR1 : iv_R D M1 N V A S := hR.fr (N1 := N) hO hF (fun t h9 (q : t = 43 ∨ t = 44 ∨ t = 45) => by omega) (fun _ _ => rfl)
    have hc2 := cc_Mo_poll_0 l D z M1 (N 199) (fun k => N (200 + k)) V A S q nw (wa q) mk (km (wa q)) hR1 v33 b9 hq y1 (by omega) v15 b7 (by rw [v1, hL1]; exact hL12) g5 g6 (by rw [v1, hL1]; exact hns9)
    refine ⟨_, _, _, _, _, rfl, hR1.m, by decide, by decide, hc2, fun v2 M2 hp2 z2 => ?_⟩
    obtain ⟨rfl, ⟨V1, A1, hR2, hV1, hA1⟩, hF2⟩ := hp2
    refine ⟨rfl, ?_⟩
    obtain ⟨N1, hN1⟩ : ∃ f : Nat → Nat, f = (va_up N (45) k1) := ⟨_, rfl⟩
    have nx : ∀ t : Nat, (t ≠ 45) → N1 t = N t := fun t h => by
      rw [hN1, va_up_ne _ _ h]
    have nb0 : N1 (45) = k1 := by rw [hN1, va_up_self]
    obtain ⟨o1, ho1⟩ : ∃ f : Nat → Nat, f = fun q => if M q = none then 45 else o q := ⟨_, rfl⟩
    have hO1 : iv_O D M1 N1 o1 := by rw [hN1, ho1]; exact hO.row hF hal hk1
    have en : N1 199 = N 199 := nx 199 (by omega)
    have er : (fun k => N1 (200 + k)) = fun k => N (200 + k) := funext (fun k => nx (200 + k) (by omega))
    have hR1 : iv_R D M1 N1 V A S := by
      unfold iv_R
      rw [en, er]
      exact hR1
    have hR2 : iv_R D M2 N1 V1 A1 S := by
      unfold iv_R
      rw [en, er]
      exact hR2
    have hF2 : mw_fr (mq_P (N1 199) (fun k => N1 (200 + k))) M1 M2 := by
      rw [en, er]
      exact hF2
    have wu2 := wu1
    have hal2 := hal
    rw [← nx 43 (by omega), ← nx 44 (by omega)] at wu2
    rw [← nx 44 (by omega), ← nb0] at hal2
    have eV0 : V1 0 = V 0 := by rw [hV1]; exact va_up_ne _ _ (by decide)
    have eV1 : V1 1 = V 1 := by rw [hV1]; exact va_up_ne _ _ (by decide)
    have eV3 : V1 3 = V 3 := by rw [hV1]; exact va_up_ne _ _ (by decide)
    have eV4 : V1 4 = V 4 := by rw [hV1]; exact va_up_ne _ _ (by decide)
    have eV9 : V1 9 = V 9 := by rw [hV1]; exact va_up_ne _ _ (by decide)
    have eV11 : V1 11 = V 11 := by rw [hV1]; exact va_up_ne _ _ (by decide)
    have eV12 : V1 12 = V 12 := by rw [hV1]; exact va_up_ne _ _ (by decide)
    have eV14 : V1 14 = V 14 := by rw [hV1]; exact va_up_ne _ _ (by decide)
    have eV15 : V1 15 = V 15 := by rw [hV1]; exact va_up_ne _ _ (by decide)
    have eV22 : V1 22 = V 22 := by rw [hV1]; exact va_up_ne _ _ (by decide)
    have eV23 : V1 23 = V 23 := by rw [hV1]; exact va_up_ne _ _ (by decide)
    have eV33 : V1 33 = V 33 := by rw [hV1]; exact va_up_ne _ _ (by decide)
    have eV41 : V1 41 = V 41 := by rw [hV1]; exact va_up_ne _ _ (by decide)
    have eV43 : V1 43 = V 43 := by rw [hV1]; exact va_up_ne _ _ (by decide)
    have eV45 : V1 45 = V 45 := by rw [hV1]; exact va_up_ne _ _ (by decide)
    have eA2 : A1 2 = A 2 := hA1 2 (by decide)
    have eA5 : A1 5 = A 5 := hA1 5 (by decide)
    have eA6 : A1 6 = A 6 := hA1 6 (by decide)
    have eA7 : A1 7 = A 7 := hA1 7 (by decide)
    have eA10 : A1 10 = A 10 := hA1 10 (by decide)
    have eA16 : A1 16 = A 16 := hA1 16 (by decide)
    have eA17 : A1 17 = A 17 := hA1 17 (by decide)
    have eA18 : A1 18 = A 18 := hA1 18 (by decide)
    have eA19 : A1 19 = A 19 := hA1 19 (by decide)
    have eA20 : A1 20 = A 20 := hA1 20 (by decide)
    have eA21 : A1 21 = A 21 := hA1 21 (by decide)
    have eA24 : A1 24 = A 24 := hA1 24 (by decide)
    have eA25 : A1 25 = A 25 := hA1 25 (by decide)
    have eA26 : A1 26 = A 26 := hA1 26 (by decide)
    have eA27 : A1 27 = A 27 := hA1 27 (by decide)
    have eA28 : A1 28 = A 28 := hA1 28 (by decide)
    have eA29 : A1 29 = A 29 := hA1 29 (by decide)
    have eA30 : A1 30 = A 30 := hA1 30 (by decide)
    have eA31 : A1 31 = A 31 := hA1 31 (by decide)
    have eA32 : A1 32 = A 32 := hA1 32 (by decide)
    have eA34 : A1 34 = A 34 := hA1 34 (by decide)
    have eA35 : A1 35 = A 35 := hA1 35 (by decide)
    have eA36 : A1 36 = A 36 := hA1 36 (by decide)
    have eA37 : A1 37 = A 37 := hA1 37 (by decide)
    have eA38 : A1 38 = A 38 := hA1 38 (by decide)
    have eA39 : A1 39 = A 39 := hA1 39 (by decide)
    have eA40 : A1 40 = A 40 := hA1 40 (by decide)
    have eA42 : A1 42 = A 42 := hA1 42 (by decide)
    have eA44 : A1 44 = A 44 := hA1 44 (by decide)
    have m1 : iv_O D M1 N1 o1 ∧ iv_X M1 N1 (V1 22) cl ns ∧ iv_B D M1 N1 k (A1 2) ∧ iv_I D M1 N1 ic Ln Dn G ∧ iv_K D M1 N1 lf kc ka pr f4 ∧ iv_E D M1 N1 mk (mq_es A1 mk) (mq_EF A1) ent ∧ iv_C M1 (mq_EF A1) CF ent ca ce ns ∧ iv_A D M1 N1 na (A1 24) (A1 25) (A1 32) fk km (fun a9 => mq_ss A1 a9 mk) ca ∧ iv_W D M1 N1 na nw wa (A1 35) told wf wm wg ts ca ∧ iv_L D M1 N1 ls lk lm (V1 45) ca ∧ iv_U D M1 N1 ∧ iv_N D M1 N1 ∧ iv_D M1 N1 ∧ iv_T D M1 N1 ws LW := by
      rw [eV22, eV45, eA2, eA24, eA25, eA32, eA35, mq_es_c eA16, mq_EF_c eA17 eA18 eA19 eA20 eA21, mq_ssE eA26]
      exact ⟨hO1, hX.fr (N1 := N1) hO hF (fun (q : 0 = 43 ∨ 0 = 44 ∨ 0 = 45) => by omega) (fun t h9 => nx t (by omega)), hB.fr (N1 := N1) hO hF (fun t h8 h9 (q : t = 43 ∨ t = 44 ∨ t = 45) => by omega) (fun t h8 h9 => nx t (by omega)), hI.fr (N1 := N1) hO hF (fun t h8 h9 (q : t = 43 ∨ t = 44 ∨ t = 45) => by omega) (fun t h8 h9 => nx t (by omega)), hK.fr (N1 := N1) hO hF (fun t h8 h9 (q : t = 43 ∨ t = 44 ∨ t = 45) => by omega) (fun t h8 h9 => nx t (by omega)), hE.fr (N1 := N1) hO hF z1 hk (fun t h8 h9 (q : t = 43 ∨ t = 44 ∨ t = 45) => by omega) (fun t h8 h9 => nx t (by omega)), hC.fr hF hk, hA.fr (N1 := N1) hO hF z1 (fun t h9 (q : t = 43 ∨ t = 44 ∨ t = 45) => by omega) (fun t h9 => nx t (by omega)) b8, hW.fr (N1 := N1) hO hF z1 (fun t h9 (q : t = 43 ∨ t = 44 ∨ t = 45) => by omega) (fun t h9 => nx t (by omega)) b9, hL.fr (N1 := N1) hO hF z1 (fun t h8 h9 (q : t = 43 ∨ t = 44 ∨ t = 45) => by omega) (fun t h8 h9 => nx t (by omega)), ⟨_, _, _, _, wu2, hal2⟩, hN.fr (N1 := N1) hO hF z1 (fun t h8 h9 (q : t = 43 ∨ t = 44 ∨ t = 45) => by omega) (fun t h8 h9 => nx t (by omega)), hD.fr (N1 := N1) hO hF (fun (q : 50 = 43 ∨ 50 = 44 ∨ 50 = 45) => by omega) (nx 50 (by omega)), hT.fr (N1 := N1) hO hF (fun t h8 h9 (q : t = 43 ∨ t = 44 ∨ t = 45) => by omega) (fun t h8 h9 => nx t (by omega))⟩
    obtain ⟨mhO, mhX, mhB, mhI, mhK, mhE, mhC, mhA, mhW, mhL, mhU, mhN, mhD, mhT⟩ := iv_frR hR1 hF2 z2 b8 b9 m1
    exact ⟨N1, o1, V1, A1, S, k, ic, Ln, Dn, G, lf, cl, kc, ka, pr, f4, g4, gm, mk, ent, ns, ca, ce, CF, na, fk, km, nw, wa, told, wf, wm, wg, ts, ls, lk, lm, ws, LW, nx 0 (by omega), nx 199 (by omega), mhO, mhX, mhB, mhI, mhK, mhE, mhC, mhA, mhW, mhL, mhU, mhN, mhD, mhT, hR2, ⟨eV0.trans v0, eV1.trans v1, eV3.trans v3, eV9.trans v9, eV11.trans v11, eV12.trans v12, eV14.trans v14, eV15.trans v15, eV23.trans v23, eV33.trans v33, eV41.trans v41, eV43.trans v43⟩, ⟨b1, by omega, b3, by omega, b5, by omega, b7, b8, b9, b10, b11, by rw [mq_es_c eA16]; exact b12⟩, by rw [eA2]; exact p3, by rw [eA5, eA6, eA7, eV4]; exact p4, by rw [eA10]; exact p5, by rw [eA17, eA20]; exact p6, p7, p8.c eA26 eA27 eA28 eA29 eA30 eA31, by rw [eA34, eA36, eA37, eA38, eA39, eA40]; exact p9, by rw [eA42, eA44]; exact p10, p11, by rw [eA17]; exact p12⟩
  · have hc := cc_Xi_poll_1 l D z M (N 0) (N 1) (N 3) (N 30) (N 32) (N 35) (N 37) (N 40) (N 50) (N 51) (N 46) (N 43) (V 22) (nI cl) (nI ns) (N 38) q (N (130 + q)) (N (100 + wa q)) (N (110 + wa q)) (N (120 + wa q)) (N 44) (N 45) (N (140 + q)) (N (150 + q)) (N (160 + q)) (N 41) (N 42) (told q) (A 35 q) _ _ _ _ _ _ _ _ _ _ _ _ _ _ _ L0 _ (mq_ss A (wa q) mk) (ts q) (mq_EF A) CF ent ca ce hX hW.1 (iv_rg _ hq) x2 wy hkl wu hu x3 x4 hL.1 hL.2 hss hts g3 hsn htn (hO.na hu (by omega)) (hO.na x4 (by omega)) (hO.na hL.2 (by omega)) (hO.na hL.2 (by omega)) (hO.ne x3 (by omega)) (hO.ne hL.1 (by omega)) (hO.ne hL.1 (by omega)) (hO.rr (by omega)) (hO.rr (by omega)) (hO.rr (by omega)) (hO.rr (by omega)) (by
      rw [hLf, List.length_map, hLo]
      cases ht : told q with
      | false => rfl
      | true =>
        rw [Bool.true_and]
        exact decide_eq_false (fun hP => hns9 (hnw.mp ⟨ht, hP⟩)))
    rw [hLf, List.length_map, hLo, ek1, ek2] at hc
    refine ⟨_, _, _, _, _, by decide, by decide, by decide, by decide, hc, fun v M1 hp z1 => ?_⟩
    obtain ⟨rfl, wu1, wq1, wd1, wl1, k1, k2, k3, hal, hal2, hal3, hF0, hk1, hk2, hk3, h12, h13, h23⟩ := hp
    have hF : mw_fr (iv_F (fun t => t = 130 + q ∨ t = 140 + q ∨ t = 150 + q ∨ t = 160 + q ∨ t = 43 ∨ t = 44 ∨ t = 45 ∨ t = 40 ∨ t = 41 ∨ t = 42) N) M M1 := hF0.mono (fun p9 h => by
        rcases h with e | e | e | e | e | e | e | e | e | e
        · exact ⟨130 + q, Or.inl rfl, e⟩
        · exact ⟨140 + q, Or.inr (Or.inl rfl), e⟩
        · exact ⟨150 + q, Or.inr (Or.inr (Or.inl rfl)), e⟩
        · exact ⟨160 + q, Or.inr (Or.inr (Or.inr (Or.inl rfl))), e⟩
        · exact ⟨43, Or.inr (Or.inr (Or.inr (Or.inr (Or.inl rfl)))), e⟩
        · exact ⟨44, Or.inr (Or.inr (Or.inr (Or.inr (Or.inr (Or.inl rfl))))), e⟩
        · exact ⟨45, Or.inr (Or.inr (Or.inr (Or.inr (Or.inr (Or.inr (Or.inl rfl)))))), e⟩
        · exact ⟨40, Or.inr (Or.inr (Or.inr (Or.inr (Or.inr (Or.inr (Or.inr (Or.inl rfl))))))), e⟩
        · exact ⟨41, Or.inr (Or.inr (Or.inr (Or.inr (Or.inr (Or.inr (Or.inr (Or.inr (Or.inl rfl)))))))), e⟩
        · exact ⟨42, Or.inr (Or.inr (Or.inr (Or.inr (Or.inr (Or.inr (Or.inr (Or.inr (Or.inr (rfl))))))))), e⟩)
    have hk : ∀ t : Nat, (t = 130 + q ∨ t = 140 + q ∨ t = 150 + q ∨ t = 160 + q ∨ t = 43 ∨ t = 44 ∨ t = 45 ∨ t = 40 ∨ t = 41 ∨ t = 42) → iv_kd M (N t) := by
      intro t q
      rcases q with q | q | q | q | q | q | q | q | q | q
      · rw [q]
        exact kd_o x2 (by decide)
      · rw [q]
        exact kd_o x3 (by decide)
      · rw [q]
        exact kd_a x4
      · rw [q]
        exact kd_b x4
      · rw [q]
        exact kd_o wu (by decide)
      · rw [q]
        exact kd_a hu
      · rw [q]
        exact kd_b hu
      · rw [q]
        exact kd_o hL.1 (by decide)
      · rw [q]
        exact kd_a hL.2
      · rw [q]
        exact kd_b hL.2
    have hR1 : iv_R D M1 N V A S := hR.fr (N1 := N) hO hF (fun t h9 (q : t = 130 + q ∨ t = 140 + q ∨ t = 150 + q ∨ t = 160 + q ∨ t = 43 ∨ t = 44 ∨ t = 45 ∨ t = 40 ∨ t = 41 ∨ t = 42) => by omega) (fun _ _ => rfl)
    have hc2 := cc_Mo_poll_1 l D z M1 (N 199) (fun k => N (200 + k)) V A S q nw (wa q) mk (km (wa q)) hR1 v33 b9 hq y1 (by omega) v15 b7 (by rw [v1, hL1]; exact hL12) g5 g6 (by rw [v1, hL1]; exact hns9)
    rw [v1, hL1] at hc2
    refine ⟨_, _, _, _, _, rfl, hR1.m, by decide, by decide, hc2, fun v2 M2 hp2 z2 => ?_⟩
    obtain ⟨rfl, ⟨V1, A1, hR2, hV1, hA1, hsh, h44, h36, h38, h40, h37, h37o, h39, h39o⟩, hF2⟩ := hp2
    refine ⟨rfl, ?_⟩
    have e45 : V1 45 = mf_or A L &&& A 32 (wa q) := by rw [hV1, va_up_self]
    obtain ⟨N1, hN1⟩ : ∃ f : Nat → Nat, f = (va_up (va_up (va_up N (45) k1) (160 + q) k2) (42) k3) := ⟨_, rfl⟩
    have nx : ∀ t : Nat, (t ≠ 45 ∧ t ≠ 160 + q ∧ t ≠ 42) → N1 t = N t := fun t h => by
      rw [hN1, va_up_ne _ _ h.2.2, va_up_ne _ _ h.2.1, va_up_ne _ _ h.1]
    have nb0 : N1 (45) = k1 := by rw [hN1, va_up_ne _ _ (by omega), va_up_ne _ _ (by omega), va_up_self]
    have nb1 : N1 (160 + q) = k2 := by rw [hN1, va_up_ne _ _ (by omega), va_up_self]
    have nb2 : N1 (42) = k3 := by rw [hN1, va_up_self]
    obtain ⟨o1, ho1⟩ : ∃ f : Nat → Nat, f = fun p => if M p = none then (if p = k1 then 45 else if p = k2 then 160 + q else 42) else o p := ⟨_, rfl⟩
    have hO1 : iv_O D M1 N1 o1 := by
      have zz : ∀ p : Nat, p = D.2 200 0 → M1 p ≠ none → False := fun p h h2 => h2 (by rw [h]; exact z1)
      refine hO.fr hF z1 (fun t => ?_) (fun p hp => by rw [ho1]; exact if_neg hp)
      by_cases t0 : t = 45
      · rw [t0, nb0]
        rcases hk1 with h | h
        · exact Or.inl h
        · rcases hal.row with h5 | h5
          · exact Or.inr (Or.inl h5)
          · exact Or.inr (Or.inr ⟨h, h5, by rw [ho1]; show (if M k1 = none then _ else _) = _; rw [if_pos h, if_pos rfl]⟩)
      · by_cases t1 : t = 160 + q
        · rw [t1, nb1]
          rcases hk2 with h | h
          · exact Or.inl h
          · rcases hal2.row with h5 | h5
            · exact Or.inr (Or.inl h5)
            · exact Or.inr (Or.inr ⟨h, h5, by rw [ho1]; show (if M k2 = none then _ else _) = _; rw [if_pos h, if_neg (fun h6 => zz k2 (h6.trans (h12 h6.symm)) h5), if_pos rfl]⟩)
        · by_cases t2 : t = 42
          · rw [t2, nb2]
            rcases hk3 with h | h
            · exact Or.inl h
            · rcases hal3.row with h5 | h5
              · exact Or.inr (Or.inl h5)
              · exact Or.inr (Or.inr ⟨h, h5, by rw [ho1]; show (if M k3 = none then _ else _) = _; rw [if_pos h, if_neg (fun h6 => zz k3 (h6.trans (h13 h6.symm)) h5), if_neg (fun h6 => zz k3 (h6.trans (h23 h6.symm)) h5)]⟩)
          · exact Or.inl (nx t ⟨t0, t1, t2⟩)
    have en : N1 199 = N 199 := nx 199 (by omega)
    have er : (fun k => N1 (200 + k)) = fun k => N (200 + k) := funext (fun k => nx (200 + k) (by omega))
    have hR1 : iv_R D M1 N1 V A S := by
      unfold iv_R
      rw [en, er]
      exact hR1
    have hR2 : iv_R D M2 N1 V1 A1 S := by
      unfold iv_R
      rw [en, er]
      exact hR2
    have hF2 : mw_fr (mq_P (N1 199) (fun k => N1 (200 + k))) M1 M2 := by
      rw [en, er]
      exact hF2
    have wu2 := wu1
    have hal4 := hal
    rw [← nx 43 (by omega), ← nx 44 (by omega)] at wu2
    rw [← nx 44 (by omega), ← nb0] at hal4
    have eV0 : V1 0 = V 0 := by rw [hV1, va_up_ne _ _ (by decide), va_up_ne _ _ (by decide), va_up_ne _ _ (by decide), va_up_ne _ _ (by decide)]
    have eV1 : V1 1 = V 1 := by rw [hV1, va_up_ne _ _ (by decide), va_up_ne _ _ (by decide), va_up_ne _ _ (by decide), va_up_ne _ _ (by decide)]
    have eV3 : V1 3 = V 3 := by rw [hV1, va_up_ne _ _ (by decide), va_up_ne _ _ (by decide), va_up_ne _ _ (by decide), va_up_ne _ _ (by decide)]
    have eV4 : V1 4 = V 4 := by rw [hV1, va_up_ne _ _ (by decide), va_up_ne _ _ (by decide), va_up_ne _ _ (by decide), va_up_ne _ _ (by decide)]
    have eV9 : V1 9 = V 9 := by rw [hV1, va_up_ne _ _ (by decide), va_up_ne _ _ (by decide), va_up_ne _ _ (by decide), va_up_ne _ _ (by decide)]
    have eV11 : V1 11 = V 11 := by rw [hV1, va_up_ne _ _ (by decide), va_up_ne _ _ (by decide), va_up_ne _ _ (by decide), va_up_ne _ _ (by decide)]
    have eV12 : V1 12 = V 12 := by rw [hV1, va_up_ne _ _ (by decide), va_up_ne _ _ (by decide), va_up_ne _ _ (by decide), va_up_ne _ _ (by decide)]
    have eV14 : V1 14 = V 14 := by rw [hV1, va_up_ne _ _ (by decide), va_up_ne _ _ (by decide), va_up_ne _ _ (by decide), va_up_ne _ _ (by decide)]
    have eV15 : V1 15 = V 15 := by rw [hV1, va_up_ne _ _ (by decide), va_up_ne _ _ (by decide), va_up_ne _ _ (by decide), va_up_ne _ _ (by decide)]
    have eV22 : V1 22 = V 22 := by rw [hV1, va_up_ne _ _ (by decide), va_up_ne _ _ (by decide), va_up_ne _ _ (by decide), va_up_ne _ _ (by decide)]
    have eV23 : V1 23 = V 23 := by rw [hV1, va_up_ne _ _ (by decide), va_up_ne _ _ (by decide), va_up_ne _ _ (by decide), va_up_ne _ _ (by decide)]
    have eV33 : V1 33 = V 33 := by rw [hV1, va_up_ne _ _ (by decide), va_up_ne _ _ (by decide), va_up_ne _ _ (by decide), va_up_ne _ _ (by decide)]
    have eA2 : A1 2 = A 2 := hA1 2 (by decide) (by decide) (by decide) (by decide) (by decide) (by decide) (by decide) (by decide)
    have eA5 : A1 5 = A 5 := hA1 5 (by decide) (by decide) (by decide) (by decide) (by decide) (by decide) (by decide) (by decide)
    have eA6 : A1 6 = A 6 := hA1 6 (by decide) (by decide) (by decide) (by decide) (by decide) (by decide) (by decide) (by decide)
    have eA7 : A1 7 = A 7 := hA1 7 (by decide) (by decide) (by decide) (by decide) (by decide) (by decide) (by decide) (by decide)
    have eA10 : A1 10 = A 10 := hA1 10 (by decide) (by decide) (by decide) (by decide) (by decide) (by decide) (by decide) (by decide)
    have eA16 : A1 16 = A 16 := hA1 16 (by decide) (by decide) (by decide) (by decide) (by decide) (by decide) (by decide) (by decide)
    have eA17 : A1 17 = A 17 := hA1 17 (by decide) (by decide) (by decide) (by decide) (by decide) (by decide) (by decide) (by decide)
    have eA18 : A1 18 = A 18 := hA1 18 (by decide) (by decide) (by decide) (by decide) (by decide) (by decide) (by decide) (by decide)
    have eA19 : A1 19 = A 19 := hA1 19 (by decide) (by decide) (by decide) (by decide) (by decide) (by decide) (by decide) (by decide)
    have eA20 : A1 20 = A 20 := hA1 20 (by decide) (by decide) (by decide) (by decide) (by decide) (by decide) (by decide) (by decide)
    have eA21 : A1 21 = A 21 := hA1 21 (by decide) (by decide) (by decide) (by decide) (by decide) (by decide) (by decide) (by decide)
    have eA24 : A1 24 = A 24 := hA1 24 (by decide) (by decide) (by decide) (by decide) (by decide) (by decide) (by decide) (by decide)
    have eA25 : A1 25 = A 25 := hA1 25 (by decide) (by decide) (by decide) (by decide) (by decide) (by decide) (by decide) (by decide)
    have eA26 : A1 26 = A 26 := hA1 26 (by decide) (by decide) (by decide) (by decide) (by decide) (by decide) (by decide) (by decide)
    have eA27 : A1 27 = A 27 := hA1 27 (by decide) (by decide) (by decide) (by decide) (by decide) (by decide) (by decide) (by decide)
    have eA28 : A1 28 = A 28 := hA1 28 (by decide) (by decide) (by decide) (by decide) (by decide) (by decide) (by decide) (by decide)
    have eA29 : A1 29 = A 29 := hA1 29 (by decide) (by decide) (by decide) (by decide) (by decide) (by decide) (by decide) (by decide)
    have eA30 : A1 30 = A 30 := hA1 30 (by decide) (by decide) (by decide) (by decide) (by decide) (by decide) (by decide) (by decide)
    have eA31 : A1 31 = A 31 := hA1 31 (by decide) (by decide) (by decide) (by decide) (by decide) (by decide) (by decide) (by decide)
    have eA32 : A1 32 = A 32 := hA1 32 (by decide) (by decide) (by decide) (by decide) (by decide) (by decide) (by decide) (by decide)
    have eA34 : A1 34 = A 34 := hA1 34 (by decide) (by decide) (by decide) (by decide) (by decide) (by decide) (by decide) (by decide)
    have eA35 : A1 35 = A 35 := hA1 35 (by decide) (by decide) (by decide) (by decide) (by decide) (by decide) (by decide) (by decide)
    have m1 : iv_O D M1 N1 o1 ∧ iv_X M1 N1 (V1 22) cl ns ∧ iv_B D M1 N1 k (A1 2) ∧ iv_I D M1 N1 ic Ln Dn G ∧ iv_K D M1 N1 lf kc ka pr f4 ∧ iv_E D M1 N1 mk (mq_es A1 mk) (mq_EF A1) ent ∧ iv_C M1 (mq_EF A1) CF ent ca ce ns ∧ iv_A D M1 N1 na (A1 24) (A1 25) (A1 32) fk km (fun a9 => mq_ss A1 a9 mk) ca ∧ iv_W D M1 N1 na nw wa (A1 35) ((va_up told q true)) ((va_up wf q (if L.length = 0 then 0 else fk (wa q)))) ((va_up wm q (if L.length = 0 then 0 else km (wa q)))) ((va_up wg q (mf_or A L &&& A 32 (wa q)))) ((va_up ts q (L.map (mq_sr A (wa q))))) ca ∧ iv_L D M1 N1 ((L.map (mq_sr A (wa q)))) ((if L.length = 0 then 0 else fk (wa q))) ((if L.length = 0 then 0 else km (wa q))) (V1 45) ca ∧ iv_U D M1 N1 ∧ iv_N D M1 N1 ∧ iv_D M1 N1 ∧ iv_T D M1 N1 ws LW := by
      rw [eV22, eA2, eA24, eA25, eA32, eA35, mq_es_c eA16, mq_EF_c eA17 eA18 eA19 eA20 eA21, mq_ssE eA26]
      exact ⟨hO1, hX.fr (N1 := N1) hO hF (fun (q : 0 = 130 + q ∨ 0 = 140 + q ∨ 0 = 150 + q ∨ 0 = 160 + q ∨ 0 = 43 ∨ 0 = 44 ∨ 0 = 45 ∨ 0 = 40 ∨ 0 = 41 ∨ 0 = 42) => by omega) (fun t h9 => nx t (by omega)), hB.fr (N1 := N1) hO hF (fun t h8 h9 (q : t = 130 + q ∨ t = 140 + q ∨ t = 150 + q ∨ t = 160 + q ∨ t = 43 ∨ t = 44 ∨ t = 45 ∨ t = 40 ∨ t = 41 ∨ t = 42) => by omega) (fun t h8 h9 => nx t (by omega)), hI.fr (N1 := N1) hO hF (fun t h8 h9 (q : t = 130 + q ∨ t = 140 + q ∨ t = 150 + q ∨ t = 160 + q ∨ t = 43 ∨ t = 44 ∨ t = 45 ∨ t = 40 ∨ t = 41 ∨ t = 42) => by omega) (fun t h8 h9 => nx t (by omega)), hK.fr (N1 := N1) hO hF (fun t h8 h9 (q : t = 130 + q ∨ t = 140 + q ∨ t = 150 + q ∨ t = 160 + q ∨ t = 43 ∨ t = 44 ∨ t = 45 ∨ t = 40 ∨ t = 41 ∨ t = 42) => by omega) (fun t h8 h9 => nx t (by omega)), hE.fr (N1 := N1) hO hF z1 hk (fun t h8 h9 (q : t = 130 + q ∨ t = 140 + q ∨ t = 150 + q ∨ t = 160 + q ∨ t = 43 ∨ t = 44 ∨ t = 45 ∨ t = 40 ∨ t = 41 ∨ t = 42) => by omega) (fun t h8 h9 => nx t (by omega)), hC.fr hF hk, hA.fr (N1 := N1) hO hF z1 (fun t h9 (q : t = 130 + q ∨ t = 140 + q ∨ t = 150 + q ∨ t = 160 + q ∨ t = 43 ∨ t = 44 ∨ t = 45 ∨ t = 40 ∨ t = 41 ∨ t = 42) => by omega) (fun t h9 => nx t (by omega)) b8, ⟨by
          rw [nx 37 (by omega), nx 38 (by omega), iv_mp (g := fun w => N (130 + w)) (fun w hw => nx (130 + w) (by omega))]
          exact iv_al hO hF z1 hW.1 (fun (h : 37 = 130 + q ∨ 37 = 140 + q ∨ 37 = 150 + q ∨ 37 = 160 + q ∨ 37 = 43 ∨ 37 = 44 ∨ 37 = 45 ∨ 37 = 40 ∨ 37 = 41 ∨ 37 = 42) => by omega) (fun (h : 38 = 130 + q ∨ 38 = 140 + q ∨ 38 = 150 + q ∨ 38 = 160 + q ∨ 38 = 43 ∨ 38 = 44 ∨ 38 = 45 ∨ 38 = 40 ∨ 38 = 41 ∨ 38 = 42) => by omega), fun w hw => by
          by_cases hwn : w = q
          · subst hwn
            rw [nx (130 + w) (by omega), nx (140 + w) (by omega), nx (150 + w) (by omega), nb1, nx (100 + wa w) (by omega), va_up_self, va_up_self, va_up_self, va_up_self, va_up_self]
            exact ⟨x1, wq1, wd1, hal2⟩
          · obtain ⟨c1, c2, c3, c4⟩ := hW.2 w hw
            rw [nx (130 + w) (by omega), nx (140 + w) (by omega), nx (150 + w) (by omega), nx (160 + w) (by omega), nx (100 + wa w) (by omega), va_up_ne _ _ hwn, va_up_ne _ _ hwn, va_up_ne _ _ hwn, va_up_ne _ _ hwn, va_up_ne _ _ hwn]
            exact ⟨c1, iv_at hO hF c2 (fun (h : 130 + w = 130 + q ∨ 130 + w = 140 + q ∨ 130 + w = 150 + q ∨ 130 + w = 160 + q ∨ 130 + w = 43 ∨ 130 + w = 44 ∨ 130 + w = 45 ∨ 130 + w = 40 ∨ 130 + w = 41 ∨ 130 + w = 42) => by omega), iv_at hO hF c3 (fun (h : 140 + w = 130 + q ∨ 140 + w = 140 + q ∨ 140 + w = 150 + q ∨ 140 + w = 160 + q ∨ 140 + w = 43 ∨ 140 + w = 44 ∨ 140 + w = 45 ∨ 140 + w = 40 ∨ 140 + w = 41 ∨ 140 + w = 42) => by omega), iv_al hO hF z1 c4 (fun (h : 150 + w = 130 + q ∨ 150 + w = 140 + q ∨ 150 + w = 150 + q ∨ 150 + w = 160 + q ∨ 150 + w = 43 ∨ 150 + w = 44 ∨ 150 + w = 45 ∨ 150 + w = 40 ∨ 150 + w = 41 ∨ 150 + w = 42) => by omega) (fun (h : 160 + w = 130 + q ∨ 160 + w = 140 + q ∨ 160 + w = 150 + q ∨ 160 + w = 160 + q ∨ 160 + w = 43 ∨ 160 + w = 44 ∨ 160 + w = 45 ∨ 160 + w = 40 ∨ 160 + w = 41 ∨ 160 + w = 42) => by omega)⟩⟩, ⟨by rw [nx 40 (by omega), nx 41 (by omega), e45]; exact wl1, by rw [nx 41 (by omega), nb2]; exact hal3⟩, ⟨_, _, _, _, wu2, hal4⟩, hN.fr (N1 := N1) hO hF z1 (fun t h8 h9 (q : t = 130 + q ∨ t = 140 + q ∨ t = 150 + q ∨ t = 160 + q ∨ t = 43 ∨ t = 44 ∨ t = 45 ∨ t = 40 ∨ t = 41 ∨ t = 42) => by omega) (fun t h8 h9 => nx t (by omega)), hD.fr (N1 := N1) hO hF (fun (q : 50 = 130 + q ∨ 50 = 140 + q ∨ 50 = 150 + q ∨ 50 = 160 + q ∨ 50 = 43 ∨ 50 = 44 ∨ 50 = 45 ∨ 50 = 40 ∨ 50 = 41 ∨ 50 = 42) => by omega) (nx 50 (by omega)), hT.fr (N1 := N1) hO hF (fun t h8 h9 (q : t = 130 + q ∨ t = 140 + q ∨ t = 150 + q ∨ t = 160 + q ∨ t = 43 ∨ t = 44 ∨ t = 45 ∨ t = 40 ∨ t = 41 ∨ t = 42) => by omega) (fun t h8 h9 => nx t (by omega))⟩
    obtain ⟨mhO, mhX, mhB, mhI, mhK, mhE, mhC, mhA, mhW, mhL, mhU, mhN, mhD, mhT⟩ := iv_frR hR1 hF2 z2 b8 b9 m1
    exact ⟨N1, o1, V1, A1, S, k, ic, Ln, Dn, G, lf, cl, kc, ka, pr, f4, g4, gm, mk, ent, ns, ca, ce, CF, na, fk, km, nw, wa, (va_up told q true), (va_up wf q (if L.length = 0 then 0 else fk (wa q))), (va_up wm q (if L.length = 0 then 0 else km (wa q))), (va_up wg q (mf_or A L &&& A 32 (wa q))), (va_up ts q (L.map (mq_sr A (wa q)))), (L.map (mq_sr A (wa q))), (if L.length = 0 then 0 else fk (wa q)), (if L.length = 0 then 0 else km (wa q)), ws, LW, nx 0 (by omega), nx 199 (by omega), mhO, mhX, mhB, mhI, mhK, mhE, mhC, mhA, mhW, mhL, mhU, mhN, mhD, mhT, hR2, ⟨eV0.trans v0, eV1.trans v1, eV3.trans v3, eV9.trans v9, eV11.trans v11, eV12.trans v12, eV14.trans v14, eV15.trans v15, eV23.trans v23, eV33.trans v33, by rw [hV1, va_up_ne _ _ (by decide), va_up_ne _ _ (by decide), va_up_self, List.length_map], by rw [hV1, va_up_ne _ _ (by decide), va_up_self]⟩, ⟨b1, by omega, b3, by omega, b5, by omega, b7, b8, b9, by rw [List.length_map]; exact hL12, by split <;> omega, by rw [mq_es_c eA16]; exact b12⟩, by rw [eA2]; exact p3, by rw [eA5, eA6, eA7, eV4]; exact p4, by rw [eA10]; exact p5, by rw [eA17, eA20]; exact p6, p7, p8.c eA26 eA27 eA28 eA29 eA30 eA31, fun w hw => by
        rw [eA34, h36, h38, h40]
        by_cases hwn : w = q
        · subst hwn
          rw [ux_s, ux_s, ux_s, va_up_self, va_up_self, va_up_self, va_up_self, va_up_self]
          refine ⟨y1, by split <;> omega, by split <;> omega, fun n hn => ?_, (fun h => by cases h), fun _ => ⟨by rw [List.length_map], by rw [List.length_map]; exact hL12, fun i n hn => ?_, rfl, fun p hp => ?_, rfl, fun h => ?_⟩⟩
          · obtain ⟨i, hi⟩ := List.getElem?_of_mem hn
            obtain ⟨e9, h9, -, h2, -⟩ := hLi i n hi
            exact h2
          · obtain ⟨e9, h9, -, h2, h3, -⟩ := hLi i n hn
            exact (h37 i e9 h9).trans h3
          · by_cases h0 : L.length = 0
            · rw [if_pos h0] at hp
              exact absurd hp (Nat.not_lt_zero _)
            · have h9 := h39 p hp
              rw [if_neg h0] at hp ⊢
              exact h9.trans (g8 p hp)
          · have h0 : L.length = 0 := by rw [List.map_eq_nil_iff.mp h]; rfl
            exact ⟨if_pos h0, if_pos h0⟩
        · obtain ⟨c1, c2, c3, c4, c5, c6⟩ := p9 w hw
          rw [ux_n _ _ hwn, ux_n _ _ hwn, ux_n _ _ hwn, va_up_ne _ _ hwn, va_up_ne _ _ hwn, va_up_ne _ _ hwn, va_up_ne _ _ hwn, va_up_ne _ _ hwn]
          refine ⟨c1, c2, c3, c4, c5, fun ht => ?_⟩
          obtain ⟨d1, d2, d3, d4, d5, d6, d7⟩ := c6 ht
          exact ⟨d1, d2, fun i n hn => (h37o _ (by have := (List.getElem?_eq_some_iff.mp hn).1; omega)).trans (d3 i n hn), d4, fun p hp => (h39o _ (by omega)).trans (d5 p hp), d6, d7⟩, ⟨by split <;> omega, fun i hi => by
        by_cases h0 : L.length = 0
        · rw [if_pos h0] at hi
          exact absurd hi (Nat.not_lt_zero _)
        · have h9 := h44 i hi
          rw [if_neg h0] at hi ⊢
          exact h9.trans (g8 i hi), fun i n hn => by
        obtain ⟨e9, h9, -, h2, h3, h4, h5, h6, h7⟩ := hLi i n hn
        obtain ⟨s0, s1, s2, s3, s4⟩ := hsh i e9 (List.getElem?_eq_some_iff.mp h9).1 h9
        exact ⟨h2, s0.trans (by rw [h4]), s1.trans h3, s2.trans h5.symm, s3.trans h6.symm, s4.trans h7.symm⟩⟩, p11, by rw [eA17]; exact p12⟩
