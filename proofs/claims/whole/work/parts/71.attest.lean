/-! attest -/
set_option maxHeartbeats 4000000 in
set_option maxRecDepth 100000 in
theorem iv_attest (l : Launch) {D : va_G} {z x mm j : Nat} {M : mw_M} (a : Nat → Int32) (hj : j < 512) (h : iv D x mm j M) : iv_go l D z x mm yy_Xi_attest bb_Xi_attest 4 (Option.some Jvm.ClassFile.FieldType.int) yy_Mo_attest bb_Mo_attest 4 (Option.some Jvm.ClassFile.FieldType.int) [.int (a 1), .int (a 2)] M (iv D x mm (j + 1)) := by
  have hh := h
  obtain ⟨N, o, V, A, S, k, ic, Ln, Dn, G, lf, cl, kc, ka, pr, f4, g4, gm, mk, ent, ns, ca, ce, CF, na, fk, km, nw, wa, told, wf, wm, wg, ts, ls, lk, lm, ws, LW, e0, e1, hO, hX, hB, hI, hK, hE, hC, hA, hW, hL, hU, hN, hD, hT, hR, pV, pB, p3, p4, p5, p6, p7, p8, p9, p10, p11, p12⟩ := h
  subst e0 e1
  obtain ⟨v0, v1, v3, v9, v11, v12, v14, v15, v23, v33, v41, v43⟩ := pV
  obtain ⟨b1, b2, b3, b4, b5, b6, b7, b8, b9, b10, b11, b12⟩ := pB
  obtain ⟨-, -, -, -, wd, -⟩ := hI.1
  have hic := p4.2.1
  rcases iv_hs (k := ic) (a 1) with hm | ⟨i0, hi0, e1⟩
  · exact iv_same hh (cc_Xi_attest_m l D z M (N 0) (N 1) (N 3) (N 30) (N 32) (N 35) (N 37) (N 40) (N 50) (N 51) (N 46) (N 43) (V 22) (nI cl) (nI ns) (N 4) (N 5) (N 6) ic (a 1) (a 2) hX wd (by omega) hm) (cc_Mo_attest_m l D z M (N 199) _ ic (a 1) (a 2) hR.m (mq_vi rfl p4.1.1) (by omega) hm) (by decide) (by decide) (by decide) (by decide) (by decide) (by decide)
  rw [e1]
  have hai : ∀ j y : Nat, ((List.range na).map (fun a => N (100 + a)))[j]? = some y → ∃ k s0 f0 e0 g0, M y = some (.inr (10, [.int (A 24 j), .ref k, .int s0, .int f0, .int e0, .int g0])) := fun i y hy => by
    have hin : i < na := by
      have := (List.getElem?_eq_some_iff.mp hy).1
      rw [iv_rl] at this
      exact this
    rw [iv_rg _ hin] at hy
    cases hy
    exact ⟨_, _, _, _, _, (hA.2 i hin).1⟩
  by_cases hW9 : at_wr Ln Dn G i0 (a 2)
  · exact iv_same hh (cc_Xi_attest_w l D z M (N 0) (N 1) (N 3) (N 30) (N 32) (N 35) (N 37) (N 40) (N 50) (N 51) (N 46) (N 43) (V 22) (nI cl) (nI ns) (N 4) (N 5) (N 6) ic Ln Dn G (N 36) i0 (a 2) _ (A 24)  hX hI.1 p4.2 hA.1 hai hi0 hW9 ) (cc_Mo_attest_w l D z M (N 199) (fun k => N (200 + k)) V A S ic Ln Dn G i0 na 0 (a 2) hR p4.1 p4.2 hi0 v23 b8 hW9 ) (by decide) (by decide) (by decide) (by decide) (by decide) (by decide)
  obtain ⟨q, hq1, hq2⟩ := iv_fst (A 24) (nI i0) na
  rcases hq2 with hqn | ⟨hq, hq3⟩
  · subst hqn
    have hno : ∀ i : Nat, i < ((List.range q).map (fun a => N (100 + a))).length → A 24 i ≠ nI i0 := fun i hi => hq1 i (by rw [iv_rl] at hi; exact hi)
    by_cases h3 : q = 3
    · exact iv_same hh (cc_Xi_attest_f l D z M (N 0) (N 1) (N 3) (N 30) (N 32) (N 35) (N 37) (N 40) (N 50) (N 51) (N 46) (N 43) (V 22) (nI cl) (nI ns) (N 4) (N 5) (N 6) ic Ln Dn G (N 36) i0 (a 2) _ (A 24)  hX hI.1 p4.2 hA.1 hai hi0 hW9 hno (by rw [iv_rl]; omega)) (cc_Mo_attest_f l D z M (N 199) (fun k => N (200 + k)) V A S ic Ln Dn G i0 q q (a 2) hR p4.1 p4.2 hi0 v23 b8 hW9 hq1 (Or.inl rfl) h3) (by decide) (by decide) (by decide) (by decide) (by decide) (by decide)
    · have h3 : q < 3 := by omega
      have hel : els_ok M ((List.range q).map (fun a => N (100 + a))) := fun y hy => by
        obtain ⟨w, hw, rfl⟩ := List.mem_map.mp hy
        exact ⟨10, _, _, (hA.2 w (List.mem_range.mp hw)).1, rfl, by decide +kernel, by decide⟩
      have hc := cc_Xi_attest_n l D z M (N 0) (N 1) (N 3) (N 30) (N 32) (N 35) (N 37) (N 40) (N 50) (N 51) (N 46) (N 43) (V 22) (nI cl) (nI ns) (N 4) (N 5) (N 6) ic Ln Dn G (N 36) i0 (a 2) _ (A 24)  hX hI.1 p4.2 hA.1 hai hi0 hW9 hno hel (by rw [iv_rl]; exact h3)
      rw [iv_rl] at hc
      refine ⟨_, _, _, _, _, by decide, by decide, by decide, by decide, hc, fun v M1 hp z1 => ?_⟩
      obtain ⟨rfl, y0, c0, r0, y1, c1, wy, hal0, hala, hF0, hr0⟩ := hp
      have hF : mw_fr (iv_F (fun t => t = 35 ∨ t = 36) N) M M1 := hF0.mono (fun p9 h => by
          rcases h with e | e
          · exact ⟨35, Or.inl rfl, e⟩
          · exact ⟨36, Or.inr (rfl), e⟩)
      have hk : ∀ t : Nat, (t = 35 ∨ t = 36) → iv_kd M (N t) := by
        intro t q
        rcases q with q | q
        · rw [q]
          exact kd_a hA.1
        · rw [q]
          exact kd_b hA.1
      have hR1 : iv_R D M1 N V A S := hR.fr (N1 := N) hO hF (fun t h9 (q : t = 35 ∨ t = 36) => by omega) (fun _ _ => rfl)
      have hc2 := cc_Mo_attest_y l D z M1 (N 199) (fun k => N (200 + k)) V A S ic Ln Dn G i0 q q (a 2) hR1 p4.1 p4.2 hi0 v23 b8 hW9 hq1 (Or.inl rfl) h3
      rw [if_pos rfl] at hc2
      refine ⟨_, _, _, _, _, rfl, hR1.m, by decide, by decide, hc2, fun v2 M2 hp2 z2 => ?_⟩
      obtain ⟨rfl, ⟨A1, hR2, hA1, h24, h25, h26, h26o, h31, h32⟩, hF2⟩ := hp2
      refine ⟨rfl, ?_⟩
      obtain ⟨mo0, wc⟩ := hal0.cell
      have a1 : c0 ≠ y0 := mw_ne wc wy (fun h => by cases h)
      have a4 := hala.nr wy
      have a5 := hala.nr wc
      have ssz : mq_ss A1 q mk = [] := mq_ssN (fun e he => h26 e (by omega))
      have h26x : ∀ b e : Nat, b ≠ q → e < 60 → A1 26 (60 * b + e) = A 26 (60 * b + e) := fun b e hb he => h26o _ (by omega)
      have sso : ∀ b : Nat, b ≠ q → mq_ss A1 b mk = mq_ss A b mk := fun b hb => mq_ssL (fun e he => h26x b e hb (by omega))
      obtain ⟨N1, hN1⟩ : ∃ f : Nat → Nat, f = (va_up (va_up (va_up (va_up N (100 + q) y0) (110 + q) c0) (120 + q) (D.2 200 0)) (36) r0) := ⟨_, rfl⟩
      have nx : ∀ t : Nat, (t ≠ 100 + q ∧ t ≠ 110 + q ∧ t ≠ 120 + q ∧ t ≠ 36) → N1 t = N t := fun t h => by
        rw [hN1, va_up_ne _ _ h.2.2.2, va_up_ne _ _ h.2.2.1, va_up_ne _ _ h.2.1, va_up_ne _ _ h.1]
      have nb0 : N1 (100 + q) = y0 := by rw [hN1, va_up_ne _ _ (by omega), va_up_ne _ _ (by omega), va_up_ne _ _ (by omega), va_up_self]
      have nb1 : N1 (110 + q) = c0 := by rw [hN1, va_up_ne _ _ (by omega), va_up_ne _ _ (by omega), va_up_self]
      have nb2 : N1 (120 + q) = (D.2 200 0) := by rw [hN1, va_up_ne _ _ (by omega), va_up_self]
      have nb3 : N1 (36) = r0 := by rw [hN1, va_up_self]
      obtain ⟨o1, ho1⟩ : ∃ f : Nat → Nat, f = fun p => if M p = none then (if p = y0 then 100 + q else if p = c0 then 110 + q else 36) else o p := ⟨_, rfl⟩
      have hO1 : iv_O D M1 N1 o1 := by
        refine hO.fr hF z1 (fun t => ?_) (fun p hp => by rw [ho1]; exact if_neg hp)
        by_cases t0 : t = 100 + q
        · rw [t0, nb0]
          exact Or.inr (Or.inr ⟨y1, iv_nn wy, by rw [ho1]; show (if M y0 = none then _ else _) = _; rw [if_pos y1, if_pos rfl]⟩)
        · by_cases t1 : t = 110 + q
          · rw [t1, nb1]
            exact Or.inr (Or.inr ⟨c1, iv_nn wc, by rw [ho1]; show (if M c0 = none then _ else _) = _; rw [if_pos c1, if_neg a1, if_pos rfl]⟩)
          · by_cases t3 : t = 120 + q
            · rw [t3, nb2]
              exact Or.inr (Or.inl rfl)
            · by_cases t4 : t = 36
              · rw [t4, nb3]
                rcases hr0 with h | h
                · exact Or.inl h
                · rcases hala.row with h5 | h5
                  · exact Or.inr (Or.inl h5)
                  · exact Or.inr (Or.inr ⟨h, h5, by rw [ho1]; show (if M r0 = none then _ else _) = _; rw [if_pos h, if_neg (Ne.symm a4), if_neg (Ne.symm a5)]⟩)
              · exact Or.inl (nx t ⟨t0, t1, t3, t4⟩)
      have en : N1 199 = N 199 := nx 199 (by omega)
      have er : (fun k => N1 (200 + k)) = fun k => N (200 + k) := funext (fun k => nx (200 + k) (by omega))
      have hR1 : iv_R D M1 N1 V A S := by
        unfold iv_R
        rw [en, er]
        exact hR1
      have hR2 : iv_R D M2 N1 (va_up V 23 (nI (q + 1))) A1 S := by
        unfold iv_R
        rw [en, er]
        exact hR2
      have hF2 : mw_fr (mq_P (N1 199) (fun k => N1 (200 + k))) M1 M2 := by
        rw [en, er]
        exact hF2
      have eV0 : (va_up V 23 (nI (q + 1))) 0 = V 0 := va_up_ne _ _ (by decide)
      have eV1 : (va_up V 23 (nI (q + 1))) 1 = V 1 := va_up_ne _ _ (by decide)
      have eV3 : (va_up V 23 (nI (q + 1))) 3 = V 3 := va_up_ne _ _ (by decide)
      have eV4 : (va_up V 23 (nI (q + 1))) 4 = V 4 := va_up_ne _ _ (by decide)
      have eV9 : (va_up V 23 (nI (q + 1))) 9 = V 9 := va_up_ne _ _ (by decide)
      have eV11 : (va_up V 23 (nI (q + 1))) 11 = V 11 := va_up_ne _ _ (by decide)
      have eV12 : (va_up V 23 (nI (q + 1))) 12 = V 12 := va_up_ne _ _ (by decide)
      have eV14 : (va_up V 23 (nI (q + 1))) 14 = V 14 := va_up_ne _ _ (by decide)
      have eV15 : (va_up V 23 (nI (q + 1))) 15 = V 15 := va_up_ne _ _ (by decide)
      have eV22 : (va_up V 23 (nI (q + 1))) 22 = V 22 := va_up_ne _ _ (by decide)
      have eV33 : (va_up V 23 (nI (q + 1))) 33 = V 33 := va_up_ne _ _ (by decide)
      have eV41 : (va_up V 23 (nI (q + 1))) 41 = V 41 := va_up_ne _ _ (by decide)
      have eV43 : (va_up V 23 (nI (q + 1))) 43 = V 43 := va_up_ne _ _ (by decide)
      have eV45 : (va_up V 23 (nI (q + 1))) 45 = V 45 := va_up_ne _ _ (by decide)
      have eA2 : A1 2 = A 2 := hA1 2 (by decide) (by decide) (by decide) (by decide) (by decide)
      have eA5 : A1 5 = A 5 := hA1 5 (by decide) (by decide) (by decide) (by decide) (by decide)
      have eA6 : A1 6 = A 6 := hA1 6 (by decide) (by decide) (by decide) (by decide) (by decide)
      have eA7 : A1 7 = A 7 := hA1 7 (by decide) (by decide) (by decide) (by decide) (by decide)
      have eA10 : A1 10 = A 10 := hA1 10 (by decide) (by decide) (by decide) (by decide) (by decide)
      have eA16 : A1 16 = A 16 := hA1 16 (by decide) (by decide) (by decide) (by decide) (by decide)
      have eA17 : A1 17 = A 17 := hA1 17 (by decide) (by decide) (by decide) (by decide) (by decide)
      have eA18 : A1 18 = A 18 := hA1 18 (by decide) (by decide) (by decide) (by decide) (by decide)
      have eA19 : A1 19 = A 19 := hA1 19 (by decide) (by decide) (by decide) (by decide) (by decide)
      have eA20 : A1 20 = A 20 := hA1 20 (by decide) (by decide) (by decide) (by decide) (by decide)
      have eA21 : A1 21 = A 21 := hA1 21 (by decide) (by decide) (by decide) (by decide) (by decide)
      have eA27 : A1 27 = A 27 := hA1 27 (by decide) (by decide) (by decide) (by decide) (by decide)
      have eA28 : A1 28 = A 28 := hA1 28 (by decide) (by decide) (by decide) (by decide) (by decide)
      have eA29 : A1 29 = A 29 := hA1 29 (by decide) (by decide) (by decide) (by decide) (by decide)
      have eA30 : A1 30 = A 30 := hA1 30 (by decide) (by decide) (by decide) (by decide) (by decide)
      have eA34 : A1 34 = A 34 := hA1 34 (by decide) (by decide) (by decide) (by decide) (by decide)
      have eA35 : A1 35 = A 35 := hA1 35 (by decide) (by decide) (by decide) (by decide) (by decide)
      have eA36 : A1 36 = A 36 := hA1 36 (by decide) (by decide) (by decide) (by decide) (by decide)
      have eA37 : A1 37 = A 37 := hA1 37 (by decide) (by decide) (by decide) (by decide) (by decide)
      have eA38 : A1 38 = A 38 := hA1 38 (by decide) (by decide) (by decide) (by decide) (by decide)
      have eA39 : A1 39 = A 39 := hA1 39 (by decide) (by decide) (by decide) (by decide) (by decide)
      have eA40 : A1 40 = A 40 := hA1 40 (by decide) (by decide) (by decide) (by decide) (by decide)
      have eA42 : A1 42 = A 42 := hA1 42 (by decide) (by decide) (by decide) (by decide) (by decide)
      have eA44 : A1 44 = A 44 := hA1 44 (by decide) (by decide) (by decide) (by decide) (by decide)
      have m1 : iv_O D M1 N1 o1 ∧ iv_X M1 N1 (((va_up V 23 (nI (q + 1)))) 22) cl ns ∧ iv_B D M1 N1 k (A1 2) ∧ iv_I D M1 N1 ic Ln Dn G ∧ iv_K D M1 N1 lf kc ka pr f4 ∧ iv_E D M1 N1 mk (mq_es A1 mk) (mq_EF A1) ent ∧ iv_C M1 (mq_EF A1) CF ent ca ce ns ∧ iv_A D M1 N1 ((q + 1)) (A1 24) (A1 25) (A1 32) ((va_up fk q 0)) ((va_up km q 0)) (fun a9 => mq_ss A1 a9 mk) ca ∧ iv_W D M1 N1 ((q + 1)) nw wa (A1 35) told wf wm wg ts ca ∧ iv_L D M1 N1 ls lk lm (((va_up V 23 (nI (q + 1)))) 45) ca ∧ iv_U D M1 N1 ∧ iv_N D M1 N1 ∧ iv_D M1 N1 ∧ iv_T D M1 N1 ws LW := by
        rw [eV22, eV45, eA2, eA35, mq_es_c eA16, mq_EF_c eA17 eA18 eA19 eA20 eA21]
        exact ⟨hO1, hX.fr (N1 := N1) hO hF (fun (q : 0 = 35 ∨ 0 = 36) => by omega) (fun t h9 => nx t (by omega)), hB.fr (N1 := N1) hO hF (fun t h8 h9 (q : t = 35 ∨ t = 36) => by omega) (fun t h8 h9 => nx t (by omega)), hI.fr (N1 := N1) hO hF (fun t h8 h9 (q : t = 35 ∨ t = 36) => by omega) (fun t h8 h9 => nx t (by omega)), hK.fr (N1 := N1) hO hF (fun t h8 h9 (q : t = 35 ∨ t = 36) => by omega) (fun t h8 h9 => nx t (by omega)), hE.fr (N1 := N1) hO hF z1 hk (fun t h8 h9 (q : t = 35 ∨ t = 36) => by omega) (fun t h8 h9 => nx t (by omega)), hC.fr hF hk, ⟨by
              rw [nx 35 (by omega), nb3, List.range_succ, List.map_append, List.map_cons, List.map_nil, nb0, iv_mp (g := fun w => N (100 + w)) (fun w hw => nx (100 + w) (by omega))]
              exact hala, fun w hw => by
              show _ ∧ al_at D M1 (N1 (110 + w)) (N1 (120 + w)) ((mq_ss A1 w mk).map ca)
              by_cases hwn : w = q
              · subst hwn
                rw [h24, h25, h32, ux_s, ux_s, ux_s, nb0, nb1, nb2, va_up_self, va_up_self, ssz]
                exact ⟨wy, hal0⟩
              · have hw2 : w < q := by omega
                obtain ⟨x1, x2⟩ := hA.2 w hw2
                rw [h24, h25, h32, ux_n _ _ hwn, ux_n _ _ hwn, ux_n _ _ hwn, nx (100 + w) (by omega), nx (110 + w) (by omega), nx (120 + w) (by omega), va_up_ne _ _ hwn, va_up_ne _ _ hwn, sso w hwn]
                exact ⟨iv_at hO hF x1 (fun (h : 100 + w = 35 ∨ 100 + w = 36) => by omega), iv_al hO hF z1 x2 (fun (h : 110 + w = 35 ∨ 110 + w = 36) => by omega) (fun (h : 120 + w = 35 ∨ 120 + w = 36) => by omega)⟩⟩, iv_W.mono (hW.fr (N1 := N1) hO hF z1 (fun t h9 (q : t = 35 ∨ t = 36) => by omega) (fun t h9 => nx t (by omega)) b9) (Nat.le_succ _), hL.fr (N1 := N1) hO hF z1 (fun t h8 h9 (q : t = 35 ∨ t = 36) => by omega) (fun t h8 h9 => nx t (by omega)), hU.fr (N1 := N1) hO hF z1 (fun t h8 h9 (q : t = 35 ∨ t = 36) => by omega) (fun t h8 h9 => nx t (by omega)), hN.fr (N1 := N1) hO hF z1 (fun t h8 h9 (q : t = 35 ∨ t = 36) => by omega) (fun t h8 h9 => nx t (by omega)), hD.fr (N1 := N1) hO hF (fun (q : 50 = 35 ∨ 50 = 36) => by omega) (nx 50 (by omega)), hT.fr (N1 := N1) hO hF (fun t h8 h9 (q : t = 35 ∨ t = 36) => by omega) (fun t h8 h9 => nx t (by omega))⟩
      obtain ⟨mhO, mhX, mhB, mhI, mhK, mhE, mhC, mhA, mhW, mhL, mhU, mhN, mhD, mhT⟩ := iv_frR hR1 hF2 z2 (by omega) b9 m1
      exact ⟨N1, o1, (va_up V 23 (nI (q + 1))), A1, S, k, ic, Ln, Dn, G, lf, cl, kc, ka, pr, f4, g4, gm, mk, ent, ns, ca, ce, CF, (q + 1), (va_up fk q 0), (va_up km q 0), nw, wa, told, wf, wm, wg, ts, ls, lk, lm, ws, LW, nx 0 (by omega), nx 199 (by omega), mhO, mhX, mhB, mhI, mhK, mhE, mhC, mhA, mhW, mhL, mhU, mhN, mhD, mhT, hR2, ⟨eV0.trans v0, eV1.trans v1, eV3.trans v3, eV9.trans v9, eV11.trans v11, eV12.trans v12, eV14.trans v14, eV15.trans v15, va_up_self _ _ _, eV33.trans v33, eV41.trans v41, eV43.trans v43⟩, ⟨b1, by omega, b3, by omega, b5, by omega, b7, by omega, b9, b10, b11, by rw [mq_es_c eA16]; exact b12⟩, by rw [eA2]; exact p3, by rw [eA5, eA6, eA7, eV4]; exact p4, by rw [eA10]; exact p5, by rw [eA17, eA20]; exact p6, p7, fun a9 h9 => by
              by_cases e9 : a9 = q
              · rw [e9, ssz, h31, ux_s, va_up_self, va_up_self]
                exact ⟨fun e he hk0 => absurd (h26 e (by omega)) hk0, fun e _ h2 => h26 e h2, by decide, rfl, by decide, by decide, fun i hi => absurd hi (Nat.not_lt_zero _), fun _ n hn => absurd hn List.not_mem_nil⟩
              · obtain ⟨c1, c2, c3, c4, c5, c6, c7, c8⟩ := p8 a9 (by omega)
                rw [sso a9 e9, h31, ux_n _ _ e9, va_up_ne _ _ e9, va_up_ne _ _ e9, eA30]
                refine ⟨fun e he hk0 => ?_, fun e h1 h2 => ?_, c3, c4, c5, c6, c7, c8⟩
                · rw [h26x a9 e e9 (by omega)] at hk0 ⊢
                  rw [eA27, eA28, eA29]
                  exact c1 e he hk0
                · rw [h26x a9 e e9 h2]
                  exact c2 e h1 h2, by rw [eA34, eA36, eA37, eA38, eA39, eA40]; exact p9, by rw [eA42, eA44]; exact p10, p11, by rw [eA17]; exact p12⟩
  · obtain ⟨wy, hkl⟩ := hA.2 q hq
    rw [hq3] at wy
    have hqn : q ≠ na := by omega
    refine ⟨_, _, _, _, _, by decide, by decide, by decide, by decide, cc_Xi_attest_a l D z M (N 0) (N 1) (N 3) (N 30) (N 32) (N 35) (N 37) (N 40) (N 50) (N 51) (N 46) (N 43) (V 22) (nI cl) (nI ns) (N 4) (N 5) (N 6) ic Ln Dn G (N 36) i0 (a 2) _ (A 24) q (N (100 + q)) (N (110 + q)) (N (120 + q)) _ _ _ _ _ hX hI.1 p4.2 hA.1 hai hi0 hW9 (iv_rg _ hq) hq3 hq1 wy hkl, fun v M1 hp z1 => ?_⟩
    obtain ⟨rfl, wy1, hal0, hF0⟩ := hp
    have hF : mw_fr (iv_F (fun t => t = 100 + q ∨ t = 110 + q ∨ t = 120 + q) N) M M1 := hF0.mono (fun p9 h => by
        rcases h with e | e | e
        · exact ⟨100 + q, Or.inl rfl, e⟩
        · exact ⟨110 + q, Or.inr (Or.inl rfl), e⟩
        · exact ⟨120 + q, Or.inr (Or.inr (rfl)), e⟩)
    have hk : ∀ t : Nat, (t = 100 + q ∨ t = 110 + q ∨ t = 120 + q) → iv_kd M (N t) := by
      intro t q
      rcases q with q | q | q
      · rw [q]
        exact kd_o wy (by decide)
      · rw [q]
        exact kd_a hkl
      · rw [q]
        exact kd_b hkl
    have hR1 : iv_R D M1 N V A S := hR.fr (N1 := N) hO hF (fun t h9 (q : t = 100 + q ∨ t = 110 + q ∨ t = 120 + q) => by omega) (fun _ _ => rfl)
    have hc2 := cc_Mo_attest_y l D z M1 (N 199) (fun k => N (200 + k)) V A S ic Ln Dn G i0 na q (a 2) hR1 p4.1 p4.2 hi0 v23 b8 hW9 hq1 (Or.inr ⟨hq, hq3⟩) (by omega)
    rw [if_neg hqn] at hc2
    refine ⟨_, _, _, _, _, rfl, hR1.m, by decide, by decide, hc2, fun v2 M2 hp2 z2 => ?_⟩
    obtain ⟨rfl, ⟨A1, hR2, hA1, h24, h25, h26, h26o, h31, h32⟩, hF2⟩ := hp2
    refine ⟨rfl, ?_⟩
    have ssz : mq_ss A1 q mk = [] := mq_ssN (fun e he => h26 e (by omega))
    have h26x : ∀ b e : Nat, b ≠ q → e < 60 → A1 26 (60 * b + e) = A 26 (60 * b + e) := fun b e hb he => h26o _ (by omega)
    have sso : ∀ b : Nat, b ≠ q → mq_ss A1 b mk = mq_ss A b mk := fun b hb => mq_ssL (fun e he => h26x b e hb (by omega))
    have eV0 : (va_up V 23 (nI na)) 0 = V 0 := va_up_ne _ _ (by decide)
    have eV1 : (va_up V 23 (nI na)) 1 = V 1 := va_up_ne _ _ (by decide)
    have eV3 : (va_up V 23 (nI na)) 3 = V 3 := va_up_ne _ _ (by decide)
    have eV4 : (va_up V 23 (nI na)) 4 = V 4 := va_up_ne _ _ (by decide)
    have eV9 : (va_up V 23 (nI na)) 9 = V 9 := va_up_ne _ _ (by decide)
    have eV11 : (va_up V 23 (nI na)) 11 = V 11 := va_up_ne _ _ (by decide)
    have eV12 : (va_up V 23 (nI na)) 12 = V 12 := va_up_ne _ _ (by decide)
    have eV14 : (va_up V 23 (nI na)) 14 = V 14 := va_up_ne _ _ (by decide)
    have eV15 : (va_up V 23 (nI na)) 15 = V 15 := va_up_ne _ _ (by decide)
    have eV22 : (va_up V 23 (nI na)) 22 = V 22 := va_up_ne _ _ (by decide)
    have eV33 : (va_up V 23 (nI na)) 33 = V 33 := va_up_ne _ _ (by decide)
    have eV41 : (va_up V 23 (nI na)) 41 = V 41 := va_up_ne _ _ (by decide)
    have eV43 : (va_up V 23 (nI na)) 43 = V 43 := va_up_ne _ _ (by decide)
    have eV45 : (va_up V 23 (nI na)) 45 = V 45 := va_up_ne _ _ (by decide)
    have eA2 : A1 2 = A 2 := hA1 2 (by decide) (by decide) (by decide) (by decide) (by decide)
    have eA5 : A1 5 = A 5 := hA1 5 (by decide) (by decide) (by decide) (by decide) (by decide)
    have eA6 : A1 6 = A 6 := hA1 6 (by decide) (by decide) (by decide) (by decide) (by decide)
    have eA7 : A1 7 = A 7 := hA1 7 (by decide) (by decide) (by decide) (by decide) (by decide)
    have eA10 : A1 10 = A 10 := hA1 10 (by decide) (by decide) (by decide) (by decide) (by decide)
    have eA16 : A1 16 = A 16 := hA1 16 (by decide) (by decide) (by decide) (by decide) (by decide)
    have eA17 : A1 17 = A 17 := hA1 17 (by decide) (by decide) (by decide) (by decide) (by decide)
    have eA18 : A1 18 = A 18 := hA1 18 (by decide) (by decide) (by decide) (by decide) (by decide)
    have eA19 : A1 19 = A 19 := hA1 19 (by decide) (by decide) (by decide) (by decide) (by decide)
    have eA20 : A1 20 = A 20 := hA1 20 (by decide) (by decide) (by decide) (by decide) (by decide)
    have eA21 : A1 21 = A 21 := hA1 21 (by decide) (by decide) (by decide) (by decide) (by decide)
    have eA27 : A1 27 = A 27 := hA1 27 (by decide) (by decide) (by decide) (by decide) (by decide)
    have eA28 : A1 28 = A 28 := hA1 28 (by decide) (by decide) (by decide) (by decide) (by decide)
    have eA29 : A1 29 = A 29 := hA1 29 (by decide) (by decide) (by decide) (by decide) (by decide)
    have eA30 : A1 30 = A 30 := hA1 30 (by decide) (by decide) (by decide) (by decide) (by decide)
    have eA34 : A1 34 = A 34 := hA1 34 (by decide) (by decide) (by decide) (by decide) (by decide)
    have eA35 : A1 35 = A 35 := hA1 35 (by decide) (by decide) (by decide) (by decide) (by decide)
    have eA36 : A1 36 = A 36 := hA1 36 (by decide) (by decide) (by decide) (by decide) (by decide)
    have eA37 : A1 37 = A 37 := hA1 37 (by decide) (by decide) (by decide) (by decide) (by decide)
    have eA38 : A1 38 = A 38 := hA1 38 (by decide) (by decide) (by decide) (by decide) (by decide)
    have eA39 : A1 39 = A 39 := hA1 39 (by decide) (by decide) (by decide) (by decide) (by decide)
    have eA40 : A1 40 = A 40 := hA1 40 (by decide) (by decide) (by decide) (by decide) (by decide)
    have eA42 : A1 42 = A 42 := hA1 42 (by decide) (by decide) (by decide) (by decide) (by decide)
    have eA44 : A1 44 = A 44 := hA1 44 (by decide) (by decide) (by decide) (by decide) (by decide)
    have m1 : iv_O D M1 N o ∧ iv_X M1 N (((va_up V 23 (nI na))) 22) cl ns ∧ iv_B D M1 N k (A1 2) ∧ iv_I D M1 N ic Ln Dn G ∧ iv_K D M1 N lf kc ka pr f4 ∧ iv_E D M1 N mk (mq_es A1 mk) (mq_EF A1) ent ∧ iv_C M1 (mq_EF A1) CF ent ca ce ns ∧ iv_A D M1 N na (A1 24) (A1 25) (A1 32) ((va_up fk q 0)) ((va_up km q 0)) (fun a9 => mq_ss A1 a9 mk) ca ∧ iv_W D M1 N na nw wa (A1 35) told wf wm wg ts ca ∧ iv_L D M1 N ls lk lm (((va_up V 23 (nI na))) 45) ca ∧ iv_U D M1 N ∧ iv_N D M1 N ∧ iv_D M1 N ∧ iv_T D M1 N ws LW := by
      rw [eV22, eV45, eA2, eA35, mq_es_c eA16, mq_EF_c eA17 eA18 eA19 eA20 eA21]
      exact ⟨hO.fr (N1 := N) (o1 := o) hF z1 (fun _ => Or.inl rfl) (fun _ _ => rfl), hX.fr (N1 := N) hO hF (fun (q : 0 = 100 + q ∨ 0 = 110 + q ∨ 0 = 120 + q) => by omega) (fun _ _ => rfl), hB.fr (N1 := N) hO hF (fun t h8 h9 (q : t = 100 + q ∨ t = 110 + q ∨ t = 120 + q) => by omega) (fun _ _ _ => rfl), hI.fr (N1 := N) hO hF (fun t h8 h9 (q : t = 100 + q ∨ t = 110 + q ∨ t = 120 + q) => by omega) (fun _ _ _ => rfl), hK.fr (N1 := N) hO hF (fun t h8 h9 (q : t = 100 + q ∨ t = 110 + q ∨ t = 120 + q) => by omega) (fun _ _ _ => rfl), hE.fr (N1 := N) hO hF z1 hk (fun t h8 h9 (q : t = 100 + q ∨ t = 110 + q ∨ t = 120 + q) => by omega) (fun _ _ _ => rfl), hC.fr hF hk, ⟨iv_al hO hF z1 hA.1 (fun (h : 35 = 100 + q ∨ 35 = 110 + q ∨ 35 = 120 + q) => by omega) (fun (h : 36 = 100 + q ∨ 36 = 110 + q ∨ 36 = 120 + q) => by omega), fun w hw => by
            show _ ∧ al_at D M1 (N (110 + w)) (N (120 + w)) ((mq_ss A1 w mk).map ca)
            by_cases hwn : w = q
            · subst hwn
              rw [h24, h25, h32, ux_s, ux_s, ux_s, va_up_self, va_up_self, ssz]
              exact ⟨wy1, hal0⟩
            · obtain ⟨x1, x2⟩ := hA.2 w hw
              rw [h24, h25, h32, ux_n _ _ hwn, ux_n _ _ hwn, ux_n _ _ hwn, va_up_ne _ _ hwn, va_up_ne _ _ hwn, sso w hwn]
              exact ⟨iv_at hO hF x1 (fun (h : 100 + w = 100 + q ∨ 100 + w = 110 + q ∨ 100 + w = 120 + q) => by omega), iv_al hO hF z1 x2 (fun (h : 110 + w = 100 + q ∨ 110 + w = 110 + q ∨ 110 + w = 120 + q) => by omega) (fun (h : 120 + w = 100 + q ∨ 120 + w = 110 + q ∨ 120 + w = 120 + q) => by omega)⟩⟩, hW.fr (N1 := N) hO hF z1 (fun t h9 (q : t = 100 + q ∨ t = 110 + q ∨ t = 120 + q) => by omega) (fun _ _ => rfl) b9, hL.fr (N1 := N) hO hF z1 (fun t h8 h9 (q : t = 100 + q ∨ t = 110 + q ∨ t = 120 + q) => by omega) (fun _ _ _ => rfl), hU.fr (N1 := N) hO hF z1 (fun t h8 h9 (q : t = 100 + q ∨ t = 110 + q ∨ t = 120 + q) => by omega) (fun _ _ _ => rfl), hN.fr (N1 := N) hO hF z1 (fun t h8 h9 (q : t = 100 + q ∨ t = 110 + q ∨ t = 120 + q) => by omega) (fun _ _ _ => rfl), hD.fr (N1 := N) hO hF (fun (q : 50 = 100 + q ∨ 50 = 110 + q ∨ 50 = 120 + q) => by omega) (rfl), hT.fr (N1 := N) hO hF (fun t h8 h9 (q : t = 100 + q ∨ t = 110 + q ∨ t = 120 + q) => by omega) (fun _ _ _ => rfl)⟩
    obtain ⟨mhO, mhX, mhB, mhI, mhK, mhE, mhC, mhA, mhW, mhL, mhU, mhN, mhD, mhT⟩ := iv_frR hR1 hF2 z2 b8 b9 m1
    exact ⟨N, o, (va_up V 23 (nI na)), A1, S, k, ic, Ln, Dn, G, lf, cl, kc, ka, pr, f4, g4, gm, mk, ent, ns, ca, ce, CF, na, (va_up fk q 0), (va_up km q 0), nw, wa, told, wf, wm, wg, ts, ls, lk, lm, ws, LW, rfl, rfl, mhO, mhX, mhB, mhI, mhK, mhE, mhC, mhA, mhW, mhL, mhU, mhN, mhD, mhT, hR2, ⟨eV0.trans v0, eV1.trans v1, eV3.trans v3, eV9.trans v9, eV11.trans v11, eV12.trans v12, eV14.trans v14, eV15.trans v15, va_up_self _ _ _, eV33.trans v33, eV41.trans v41, eV43.trans v43⟩, ⟨b1, by omega, b3, by omega, b5, by omega, b7, b8, b9, b10, b11, by rw [mq_es_c eA16]; exact b12⟩, by rw [eA2]; exact p3, by rw [eA5, eA6, eA7, eV4]; exact p4, by rw [eA10]; exact p5, by rw [eA17, eA20]; exact p6, p7, fun a9 h9 => by
            by_cases e9 : a9 = q
            · rw [e9, ssz, h31, ux_s, va_up_self, va_up_self]
              exact ⟨fun e he hk0 => absurd (h26 e (by omega)) hk0, fun e _ h2 => h26 e h2, by decide, rfl, by decide, by decide, fun i hi => absurd hi (Nat.not_lt_zero _), fun _ n hn => absurd hn List.not_mem_nil⟩
            · obtain ⟨c1, c2, c3, c4, c5, c6, c7, c8⟩ := p8 a9 (by omega)
              rw [sso a9 e9, h31, ux_n _ _ e9, va_up_ne _ _ e9, va_up_ne _ _ e9, eA30]
              refine ⟨fun e he hk0 => ?_, fun e h1 h2 => ?_, c3, c4, c5, c6, c7, c8⟩
              · rw [h26x a9 e e9 (by omega)] at hk0 ⊢
                rw [eA27, eA28, eA29]
                exact c1 e he hk0
              · rw [h26x a9 e e9 h2]
                exact c2 e h1 h2, by rw [eA34, eA36, eA37, eA38, eA39, eA40]; exact p9, by rw [eA42, eA44]; exact p10, p11, by rw [eA17]; exact p12⟩
