/-! written -/
set_option maxHeartbeats 4000000 in
set_option maxRecDepth 100000 in
theorem iv_written (l : Launch) {D : va_G} {z x mm j : Nat} {M : mw_M} (a : Nat → Int32) (hj : j < 512) (h : iv D x mm j M) : iv_go l D z x mm yy_Xi_written bb_Xi_written 4 (Option.some Jvm.ClassFile.FieldType.int) yy_Mo_written bb_Mo_written 3 (Option.some Jvm.ClassFile.FieldType.int) [.int (a 1), .int (a 2)] M (iv D x mm (j + 1)) := by
  have hh := h
  obtain ⟨N, o, V, A, S, k, ic, Ln, Dn, G, lf, cl, kc, ka, pr, f4, g4, gm, mk, ent, ns, ca, ce, CF, na, fk, km, nw, wa, told, wf, wm, wg, ts, ls, lk, lm, ws, LW, e0, e1, hO, hX, hB, hI, hK, hE, hC, hA, hW, hL, hU, hN, hD, hT, hR, pV, pB, p3, p4, p5, p6, p7, p8, p9, p10, p11, p12⟩ := h
  subst e0 e1
  obtain ⟨v0, v1, v3, v9, v11, v12, v14, v15, v23, v33, v41, v43⟩ := pV
  obtain ⟨b1, b2, b3, b4, b5, b6, b7, b8, b9, b10, b11, b12⟩ := pB
  rcases iv_hs (k := ls.length) (a 1) with hm | ⟨q, hq, e⟩
  · obtain ⟨mo, wc⟩ := hL.2.cell
    rw [List.length_map] at wc
    exact iv_same hh (cc_Xi_written_m l D z M (N 0) (N 1) (N 3) (N 30) (N 32) (N 35) (N 37) (N 40) (N 50) (N 51) (N 46) (N 43) (V 22) (nI cl) (nI ns) (N 41) (N 42) ls.length _ _ _ mo (a 1) (a 2) hX hL.1 wc (by omega) hm) (cc_Mo_written_m l D z M (N 199) _ ls.length (a 1) (a 2) hR.m (mq_vi rfl v41) (by omega) hm) (by decide) (by decide) (by decide) (by decide) (by decide) (by decide)
  · rw [e]
    obtain ⟨n, hn⟩ : ∃ n : Nat, ls[q]? = some n := ⟨_, List.getElem?_eq_getElem hq⟩
    obtain ⟨⟨n1, n2⟩, c0, c1, c2, c3, c4⟩ := p10.2.2 q n hn
    obtain ⟨d1, q2, q3, q4, d2, d3, d4, d5, d6, d7⟩ := p7 n n1 n2
    obtain ⟨⟨i0, i1, i2⟩, -⟩ := p6 (ce n) d1
    have hq4 := (p5.2.1 q2 d5).2
    have hei : mq_EF A (ce n) 1 = nI i0 := i2
    obtain ⟨wt1, hbw⟩ := hT
    obtain ⟨f0, w52, w53, hb1, hb2⟩ := hbw
    have hbw : bw_at D M (N 52) (N 53) LW := ⟨f0, w52, w53, hb1, hb2⟩
    have hrb : ∀ j : Nat, j < 12 → N 4 + 1 + j ≠ N 53 := fun j h9 => by
      rw [← hI.2 j h9]
      exact Ne.symm (hO.ne w53 (by omega))
    have hec : ec_c (A 17) CF ce Ln G n = ec_3 n q2 q3 q4 (id_tx Ln G i0) := by
      unfold ec_c
      rw [d2, d3, d4, i2, nI_clamp (by omega), nI_clamp (by omega), nI_clamp (by omega), nI_clamp (by have := p4.2.1; omega)]
    have hqb : n < 2 ^ 31 ∧ q2 < 2 ^ 31 ∧ q3 < 2 ^ 31 ∧ q4 < 2 ^ 31 := ⟨by omega, by omega, by omega, by omega⟩
    by_cases hws : ws = nI n
    · have hLE : LW = ec_3 n q2 q3 q4 (id_tx Ln G i0) := by
        obtain ⟨wn, h1, h2, h3⟩ := p12
        have h4 : wn = n := (nI_eq (by omega) (by omega)).mp (h2.symm.trans hws)
        rw [← hec, ← h4]
        exact h3 (by omega)
      refine ⟨_, _, _, _, _, by decide, by decide, by decide, by decide, cc_Xi_written_c l D z M (N 0) (N 1) (N 3) (N 30) (N 32) (N 35) (N 37) (N 40) (N 50) (N 51) (N 46) (N 43) (V 22) (nI cl) (nI ns) (N 41) (N 42) q n q2 q3 q4 i0 (N 4) (N 5) (N 6) ic (N 52) (N 53) ws _ _ _ (a 2) Ln Dn G ls LW (mq_EF A) CF ent ca ce hX hL.1 hL.2 hn (hC n n1 n2) hei ⟨d2, d3, d4⟩ wt1 hbw hI.1 p4.2 i1 hqb hrb (Ne.symm (hO.ne w53 (by omega))) (Ne.symm (hO.ne w53 (by omega))) hws hLE, fun v M1 hp z1 => ?_⟩
      obtain ⟨rfl, hMM⟩ := hp
      subst hMM
      refine ⟨_, _, _, _, _, rfl, hR.m, by decide, by decide, cc_Mo_written l D z _ (N 199) (fun k => N (200 + k)) V A S ic Ln Dn G q (ce n) i0 n q2 q3 q4 ls.length (a 2) hR p4.1 p4.2 (by omega) ⟨c0, c1, c2.trans d2, c3.trans d3, c4.trans d4⟩ (by omega) i2 i1 hqb p11 v41 b10 hq, fun v2 M2 hp2 z2 => ?_⟩
      obtain ⟨rfl, ⟨V2, A2, S2, hR2, ⟨hV2, hA2, -, -, -⟩, hS2⟩, hF2⟩ := hp2
      refine ⟨rfl, ?_⟩
      have hR1 := hR
      have eV0 : V2 0 = V 0 := hV2 0 (by decide)
      have eV1 : V2 1 = V 1 := hV2 1 (by decide)
      have eV3 : V2 3 = V 3 := hV2 3 (by decide)
      have eV4 : V2 4 = V 4 := hV2 4 (by decide)
      have eV9 : V2 9 = V 9 := hV2 9 (by decide)
      have eV11 : V2 11 = V 11 := hV2 11 (by decide)
      have eV12 : V2 12 = V 12 := hV2 12 (by decide)
      have eV14 : V2 14 = V 14 := hV2 14 (by decide)
      have eV15 : V2 15 = V 15 := hV2 15 (by decide)
      have eV22 : V2 22 = V 22 := hV2 22 (by decide)
      have eV23 : V2 23 = V 23 := hV2 23 (by decide)
      have eV33 : V2 33 = V 33 := hV2 33 (by decide)
      have eV41 : V2 41 = V 41 := hV2 41 (by decide)
      have eV43 : V2 43 = V 43 := hV2 43 (by decide)
      have eV45 : V2 45 = V 45 := hV2 45 (by decide)
      have eA2 : A2 2 = A 2 := hA2 2 (by decide)
      have eA5 : A2 5 = A 5 := hA2 5 (by decide)
      have eA6 : A2 6 = A 6 := hA2 6 (by decide)
      have eA7 : A2 7 = A 7 := hA2 7 (by decide)
      have eA10 : A2 10 = A 10 := hA2 10 (by decide)
      have eA16 : A2 16 = A 16 := hA2 16 (by decide)
      have eA17 : A2 17 = A 17 := hA2 17 (by decide)
      have eA18 : A2 18 = A 18 := hA2 18 (by decide)
      have eA19 : A2 19 = A 19 := hA2 19 (by decide)
      have eA20 : A2 20 = A 20 := hA2 20 (by decide)
      have eA21 : A2 21 = A 21 := hA2 21 (by decide)
      have eA24 : A2 24 = A 24 := hA2 24 (by decide)
      have eA25 : A2 25 = A 25 := hA2 25 (by decide)
      have eA26 : A2 26 = A 26 := hA2 26 (by decide)
      have eA27 : A2 27 = A 27 := hA2 27 (by decide)
      have eA28 : A2 28 = A 28 := hA2 28 (by decide)
      have eA29 : A2 29 = A 29 := hA2 29 (by decide)
      have eA30 : A2 30 = A 30 := hA2 30 (by decide)
      have eA31 : A2 31 = A 31 := hA2 31 (by decide)
      have eA32 : A2 32 = A 32 := hA2 32 (by decide)
      have eA34 : A2 34 = A 34 := hA2 34 (by decide)
      have eA35 : A2 35 = A 35 := hA2 35 (by decide)
      have eA36 : A2 36 = A 36 := hA2 36 (by decide)
      have eA37 : A2 37 = A 37 := hA2 37 (by decide)
      have eA38 : A2 38 = A 38 := hA2 38 (by decide)
      have eA39 : A2 39 = A 39 := hA2 39 (by decide)
      have eA40 : A2 40 = A 40 := hA2 40 (by decide)
      have eA42 : A2 42 = A 42 := hA2 42 (by decide)
      have eA44 : A2 44 = A 44 := hA2 44 (by decide)
      have m1 : iv_O D M1 N o ∧ iv_X M1 N (V2 22) cl ns ∧ iv_B D M1 N k (A2 2) ∧ iv_I D M1 N ic Ln Dn G ∧ iv_K D M1 N lf kc ka pr f4 ∧ iv_E D M1 N mk (mq_es A2 mk) (mq_EF A2) ent ∧ iv_C M1 (mq_EF A2) CF ent ca ce ns ∧ iv_A D M1 N na (A2 24) (A2 25) (A2 32) fk km (fun a9 => mq_ss A2 a9 mk) ca ∧ iv_W D M1 N na nw wa (A2 35) told wf wm wg ts ca ∧ iv_L D M1 N ls lk lm (V2 45) ca ∧ iv_U D M1 N ∧ iv_N D M1 N ∧ iv_D M1 N ∧ iv_T D M1 N ws LW := by
        rw [eV22, eV45, eA2, eA24, eA25, eA32, eA35, mq_es_c eA16, mq_EF_c eA17 eA18 eA19 eA20 eA21, mq_ssE eA26]
        exact ⟨hO, hX, hB, hI, hK, hE, hC, hA, hW, hL, hU, hN, hD, ⟨wt1, hbw⟩⟩
      obtain ⟨mhO, mhX, mhB, mhI, mhK, mhE, mhC, mhA, mhW, mhL, mhU, mhN, mhD, mhT⟩ := iv_frR hR1 hF2 z2 b8 b9 m1
      exact ⟨N, o, V2, A2, S2, k, ic, Ln, Dn, G, lf, cl, kc, ka, pr, f4, g4, gm, mk, ent, ns, ca, ce, CF, na, fk, km, nw, wa, told, wf, wm, wg, ts, ls, lk, lm, ws, LW, rfl, rfl, mhO, mhX, mhB, mhI, mhK, mhE, mhC, mhA, mhW, mhL, mhU, mhN, mhD, mhT, hR2, ⟨eV0.trans v0, eV1.trans v1, eV3.trans v3, eV9.trans v9, eV11.trans v11, eV12.trans v12, eV14.trans v14, eV15.trans v15, eV23.trans v23, eV33.trans v33, eV41.trans v41, eV43.trans v43⟩, ⟨b1, by omega, b3, by omega, b5, by omega, b7, b8, b9, b10, b11, by rw [mq_es_c eA16]; exact b12⟩, by rw [eA2]; exact p3, by rw [eA5, eA6, eA7, eV4]; exact p4, by rw [eA10]; exact p5, by rw [eA17, eA20]; exact p6, p7, p8.c eA26 eA27 eA28 eA29 eA30 eA31, by rw [eA34, eA36, eA37, eA38, eA39, eA40]; exact p9, by rw [eA42, eA44]; exact p10, hS2, by rw [eA17]; exact p12⟩
    · refine ⟨_, _, _, _, _, by decide, by decide, by decide, by decide, cc_Xi_written_n l D z M (N 0) (N 1) (N 3) (N 30) (N 32) (N 35) (N 37) (N 40) (N 50) (N 51) (N 46) (N 43) (V 22) (nI cl) (nI ns) (N 41) (N 42) q n q2 q3 q4 i0 (N 4) (N 5) (N 6) ic (N 52) (N 53) ws _ _ _ (a 2) Ln Dn G ls LW (mq_EF A) CF ent ca ce hX hL.1 hL.2 hn (hC n n1 n2) hei ⟨d2, d3, d4⟩ wt1 hbw hI.1 p4.2 i1 hqb hrb (Ne.symm (hO.ne w53 (by omega))) (Ne.symm (hO.ne w53 (by omega))) hws, fun v M1 hp z1 => ?_⟩
      obtain ⟨rfl, wt2, hb3, hF0⟩ := hp
      have hF : mw_fr (iv_F (fun t => t = 51 ∨ t = 52 ∨ t = 53) N) M M1 := hF0.mono (fun p9 h => by
          rcases h with e | e | e
          · exact ⟨51, Or.inl rfl, e⟩
          · exact ⟨52, Or.inr (Or.inl rfl), e⟩
          · exact ⟨53, Or.inr (Or.inr (rfl)), e⟩)
      have hk : ∀ t : Nat, (t = 51 ∨ t = 52 ∨ t = 53) → iv_kd M (N t) := by
        intro t q
        rcases q with q | q | q
        · rw [q]
          exact kd_o wt1 (by decide)
        · rw [q]
          exact kd_o w52 (by decide)
        · rw [q]
          exact kd_r w53
      have hR1 : iv_R D M1 N V A S := hR.fr (N1 := N) hO hF (fun t h9 (q : t = 51 ∨ t = 52 ∨ t = 53) => by omega) (fun _ _ => rfl)
      refine ⟨_, _, _, _, _, rfl, hR1.m, by decide, by decide, cc_Mo_written l D z M1 (N 199) (fun k => N (200 + k)) V A S ic Ln Dn G q (ce n) i0 n q2 q3 q4 ls.length (a 2) hR1 p4.1 p4.2 (by omega) ⟨c0, c1, c2.trans d2, c3.trans d3, c4.trans d4⟩ (by omega) i2 i1 hqb p11 v41 b10 hq, fun v2 M2 hp2 z2 => ?_⟩
      obtain ⟨rfl, ⟨V2, A2, S2, hR2, ⟨hV2, hA2, -, -, -⟩, hS2⟩, hF2⟩ := hp2
      refine ⟨rfl, ?_⟩
      have eV0 : V2 0 = V 0 := hV2 0 (by decide)
      have eV1 : V2 1 = V 1 := hV2 1 (by decide)
      have eV3 : V2 3 = V 3 := hV2 3 (by decide)
      have eV4 : V2 4 = V 4 := hV2 4 (by decide)
      have eV9 : V2 9 = V 9 := hV2 9 (by decide)
      have eV11 : V2 11 = V 11 := hV2 11 (by decide)
      have eV12 : V2 12 = V 12 := hV2 12 (by decide)
      have eV14 : V2 14 = V 14 := hV2 14 (by decide)
      have eV15 : V2 15 = V 15 := hV2 15 (by decide)
      have eV22 : V2 22 = V 22 := hV2 22 (by decide)
      have eV23 : V2 23 = V 23 := hV2 23 (by decide)
      have eV33 : V2 33 = V 33 := hV2 33 (by decide)
      have eV41 : V2 41 = V 41 := hV2 41 (by decide)
      have eV43 : V2 43 = V 43 := hV2 43 (by decide)
      have eV45 : V2 45 = V 45 := hV2 45 (by decide)
      have eA2 : A2 2 = A 2 := hA2 2 (by decide)
      have eA5 : A2 5 = A 5 := hA2 5 (by decide)
      have eA6 : A2 6 = A 6 := hA2 6 (by decide)
      have eA7 : A2 7 = A 7 := hA2 7 (by decide)
      have eA10 : A2 10 = A 10 := hA2 10 (by decide)
      have eA16 : A2 16 = A 16 := hA2 16 (by decide)
      have eA17 : A2 17 = A 17 := hA2 17 (by decide)
      have eA18 : A2 18 = A 18 := hA2 18 (by decide)
      have eA19 : A2 19 = A 19 := hA2 19 (by decide)
      have eA20 : A2 20 = A 20 := hA2 20 (by decide)
      have eA21 : A2 21 = A 21 := hA2 21 (by decide)
      have eA24 : A2 24 = A 24 := hA2 24 (by decide)
      have eA25 : A2 25 = A 25 := hA2 25 (by decide)
      have eA26 : A2 26 = A 26 := hA2 26 (by decide)
      have eA27 : A2 27 = A 27 := hA2 27 (by decide)
      have eA28 : A2 28 = A 28 := hA2 28 (by decide)
      have eA29 : A2 29 = A 29 := hA2 29 (by decide)
      have eA30 : A2 30 = A 30 := hA2 30 (by decide)
      have eA31 : A2 31 = A 31 := hA2 31 (by decide)
      have eA32 : A2 32 = A 32 := hA2 32 (by decide)
      have eA34 : A2 34 = A 34 := hA2 34 (by decide)
      have eA35 : A2 35 = A 35 := hA2 35 (by decide)
      have eA36 : A2 36 = A 36 := hA2 36 (by decide)
      have eA37 : A2 37 = A 37 := hA2 37 (by decide)
      have eA38 : A2 38 = A 38 := hA2 38 (by decide)
      have eA39 : A2 39 = A 39 := hA2 39 (by decide)
      have eA40 : A2 40 = A 40 := hA2 40 (by decide)
      have eA42 : A2 42 = A 42 := hA2 42 (by decide)
      have eA44 : A2 44 = A 44 := hA2 44 (by decide)
      have m1 : iv_O D M1 N o ∧ iv_X M1 N (V2 22) cl ns ∧ iv_B D M1 N k (A2 2) ∧ iv_I D M1 N ic Ln Dn G ∧ iv_K D M1 N lf kc ka pr f4 ∧ iv_E D M1 N mk (mq_es A2 mk) (mq_EF A2) ent ∧ iv_C M1 (mq_EF A2) CF ent ca ce ns ∧ iv_A D M1 N na (A2 24) (A2 25) (A2 32) fk km (fun a9 => mq_ss A2 a9 mk) ca ∧ iv_W D M1 N na nw wa (A2 35) told wf wm wg ts ca ∧ iv_L D M1 N ls lk lm (V2 45) ca ∧ iv_U D M1 N ∧ iv_N D M1 N ∧ iv_D M1 N ∧ iv_T D M1 N ((nI n)) ((ec_3 n q2 q3 q4 (id_tx Ln G i0))) := by
        rw [eV22, eV45, eA2, eA24, eA25, eA32, eA35, mq_es_c eA16, mq_EF_c eA17 eA18 eA19 eA20 eA21, mq_ssE eA26]
        exact ⟨hO.fr (N1 := N) (o1 := o) hF z1 (fun _ => Or.inl rfl) (fun _ _ => rfl), hX.fr (N1 := N) hO hF (fun (q : 0 = 51 ∨ 0 = 52 ∨ 0 = 53) => by omega) (fun _ _ => rfl), hB.fr (N1 := N) hO hF (fun t h8 h9 (q : t = 51 ∨ t = 52 ∨ t = 53) => by omega) (fun _ _ _ => rfl), hI.fr (N1 := N) hO hF (fun t h8 h9 (q : t = 51 ∨ t = 52 ∨ t = 53) => by omega) (fun _ _ _ => rfl), hK.fr (N1 := N) hO hF (fun t h8 h9 (q : t = 51 ∨ t = 52 ∨ t = 53) => by omega) (fun _ _ _ => rfl), hE.fr (N1 := N) hO hF z1 hk (fun t h8 h9 (q : t = 51 ∨ t = 52 ∨ t = 53) => by omega) (fun _ _ _ => rfl), hC.fr hF hk, hA.fr (N1 := N) hO hF z1 (fun t h9 (q : t = 51 ∨ t = 52 ∨ t = 53) => by omega) (fun _ _ => rfl) b8, hW.fr (N1 := N) hO hF z1 (fun t h9 (q : t = 51 ∨ t = 52 ∨ t = 53) => by omega) (fun _ _ => rfl) b9, hL.fr (N1 := N) hO hF z1 (fun t h8 h9 (q : t = 51 ∨ t = 52 ∨ t = 53) => by omega) (fun _ _ _ => rfl), hU.fr (N1 := N) hO hF z1 (fun t h8 h9 (q : t = 51 ∨ t = 52 ∨ t = 53) => by omega) (fun _ _ _ => rfl), hN.fr (N1 := N) hO hF z1 (fun t h8 h9 (q : t = 51 ∨ t = 52 ∨ t = 53) => by omega) (fun _ _ _ => rfl), hD.fr (N1 := N) hO hF (fun (q : 50 = 51 ∨ 50 = 52 ∨ 50 = 53) => by omega) (rfl), ⟨wt2, hb3⟩⟩
      obtain ⟨mhO, mhX, mhB, mhI, mhK, mhE, mhC, mhA, mhW, mhL, mhU, mhN, mhD, mhT⟩ := iv_frR hR1 hF2 z2 b8 b9 m1
      exact ⟨N, o, V2, A2, S2, k, ic, Ln, Dn, G, lf, cl, kc, ka, pr, f4, g4, gm, mk, ent, ns, ca, ce, CF, na, fk, km, nw, wa, told, wf, wm, wg, ts, ls, lk, lm, (nI n), (ec_3 n q2 q3 q4 (id_tx Ln G i0)), rfl, rfl, mhO, mhX, mhB, mhI, mhK, mhE, mhC, mhA, mhW, mhL, mhU, mhN, mhD, mhT, hR2, ⟨eV0.trans v0, eV1.trans v1, eV3.trans v3, eV9.trans v9, eV11.trans v11, eV12.trans v12, eV14.trans v14, eV15.trans v15, eV23.trans v23, eV33.trans v33, eV41.trans v41, eV43.trans v43⟩, ⟨b1, by omega, b3, by omega, b5, by omega, b7, b8, b9, b10, b11, by rw [mq_es_c eA16]; exact b12⟩, by rw [eA2]; exact p3, by rw [eA5, eA6, eA7, eV4]; exact p4, by rw [eA10]; exact p5, by rw [eA17, eA20]; exact p6, p7, p8.c eA26 eA27 eA28 eA29 eA30 eA31, by rw [eA34, eA36, eA37, eA38, eA39, eA40]; exact p9, by rw [eA42, eA44]; exact p10, hS2, ⟨n, n2, rfl, fun _ => by rw [eA17]; exact hec.symm⟩⟩
