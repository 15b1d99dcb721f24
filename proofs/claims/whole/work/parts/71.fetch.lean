/-! fetch -/
set_option maxHeartbeats 4000000 in
set_option maxRecDepth 100000 in
theorem iv_fetch (l : Launch) {D : va_G} {z x mm j : Nat} {M : mw_M} (a : Nat → Int32) (hj : j < 512) (h : iv D x mm j M) : iv_go l D z x mm yy_Xi_fetch bb_Xi_fetch 3 (Option.some Jvm.ClassFile.FieldType.int) yy_Mo_fetch bb_Mo_fetch 3 (Option.some Jvm.ClassFile.FieldType.int) [.int (a 1), .int (a 2)] M (iv D x mm (j + 1)) := by
  have hh := h
  obtain ⟨N, o, V, A, S, k, ic, Ln, Dn, G, lf, cl, kc, ka, pr, f4, g4, gm, mk, ent, ns, ca, ce, CF, na, fk, km, nw, wa, told, wf, wm, wg, ts, ls, lk, lm, ws, LW, e0, e1, hO, hX, hB, hI, hK, hE, hC, hA, hW, hL, hU, hN, hD, hT, hR, pV, pB, p3, p4, p5, p6, p7, p8, p9, p10, p11, p12⟩ := h
  subst e0 e1
  obtain ⟨v0, v1, v3, v9, v11, v12, v14, v15, v23, v33, v41, v43⟩ := pV
  obtain ⟨b1, b2, b3, b4, b5, b6, b7, b8, b9, b10, b11, b12⟩ := pB
  rcases iv_hs (k := na) (a 1) with hm | ⟨q, hq, e⟩
  · obtain ⟨mo, wc⟩ := iv_lc hA.1
    exact iv_same hh (cc_Xi_fetch_m l D z M (N 0) (N 1) (N 3) (N 30) (N 32) (N 35) (N 37) (N 40) (N 50) (N 51) (N 46) (N 43) (V 22) (nI cl) (nI ns) (N 36) na mo (a 1) (a 2) hX wc (by omega) hm) (cc_Mo_fetch_m l D z M (N 199) _ na (a 1) (a 2) hR.m (mq_vi rfl v23) (by omega) hm) (by decide) (by decide) (by decide) (by decide) (by decide) (by decide)
  · rw [e]
    obtain ⟨wy, hkl⟩ := hA.2 q hq
    obtain ⟨g1, g2, g3, g5, g6, g7, g8, g9⟩ := p8 q hq
    obtain ⟨L, hL1, hL12, hLf, hLo, hLi⟩ := iv_resp g1 (by omega) g3 (a 2) (nI cl)
    have hc := cc_Xi_fetch_y l D z M (N 0) (N 1) (N 3) (N 30) (N 32) (N 35) (N 37) (N 40) (N 50) (N 51) (N 46) (N 43) (V 22) (nI cl) (nI ns) (N 36) q (N (100 + q)) (N 41) (N 42) (N (110 + q)) (N (120 + q)) _ _ _ _ _ _ _ _ (a 2) _ _ (mq_ss A q mk) (mq_EF A) CF ent ca ce hX hA.1 (iv_rg _ hq) hL.1 hL.2 wy hkl (fun n hn => hC n (ss_in g1 (by omega) hn).1 (ss_in g1 (by omega) hn).2) g3 (hO.na hL.2 (by omega)) (hO.rr (by omega))
    rw [hLf, List.length_map, hLo] at hc
    refine ⟨_, _, _, _, _, by decide, by decide, by decide, by decide, hc, fun v M1 hp z1 => ?_⟩
    obtain ⟨rfl, w, k1, hal, hF0, hk1⟩ := hp
    have hF : mw_fr (iv_F (fun t => t = 40 ∨ t = 41 ∨ t = 42) N) M M1 := hF0.mono (fun q h => by
        rcases h with e | e | e
        · exact ⟨40, Or.inl rfl, e⟩
        · exact ⟨41, Or.inr (Or.inl rfl), e⟩
        · exact ⟨42, Or.inr (Or.inr (rfl)), e⟩)
    have hk : ∀ t : Nat, (t = 40 ∨ t = 41 ∨ t = 42) → iv_kd M (N t) := by
      intro t q
      rcases q with q | q | q
      · rw [q]
        exact kd_o hL.1 (by decide)
      · rw [q]
        exact kd_a hL.2
      · rw [q]
        exact kd_b hL.2
    have hR1 : iv_R D M1 N V A S := hR.fr (N1 := N) hO hF (fun t h9 (q : t = 40 ∨ t = 41 ∨ t = 42) => by omega) (fun _ _ => rfl)
    have hc2 := cc_Mo_fetch l D z M1 (N 199) (fun k => N (200 + k)) V A S q na mk (km q) (a 2) hR1 v23 b8 hq v15 b7 (by rw [v1, hL1]; exact hL12) g5 g6
    rw [v1, hL1] at hc2
    refine ⟨_, _, _, _, _, rfl, hR1.m, by decide, by decide, hc2, fun v2 M2 hp2 z2 => ?_⟩
    obtain ⟨rfl, ⟨V1, A1, hR2, hV1, hA1, hsh, h44⟩, hF2⟩ := hp2
    refine ⟨rfl, ?_⟩
    have ek1 : (if L.length = 0 then nI 0 else nI (fk q)) = nI (if L.length = 0 then 0 else fk q) := by split <;> rfl
    have ek2 : (if L.length = 0 then nI 0 else nI (fk q + km q)) = nI ((if L.length = 0 then 0 else fk q) + (if L.length = 0 then 0 else km q)) := by split <;> rfl
    rw [ek1, ek2] at w
    have e45 : V1 45 = mf_or A L &&& A 32 q := by rw [hV1, va_up_self]
    obtain ⟨N1, hN1⟩ : ∃ f : Nat → Nat, f = (va_up N (42) k1) := ⟨_, rfl⟩
    have nx : ∀ t : Nat, (t ≠ 42) → N1 t = N t := fun t h => by
      rw [hN1, va_up_ne _ _ h]
    have nb0 : N1 (42) = k1 := by rw [hN1, va_up_self]
    obtain ⟨o1, ho1⟩ : ∃ f : Nat → Nat, f = fun q => if M q = none then 42 else o q := ⟨_, rfl⟩
    have hO1 : iv_O D M1 N1 o1 := by rw [hN1, ho1]; exact hO.row hF hal hk1
    have en : N1 199 = N 199 := nx 199 (by omega)
    have er : (fun k => N1 (200 + k)) = fun k => N (200 + k) := funext (fun k => nx (200 + k) (by omega))
    have hR1 : iv_R D M1 N1 V A S := by
      unfold iv_R
      rw [en, er]
      exact hR1
    have hR2 : iv_R D M2 N1 V1 A1 S := by
      unfold iv_R
      rw [en, er]
      exact hR2
    have hF2 : mw_fr (mq_P (N1 199) (fun k => N1 (200 + k))) M1 M2 := by
      rw [en, er]
      exact hF2
    have eV0 : V1 0 = V 0 := by rw [hV1, va_up_ne _ _ (by decide), va_up_ne _ _ (by decide), va_up_ne _ _ (by decide), va_up_ne _ _ (by decide)]
    have eV1 : V1 1 = V 1 := by rw [hV1, va_up_ne _ _ (by decide), va_up_ne _ _ (by decide), va_up_ne _ _ (by decide), va_up_ne _ _ (by decide)]
    have eV3 : V1 3 = V 3 := by rw [hV1, va_up_ne _ _ (by decide), va_up_ne _ _ (by decide), va_up_ne _ _ (by decide), va_up_ne _ _ (by decide)]
    have eV4 : V1 4 = V 4 := by rw [hV1, va_up_ne _ _ (by decide), va_up_ne _ _ (by decide), va_up_ne _ _ (by decide), va_up_ne _ _ (by decide)]
    have eV9 : V1 9 = V 9 := by rw [hV1, va_up_ne _ _ (by decide), va_up_ne _ _ (by decide), va_up_ne _ _ (by decide), va_up_ne _ _ (by decide)]
    have eV11 : V1 11 = V 11 := by rw [hV1, va_up_ne _ _ (by decide), va_up_ne _ _ (by decide), va_up_ne _ _ (by decide), va_up_ne _ _ (by decide)]
    have eV12 : V1 12 = V 12 := by rw [hV1, va_up_ne _ _ (by decide), va_up_ne _ _ (by decide), va_up_ne _ _ (by decide), va_up_ne _ _ (by decide)]
    have eV14 : V1 14 = V 14 := by rw [hV1, va_up_ne _ _ (by decide), va_up_ne _ _ (by decide), va_up_ne _ _ (by decide), va_up_ne _ _ (by decide)]
    have eV15 : V1 15 = V 15 := by rw [hV1, va_up_ne _ _ (by decide), va_up_ne _ _ (by decide), va_up_ne _ _ (by decide), va_up_ne _ _ (by decide)]
    have eV22 : V1 22 = V 22 := by rw [hV1, va_up_ne _ _ (by decide), va_up_ne _ _ (by decide), va_up_ne _ _ (by decide), va_up_ne _ _ (by decide)]
    have eV23 : V1 23 = V 23 := by rw [hV1, va_up_ne _ _ (by decide), va_up_ne _ _ (by decide), va_up_ne _ _ (by decide), va_up_ne _ _ (by decide)]
    have eV33 : V1 33 = V 33 := by rw [hV1, va_up_ne _ _ (by decide), va_up_ne _ _ (by decide), va_up_ne _ _ (by decide), va_up_ne _ _ (by decide)]
    have eA2 : A1 2 = A 2 := hA1 2 (by decide) (by decide) (by decide)
    have eA5 : A1 5 = A 5 := hA1 5 (by decide) (by decide) (by decide)
    have eA6 : A1 6 = A 6 := hA1 6 (by decide) (by decide) (by decide)
    have eA7 : A1 7 = A 7 := hA1 7 (by decide) (by decide) (by decide)
    have eA10 : A1 10 = A 10 := hA1 10 (by decide) (by decide) (by decide)
    have eA16 : A1 16 = A 16 := hA1 16 (by decide) (by decide) (by decide)
    have eA17 : A1 17 = A 17 := hA1 17 (by decide) (by decide) (by decide)
    have eA18 : A1 18 = A 18 := hA1 18 (by decide) (by decide) (by decide)
    have eA19 : A1 19 = A 19 := hA1 19 (by decide) (by decide) (by decide)
    have eA20 : A1 20 = A 20 := hA1 20 (by decide) (by decide) (by decide)
    have eA21 : A1 21 = A 21 := hA1 21 (by decide) (by decide) (by decide)
    have eA24 : A1 24 = A 24 := hA1 24 (by decide) (by decide) (by decide)
    have eA25 : A1 25 = A 25 := hA1 25 (by decide) (by decide) (by decide)
    have eA26 : A1 26 = A 26 := hA1 26 (by decide) (by decide) (by decide)
    have eA27 : A1 27 = A 27 := hA1 27 (by decide) (by decide) (by decide)
    have eA28 : A1 28 = A 28 := hA1 28 (by decide) (by decide) (by decide)
    have eA29 : A1 29 = A 29 := hA1 29 (by decide) (by decide) (by decide)
    have eA30 : A1 30 = A 30 := hA1 30 (by decide) (by decide) (by decide)
    have eA31 : A1 31 = A 31 := hA1 31 (by decide) (by decide) (by decide)
    have eA32 : A1 32 = A 32 := hA1 32 (by decide) (by decide) (by decide)
    have eA34 : A1 34 = A 34 := hA1 34 (by decide) (by decide) (by decide)
    have eA35 : A1 35 = A 35 := hA1 35 (by decide) (by decide) (by decide)
    have eA36 : A1 36 = A 36 := hA1 36 (by decide) (by decide) (by decide)
    have eA37 : A1 37 = A 37 := hA1 37 (by decide) (by decide) (by decide)
    have eA38 : A1 38 = A 38 := hA1 38 (by decide) (by decide) (by decide)
    have eA39 : A1 39 = A 39 := hA1 39 (by decide) (by decide) (by decide)
    have eA40 : A1 40 = A 40 := hA1 40 (by decide) (by decide) (by decide)
    have m1 : iv_O D M1 N1 o1 ∧ iv_X M1 N1 (V1 22) cl ns ∧ iv_B D M1 N1 k (A1 2) ∧ iv_I D M1 N1 ic Ln Dn G ∧ iv_K D M1 N1 lf kc ka pr f4 ∧ iv_E D M1 N1 mk (mq_es A1 mk) (mq_EF A1) ent ∧ iv_C M1 (mq_EF A1) CF ent ca ce ns ∧ iv_A D M1 N1 na (A1 24) (A1 25) (A1 32) fk km (fun a9 => mq_ss A1 a9 mk) ca ∧ iv_W D M1 N1 na nw wa (A1 35) told wf wm wg ts ca ∧ iv_L D M1 N1 ((L.map (mq_sr A q))) ((if L.length = 0 then 0 else fk q)) ((if L.length = 0 then 0 else km q)) (V1 45) ca ∧ iv_U D M1 N1 ∧ iv_N D M1 N1 ∧ iv_D M1 N1 ∧ iv_T D M1 N1 ws LW := by
      rw [eV22, eA2, eA24, eA25, eA32, eA35, mq_es_c eA16, mq_EF_c eA17 eA18 eA19 eA20 eA21, mq_ssE eA26]
      exact ⟨hO1, hX.fr (N1 := N1) hO hF (fun (q : 0 = 40 ∨ 0 = 41 ∨ 0 = 42) => by omega) (fun t h9 => nx t (by omega)), hB.fr (N1 := N1) hO hF (fun t h8 h9 (q : t = 40 ∨ t = 41 ∨ t = 42) => by omega) (fun t h8 h9 => nx t (by omega)), hI.fr (N1 := N1) hO hF (fun t h8 h9 (q : t = 40 ∨ t = 41 ∨ t = 42) => by omega) (fun t h8 h9 => nx t (by omega)), hK.fr (N1 := N1) hO hF (fun t h8 h9 (q : t = 40 ∨ t = 41 ∨ t = 42) => by omega) (fun t h8 h9 => nx t (by omega)), hE.fr (N1 := N1) hO hF z1 hk (fun t h8 h9 (q : t = 40 ∨ t = 41 ∨ t = 42) => by omega) (fun t h8 h9 => nx t (by omega)), hC.fr hF hk, hA.fr (N1 := N1) hO hF z1 (fun t h9 (q : t = 40 ∨ t = 41 ∨ t = 42) => by omega) (fun t h9 => nx t (by omega)) b8, hW.fr (N1 := N1) hO hF z1 (fun t h9 (q : t = 40 ∨ t = 41 ∨ t = 42) => by omega) (fun t h9 => nx t (by omega)) b9, ⟨by rw [nx 40 (by omega), nx 41 (by omega), e45]; exact w, by rw [nx 41 (by omega), nb0]; exact hal⟩, hU.fr (N1 := N1) hO hF z1 (fun t h8 h9 (q : t = 40 ∨ t = 41 ∨ t = 42) => by omega) (fun t h8 h9 => nx t (by omega)), hN.fr (N1 := N1) hO hF z1 (fun t h8 h9 (q : t = 40 ∨ t = 41 ∨ t = 42) => by omega) (fun t h8 h9 => nx t (by omega)), hD.fr (N1 := N1) hO hF (fun (q : 50 = 40 ∨ 50 = 41 ∨ 50 = 42) => by omega) (nx 50 (by omega)), hT.fr (N1 := N1) hO hF (fun t h8 h9 (q : t = 40 ∨ t = 41 ∨ t = 42) => by omega) (fun t h8 h9 => nx t (by omega))⟩
    obtain ⟨mhO, mhX, mhB, mhI, mhK, mhE, mhC, mhA, mhW, mhL, mhU, mhN, mhD, mhT⟩ := iv_frR hR1 hF2 z2 b8 b9 m1
    exact ⟨N1, o1, V1, A1, S, k, ic, Ln, Dn, G, lf, cl, kc, ka, pr, f4, g4, gm, mk, ent, ns, ca, ce, CF, na, fk, km, nw, wa, told, wf, wm, wg, ts, (L.map (mq_sr A q)), (if L.length = 0 then 0 else fk q), (if L.length = 0 then 0 else km q), ws, LW, nx 0 (by omega), nx 199 (by omega), mhO, mhX, mhB, mhI, mhK, mhE, mhC, mhA, mhW, mhL, mhU, mhN, mhD, mhT, hR2, ⟨eV0.trans v0, eV1.trans v1, eV3.trans v3, eV9.trans v9, eV11.trans v11, eV12.trans v12, eV14.trans v14, eV15.trans v15, eV23.trans v23, eV33.trans v33, by rw [hV1, va_up_ne _ _ (by decide), va_up_ne _ _ (by decide), va_up_self, List.length_map], by rw [hV1, va_up_ne _ _ (by decide), va_up_self]⟩, ⟨b1, by omega, b3, by omega, b5, by omega, b7, b8, b9, by rw [List.length_map]; exact hL12, by split <;> omega, by rw [mq_es_c eA16]; exact b12⟩, by rw [eA2]; exact p3, by rw [eA5, eA6, eA7, eV4]; exact p4, by rw [eA10]; exact p5, by rw [eA17, eA20]; exact p6, p7, p8.c eA26 eA27 eA28 eA29 eA30 eA31, by rw [eA34, eA36, eA37, eA38, eA39, eA40]; exact p9, ⟨by split <;> omega, fun i hi => by
          by_cases h0 : L.length = 0
          · rw [if_pos h0] at hi
            exact absurd hi (Nat.not_lt_zero _)
          · have h9 := h44 i hi
            rw [if_neg h0] at hi ⊢
            exact h9.trans (g8 i hi), fun i n hn => by
          obtain ⟨e9, h9, -, h2, h3, h4, h5, h6, h7⟩ := hLi i n hn
          obtain ⟨s0, s1, s2, s3, s4⟩ := hsh i e9 (List.getElem?_eq_some_iff.mp h9).1 h9
          exact ⟨h2, s0.trans (by rw [h4]), s1.trans h3, s2.trans h5.symm, s3.trans h6.symm, s4.trans h7.symm⟩⟩, p11, by rw [eA17]; exact p12⟩
