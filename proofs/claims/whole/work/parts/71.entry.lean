/-! entry -/
set_option maxHeartbeats 4000000 in
set_option maxRecDepth 100000 in
theorem iv_entry (l : Launch) {D : va_G} {z x mm j : Nat} {M : mw_M} (a : Nat → Int32) (hj : j < 512) (h : iv D x mm j M) : iv_go l D z x mm yy_Xi_entry bb_Xi_entry 6 (Option.some Jvm.ClassFile.FieldType.int) yy_Mo_entry bb_Mo_entry 8 (Option.some Jvm.ClassFile.FieldType.int) [.int (a 1), .int (a 2), .int (a 3), .int (a 4), .int (a 5)] M (iv D x mm (j + 1)) := by
  have hh := h
  obtain ⟨N, o, V, A, S, k, ic, Ln, Dn, G, lf, cl, kc, ka, pr, f4, g4, gm, mk, ent, ns, ca, ce, CF, na, fk, km, nw, wa, told, wf, wm, wg, ts, ls, lk, lm, ws, LW, e0, e1, hO, hX, hB, hI, hK, hE, hC, hA, hW, hL, hU, hN, hD, hT, hR, pV, pB, p3, p4, p5, p6, p7, p8, p9, p10, p11, p12⟩ := h
  subst e0 e1
  obtain ⟨v0, v1, v3, v9, v11, v12, v14, v15, v23, v33, v41, v43⟩ := pV
  obtain ⟨b1, b2, b3, b4, b5, b6, b7, b8, b9, b10, b11, b12⟩ := pB
  obtain ⟨-, -, -, -, wd, -⟩ := hI.1
  have hic := p4.2.1
  rcases iv_hs (k := ic) (a 1) with hm | ⟨i0, hi0, e1⟩
  · exact iv_same hh (cc_Xi_entry_m l D z M (N 0) (N 1) (N 3) (N 30) (N 32) (N 35) (N 37) (N 40) (N 50) (N 51) (N 46) (N 43) (V 22) (nI cl) (nI ns) (N 4) (N 5) (N 6) ic (a 1) (a 2) (a 3) (a 4) (a 5) hX wd (by omega) (Or.inl hm)) (cc_Mo_entry_m l D z M (N 199) _ ic (a 1) (a 2) (a 3) (a 4) (a 5) hR.m (mq_vi rfl p4.1.1) (by omega) (Or.inl hm)) (by decide) (by decide) (by decide) (by decide) (by decide) (by decide)
  rcases iv_hs (k := ic) (a 2) with hm | ⟨j0, hj0, e2⟩
  · exact iv_same hh (cc_Xi_entry_m l D z M (N 0) (N 1) (N 3) (N 30) (N 32) (N 35) (N 37) (N 40) (N 50) (N 51) (N 46) (N 43) (V 22) (nI cl) (nI ns) (N 4) (N 5) (N 6) ic (a 1) (a 2) (a 3) (a 4) (a 5) hX wd (by omega) (Or.inr hm)) (cc_Mo_entry_m l D z M (N 199) _ ic (a 1) (a 2) (a 3) (a 4) (a 5) hR.m (mq_vi rfl p4.1.1) (by omega) (Or.inr hm)) (by decide) (by decide) (by decide) (by decide) (by decide) (by decide)
  rw [e1, e2]
  by_cases hW9 : en_wr Ln Dn G i0 j0 (a 3) (a 4) (a 5)
  · exact iv_same hh (cc_Xi_entry_w l D z M (N 0) (N 1) (N 3) (N 30) (N 32) (N 35) (N 37) (N 40) (N 50) (N 51) (N 46) (N 43) (V 22) (nI cl) (nI ns) (N 4) (N 5) (N 6) ic Ln Dn G (N 33) (N 34) mk i0 j0 (a 3) (a 4) (a 5) (mq_es A mk) (mq_EF A) ent hX hI.1 p4.2 hE.1 (by omega) hi0 hj0 hW9 ) (cc_Mo_entry_w l D z M (N 199) (fun k => N (200 + k)) V A S ic Ln Dn G i0 j0 (a 3) (a 4) (a 5) mk hR p4.1 p4.2 hi0 hj0 v15 b7 hW9 ) (by decide) (by decide) (by decide) (by decide) (by decide) (by decide)
  by_cases hf : 60 ≤ mk ∨ 12 ≤ (mq_es A mk).length
  · exact iv_same hh (cc_Xi_entry_f l D z M (N 0) (N 1) (N 3) (N 30) (N 32) (N 35) (N 37) (N 40) (N 50) (N 51) (N 46) (N 43) (V 22) (nI cl) (nI ns) (N 4) (N 5) (N 6) ic Ln Dn G (N 33) (N 34) mk i0 j0 (a 3) (a 4) (a 5) (mq_es A mk) (mq_EF A) ent hX hI.1 p4.2 hE.1 (by omega) hi0 hj0 hW9 hf) (cc_Mo_entry_f l D z M (N 199) (fun k => N (200 + k)) V A S ic Ln Dn G i0 j0 (a 3) (a 4) (a 5) mk hR p4.1 p4.2 hi0 hj0 v15 b7 hW9 (by omega)) (by decide) (by decide) (by decide) (by decide) (by decide) (by decide)
  obtain ⟨t9, ht9, et9⟩ := iv_wr3 hW9
  refine ⟨_, _, _, _, _, by decide, by decide, by decide, by decide, cc_Xi_entry_y l D z M (N 0) (N 1) (N 3) (N 30) (N 32) (N 35) (N 37) (N 40) (N 50) (N 51) (N 46) (N 43) (V 22) (nI cl) (nI ns) (N 4) (N 5) (N 6) ic Ln Dn G (N 33) (N 34) mk i0 j0 (a 3) (a 4) (a 5) (mq_es A mk) (mq_EF A) ent hX hI.1 p4.2 hE.1 (by omega) hi0 hj0 hW9 hf (fun e he => (mq_es_in.mp he).1), fun v M1 hp z1 => ?_⟩
  obtain ⟨rfl, y0, r0, y1, wy, hes, hF0, hr0⟩ := hp
  have hF : mw_fr (iv_F (fun t => t = 32 ∨ t = 33 ∨ t = 34) N) M M1 := hF0.mono (fun q h => by
      rcases h with e | e | e
      · exact ⟨32, Or.inl rfl, e⟩
      · exact ⟨33, Or.inr (Or.inl rfl), e⟩
      · exact ⟨34, Or.inr (Or.inr (rfl)), e⟩)
  have hk : ∀ t : Nat, (t = 32 ∨ t = 33 ∨ t = 34) → iv_kd M (N t) := by
    intro t q
    rcases q with q | q | q
    · rw [q]
      exact kd_o hE.1.1 (by decide)
    · rw [q]
      exact kd_a hE.1.2.1
    · rw [q]
      exact kd_b hE.1.2.1
  have hR1 : iv_R D M1 N V A S := hR.fr (N1 := N) hO hF (fun t h9 (q : t = 32 ∨ t = 33 ∨ t = 34) => by omega) (fun _ _ => rfl)
  refine ⟨_, _, _, _, _, rfl, hR1.m, by decide, by decide, cc_Mo_entry_y l D z M1 (N 199) (fun k => N (200 + k)) V A S ic Ln Dn G i0 j0 (a 3) (a 4) (a 5) mk hR1 p4.1 p4.2 hi0 hj0 v15 b7 hW9 (by omega), fun v2 M2 hp2 z2 => ?_⟩
  obtain ⟨rfl, ⟨A1, hR2, hA1, h16, h17, h18, h19, h20, h21⟩, hF2⟩ := hp2
  refine ⟨rfl, ?_⟩
  have hEF := mq_EF_add h17 h18 h19 h20 h21
  obtain ⟨N1, hN1⟩ : ∃ f : Nat → Nat, f = (va_up N (34) r0) := ⟨_, rfl⟩
  have nx : ∀ t : Nat, (t ≠ 34) → N1 t = N t := fun t h => by
    rw [hN1, va_up_ne _ _ h]
  have nb0 : N1 (34) = r0 := by rw [hN1, va_up_self]
  obtain ⟨o1, ho1⟩ : ∃ f : Nat → Nat, f = fun q => if M q = none then 34 else o q := ⟨_, rfl⟩
  have hO1 : iv_O D M1 N1 o1 := by rw [hN1, ho1]; exact hO.row hF hes.2.1 hr0
  have en : N1 199 = N 199 := nx 199 (by omega)
  have er : (fun k => N1 (200 + k)) = fun k => N (200 + k) := funext (fun k => nx (200 + k) (by omega))
  have hR1 : iv_R D M1 N1 V A S := by
    unfold iv_R
    rw [en, er]
    exact hR1
  have hR2 : iv_R D M2 N1 (va_up V 15 (nI (mk + 1))) A1 S := by
    unfold iv_R
    rw [en, er]
    exact hR2
  have hF2 : mw_fr (mq_P (N1 199) (fun k => N1 (200 + k))) M1 M2 := by
    rw [en, er]
    exact hF2
  have eV0 : (va_up V 15 (nI (mk + 1))) 0 = V 0 := va_up_ne _ _ (by decide)
  have eV1 : (va_up V 15 (nI (mk + 1))) 1 = V 1 := va_up_ne _ _ (by decide)
  have eV3 : (va_up V 15 (nI (mk + 1))) 3 = V 3 := va_up_ne _ _ (by decide)
  have eV4 : (va_up V 15 (nI (mk + 1))) 4 = V 4 := va_up_ne _ _ (by decide)
  have eV9 : (va_up V 15 (nI (mk + 1))) 9 = V 9 := va_up_ne _ _ (by decide)
  have eV11 : (va_up V 15 (nI (mk + 1))) 11 = V 11 := va_up_ne _ _ (by decide)
  have eV12 : (va_up V 15 (nI (mk + 1))) 12 = V 12 := va_up_ne _ _ (by decide)
  have eV14 : (va_up V 15 (nI (mk + 1))) 14 = V 14 := va_up_ne _ _ (by decide)
  have eV22 : (va_up V 15 (nI (mk + 1))) 22 = V 22 := va_up_ne _ _ (by decide)
  have eV23 : (va_up V 15 (nI (mk + 1))) 23 = V 23 := va_up_ne _ _ (by decide)
  have eV33 : (va_up V 15 (nI (mk + 1))) 33 = V 33 := va_up_ne _ _ (by decide)
  have eV41 : (va_up V 15 (nI (mk + 1))) 41 = V 41 := va_up_ne _ _ (by decide)
  have eV43 : (va_up V 15 (nI (mk + 1))) 43 = V 43 := va_up_ne _ _ (by decide)
  have eV45 : (va_up V 15 (nI (mk + 1))) 45 = V 45 := va_up_ne _ _ (by decide)
  have eA2 : A1 2 = A 2 := hA1 2 (by decide) (by decide) (by decide) (by decide) (by decide) (by decide)
  have eA5 : A1 5 = A 5 := hA1 5 (by decide) (by decide) (by decide) (by decide) (by decide) (by decide)
  have eA6 : A1 6 = A 6 := hA1 6 (by decide) (by decide) (by decide) (by decide) (by decide) (by decide)
  have eA7 : A1 7 = A 7 := hA1 7 (by decide) (by decide) (by decide) (by decide) (by decide) (by decide)
  have eA10 : A1 10 = A 10 := hA1 10 (by decide) (by decide) (by decide) (by decide) (by decide) (by decide)
  have eA24 : A1 24 = A 24 := hA1 24 (by decide) (by decide) (by decide) (by decide) (by decide) (by decide)
  have eA25 : A1 25 = A 25 := hA1 25 (by decide) (by decide) (by decide) (by decide) (by decide) (by decide)
  have eA26 : A1 26 = A 26 := hA1 26 (by decide) (by decide) (by decide) (by decide) (by decide) (by decide)
  have eA27 : A1 27 = A 27 := hA1 27 (by decide) (by decide) (by decide) (by decide) (by decide) (by decide)
  have eA28 : A1 28 = A 28 := hA1 28 (by decide) (by decide) (by decide) (by decide) (by decide) (by decide)
  have eA29 : A1 29 = A 29 := hA1 29 (by decide) (by decide) (by decide) (by decide) (by decide) (by decide)
  have eA30 : A1 30 = A 30 := hA1 30 (by decide) (by decide) (by decide) (by decide) (by decide) (by decide)
  have eA31 : A1 31 = A 31 := hA1 31 (by decide) (by decide) (by decide) (by decide) (by decide) (by decide)
  have eA32 : A1 32 = A 32 := hA1 32 (by decide) (by decide) (by decide) (by decide) (by decide) (by decide)
  have eA34 : A1 34 = A 34 := hA1 34 (by decide) (by decide) (by decide) (by decide) (by decide) (by decide)
  have eA35 : A1 35 = A 35 := hA1 35 (by decide) (by decide) (by decide) (by decide) (by decide) (by decide)
  have eA36 : A1 36 = A 36 := hA1 36 (by decide) (by decide) (by decide) (by decide) (by decide) (by decide)
  have eA37 : A1 37 = A 37 := hA1 37 (by decide) (by decide) (by decide) (by decide) (by decide) (by decide)
  have eA38 : A1 38 = A 38 := hA1 38 (by decide) (by decide) (by decide) (by decide) (by decide) (by decide)
  have eA39 : A1 39 = A 39 := hA1 39 (by decide) (by decide) (by decide) (by decide) (by decide) (by decide)
  have eA40 : A1 40 = A 40 := hA1 40 (by decide) (by decide) (by decide) (by decide) (by decide) (by decide)
  have eA42 : A1 42 = A 42 := hA1 42 (by decide) (by decide) (by decide) (by decide) (by decide) (by decide)
  have eA44 : A1 44 = A 44 := hA1 44 (by decide) (by decide) (by decide) (by decide) (by decide) (by decide)
  have m1 : iv_O D M1 N1 o1 ∧ iv_X M1 N1 (((va_up V 15 (nI (mk + 1)))) 22) cl ns ∧ iv_B D M1 N1 k (A1 2) ∧ iv_I D M1 N1 ic Ln Dn G ∧ iv_K D M1 N1 lf kc ka pr f4 ∧ iv_E D M1 N1 ((mk + 1)) (mq_es A1 ((mk + 1))) (mq_EF A1) ((va_up ent mk y0)) ∧ iv_C M1 (mq_EF A1) CF ((va_up ent mk y0)) ca ce ns ∧ iv_A D M1 N1 na (A1 24) (A1 25) (A1 32) fk km (fun a9 => mq_ss A1 a9 ((mk + 1))) ca ∧ iv_W D M1 N1 na nw wa (A1 35) told wf wm wg ts ca ∧ iv_L D M1 N1 ls lk lm (((va_up V 15 (nI (mk + 1)))) 45) ca ∧ iv_U D M1 N1 ∧ iv_N D M1 N1 ∧ iv_D M1 N1 ∧ iv_T D M1 N1 ws LW := by
    rw [eV22, eV45, eA2, eA24, eA25, eA32, eA35]
    exact ⟨hO1, hX.fr (N1 := N1) hO hF (fun (q : 0 = 32 ∨ 0 = 33 ∨ 0 = 34) => by omega) (fun t h9 => nx t (by omega)), hB.fr (N1 := N1) hO hF (fun t h8 h9 (q : t = 32 ∨ t = 33 ∨ t = 34) => by omega) (fun t h8 h9 => nx t (by omega)), hI.fr (N1 := N1) hO hF (fun t h8 h9 (q : t = 32 ∨ t = 33 ∨ t = 34) => by omega) (fun t h8 h9 => nx t (by omega)), hK.fr (N1 := N1) hO hF (fun t h8 h9 (q : t = 32 ∨ t = 33 ∨ t = 34) => by omega) (fun t h8 h9 => nx t (by omega)), by
      rw [mq_es_add h16, hEF]
      refine ⟨by rw [nx 32 (by omega), nx 33 (by omega), nb0]; exact hes, fun e he => ?_⟩
      by_cases h9 : e = mk
      · rw [h9, va_up_self, va_up_self]
        exact wy
      · rw [va_up_ne _ _ h9, va_up_ne _ _ h9]
        exact iv_en (hE.2 e (by omega)) hF hk, fun n h1 h2 => by
      have h9 : ce n ≠ mk := by
        have := (p7 n h1 h2).1
        omega
      exact ct_c (iv_ct (hC n h1 h2) hF hk) rfl rfl rfl (by rw [hEF, va_up_ne _ _ h9]) (va_up_ne _ _ h9), (hA.fr (N1 := N1) hO hF z1 (fun t h9 (q : t = 32 ∨ t = 33 ∨ t = 34) => by omega) (fun t h9 => nx t (by omega)) b8).cs (fun a9 h9 => ⟨rfl, rfl, rfl, by show (mq_ss A1 a9 (mk + 1)).map ca = (mq_ss A a9 mk).map ca; rw [mq_ssE eA26, mq_ssZ ((p8 a9 h9).2.1 mk (Nat.le_refl _) (by omega))]⟩), hW.fr (N1 := N1) hO hF z1 (fun t h9 (q : t = 32 ∨ t = 33 ∨ t = 34) => by omega) (fun t h9 => nx t (by omega)) b9, hL.fr (N1 := N1) hO hF z1 (fun t h8 h9 (q : t = 32 ∨ t = 33 ∨ t = 34) => by omega) (fun t h8 h9 => nx t (by omega)), hU.fr (N1 := N1) hO hF z1 (fun t h8 h9 (q : t = 32 ∨ t = 33 ∨ t = 34) => by omega) (fun t h8 h9 => nx t (by omega)), hN.fr (N1 := N1) hO hF z1 (fun t h8 h9 (q : t = 32 ∨ t = 33 ∨ t = 34) => by omega) (fun t h8 h9 => nx t (by omega)), hD.fr (N1 := N1) hO hF (fun (q : 50 = 32 ∨ 50 = 33 ∨ 50 = 34) => by omega) (nx 50 (by omega)), hT.fr (N1 := N1) hO hF (fun t h8 h9 (q : t = 32 ∨ t = 33 ∨ t = 34) => by omega) (fun t h8 h9 => nx t (by omega))⟩
  obtain ⟨mhO, mhX, mhB, mhI, mhK, mhE, mhC, mhA, mhW, mhL, mhU, mhN, mhD, mhT⟩ := iv_frR hR1 hF2 z2 b8 b9 m1
  exact ⟨N1, o1, (va_up V 15 (nI (mk + 1))), A1, S, k, ic, Ln, Dn, G, lf, cl, kc, ka, pr, f4, g4, gm, (mk + 1), (va_up ent mk y0), ns, ca, ce, CF, na, fk, km, nw, wa, told, wf, wm, wg, ts, ls, lk, lm, ws, LW, nx 0 (by omega), nx 199 (by omega), mhO, mhX, mhB, mhI, mhK, mhE, mhC, mhA, mhW, mhL, mhU, mhN, mhD, mhT, hR2, ⟨eV0.trans v0, eV1.trans v1, eV3.trans v3, eV9.trans v9, eV11.trans v11, eV12.trans v12, eV14.trans v14, va_up_self _ _ _, eV23.trans v23, eV33.trans v33, eV41.trans v41, eV43.trans v43⟩, ⟨b1, by omega, b3, by omega, b5, by omega, by omega, b8, b9, b10, b11, by rw [mq_es_add h16, List.length_append, List.length_singleton]; omega⟩, by rw [eA2]; exact p3, by rw [eA5, eA6, eA7, eV4]; exact p4, by rw [eA10]; exact p5, fun e he => by
      by_cases h9 : e = mk
      · rw [h17, h20, h9, ux_s, ux_s]
        exact ⟨⟨i0, hi0, rfl⟩, t9, ht9, et9⟩
      · rw [h17, h20, ux_n _ _ h9, ux_n _ _ h9]
        exact p6 e (by omega), fun n h1 h2 => by
      obtain ⟨c1, q2, q3, q4, c2, c3, c4, c5, c6, c7⟩ := p7 n h1 h2
      exact ⟨by omega, q2, q3, q4, c2, c3, c4, c5, c6, c7⟩, fun a9 h9 => by
      obtain ⟨c1, c2, c3, c4, c5, c6, c7, c8⟩ := (p8.c eA26 eA27 eA28 eA29 eA30 eA31) a9 h9
      have z0 := c2 mk (Nat.le_refl _) (by omega)
      rw [mq_ssZ z0]
      refine ⟨fun e he hk0 => ?_, fun e h1 h2 => c2 e (by omega) h2, c3, c4, c5, c6, c7, c8⟩
      by_cases h8 : e = mk
      · rw [h8] at hk0
        exact absurd z0 hk0
      · exact c1 e (by omega) hk0, by rw [eA34, eA36, eA37, eA38, eA39, eA40]; exact p9, by rw [eA42, eA44]; exact p10, p11, by
      obtain ⟨wn, h1, h2, h3⟩ := p12
      refine ⟨wn, h1, h2, fun h => (h3 h).trans ?_⟩
      have h9 : ce wn ≠ mk := by
        have := (p7 wn h h1).1
        omega
      unfold ec_c
      rw [h17, ux_n _ _ h9]⟩
