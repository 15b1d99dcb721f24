/-! prepare -/
set_option maxHeartbeats 4000000 in
set_option maxRecDepth 100000 in
theorem iv_prepare (l : Launch) {D : va_G} {z x mm j : Nat} {M : mw_M} (a : Nat → Int32) (hj : j < 512) (h : iv D x mm j M) : iv_go l D z x mm yy_Xi_prepare bb_Xi_prepare 1 (Option.some Jvm.ClassFile.FieldType.int) yy_Mo_prepare bb_Mo_prepare 3 (Option.some Jvm.ClassFile.FieldType.int) [] M (iv D x mm (j + 1)) := by
  have hh := h
  obtain ⟨N, o, V, A, S, k, ic, Ln, Dn, G, lf, cl, kc, ka, pr, f4, g4, gm, mk, ent, ns, ca, ce, CF, na, fk, km, nw, wa, told, wf, wm, wg, ts, ls, lk, lm, ws, LW, e0, e1, hO, hX, hB, hI, hK, hE, hC, hA, hW, hL, hU, hN, hD, hT, hR, pV, pB, p3, p4, p5, p6, p7, p8, p9, p10, p11, p12⟩ := h
  subst e0 e1
  obtain ⟨v0, v1, v3, v9, v11, v12, v14, v15, v23, v33, v41, v43⟩ := pV
  obtain ⟨b1, b2, b3, b4, b5, b6, b7, b8, b9, b10, b11, b12⟩ := pB
  have hg := kr_may p5.1 (by omega) pr
  cases hc : (!ky_good kc lf g4 pr cl && decide (kc < ky_first kc lf g4 cl + 4)) with
  | false =>
    exact iv_same hh (mw_mono (fun v M' hp => hp.2.1 hc) (cc_Xi_prepare l D z M (N 0) (N 1) (N 3) (N 30) (N 32) (N 35) (N 37) (N 40) (N 50) (N 51) (N 46) (N 43) (V 22) (nI cl) (nI ns) (N 31) lf kc (nI ka) pr f4 g4 cl hX hK.1 hK.2 p5.2.2 (by omega) (by omega) (by omega))) (mw_mono (fun v M' hp => hp.2.1 (hg.symm.trans hc)) (cc_Mo_prepare l D z M (N 199) _ (N 210) lf kc cl (nI ka) pr (A 10) gm hR.m (mq_vi rfl v0) (mq_vi rfl v1) (mq_vi rfl v9) (mq_va rfl) (mq_vi rfl v11) (mq_vi rfl v12) (hR.w 10 rfl (by decide)) p5.2.1 (by omega) (by omega) (by omega))) (by decide) (by decide) (by decide) (by decide) (by decide) (by decide)
  | true =>
    refine ⟨_, _, _, _, _, by decide, by decide, by decide, by decide, cc_Xi_prepare l D z M (N 0) (N 1) (N 3) (N 30) (N 32) (N 35) (N 37) (N 40) (N 50) (N 51) (N 46) (N 43) (V 22) (nI cl) (nI ns) (N 31) lf kc (nI ka) pr f4 g4 cl hX hK.1 hK.2 p5.2.2 (by omega) (by omega) (by omega), fun v M1 hp z1 => ?_⟩
    obtain ⟨hp, -, hF0⟩ := hp
    obtain ⟨rfl, w, wr⟩ := hp hc
    have hF : mw_fr (iv_F (fun t => t = 30 ∨ t = 31) N) M M1 := hF0.mono (fun q h => by
        rcases h with e | e
        · exact ⟨30, Or.inl rfl, e⟩
        · exact ⟨31, Or.inr (rfl), e⟩)
    have hk : ∀ t : Nat, (t = 30 ∨ t = 31) → iv_kd M (N t) := by
      intro t q
      rcases q with q | q
      · rw [q]
        exact kd_o hK.1 (by decide)
      · rw [q]
        exact kd_r hK.2
    have hR1 : iv_R D M1 N V A S := hR.fr (N1 := N) hO hF (fun t h9 (q : t = 30 ∨ t = 31) => by omega) (fun _ _ => rfl)
    refine ⟨_, _, _, _, _, rfl, hR1.m, by decide, by decide, cc_Mo_prepare l D z M1 (N 199) _ (N 210) lf kc cl (nI ka) pr (A 10) gm hR1.m (mq_vi rfl v0) (mq_vi rfl v1) (mq_vi rfl v9) (mq_va rfl) (mq_vi rfl v11) (mq_vi rfl v12) (hR1.w 10 rfl (by decide)) p5.2.1 (by omega) (by omega) (by omega), fun v2 M2 hp2 z2 => ?_⟩
    obtain ⟨hp2, -, hF2⟩ := hp2
    obtain ⟨rfl, w2, w3⟩ := hp2 (hg.symm.trans hc)
    refine ⟨rfl, ?_⟩
    rw [mq_vu rfl, mq_vu rfl] at w2
    have hR2 : iv_R D M2 N (va_up (va_up V 12 (nI kc)) 9 (nI (kc + 1))) (va_up A 10 (upd (A 10) kc (nI cl))) S := mq_R.nA (k := 10) hR1 rfl (by decide) w2 w3 hF2
    have hF2 : mw_fr (mq_P (N 199) (fun k => N (200 + k))) M1 M2 := hF2.mono (fun q h => h.imp id (fun e => ⟨10, rfl, e⟩))
    have hlt : kc < ky_first kc lf g4 cl + 4 := by
      rw [Bool.and_eq_true] at hc
      exact of_decide_eq_true hc.2
    have eV0 : (va_up (va_up V 12 (nI kc)) 9 (nI (kc + 1))) 0 = V 0 := (va_up_ne _ _ (by decide)).trans (va_up_ne _ _ (by decide))
    have eV1 : (va_up (va_up V 12 (nI kc)) 9 (nI (kc + 1))) 1 = V 1 := (va_up_ne _ _ (by decide)).trans (va_up_ne _ _ (by decide))
    have eV3 : (va_up (va_up V 12 (nI kc)) 9 (nI (kc + 1))) 3 = V 3 := (va_up_ne _ _ (by decide)).trans (va_up_ne _ _ (by decide))
    have eV4 : (va_up (va_up V 12 (nI kc)) 9 (nI (kc + 1))) 4 = V 4 := (va_up_ne _ _ (by decide)).trans (va_up_ne _ _ (by decide))
    have eV11 : (va_up (va_up V 12 (nI kc)) 9 (nI (kc + 1))) 11 = V 11 := (va_up_ne _ _ (by decide)).trans (va_up_ne _ _ (by decide))
    have eV14 : (va_up (va_up V 12 (nI kc)) 9 (nI (kc + 1))) 14 = V 14 := (va_up_ne _ _ (by decide)).trans (va_up_ne _ _ (by decide))
    have eV15 : (va_up (va_up V 12 (nI kc)) 9 (nI (kc + 1))) 15 = V 15 := (va_up_ne _ _ (by decide)).trans (va_up_ne _ _ (by decide))
    have eV22 : (va_up (va_up V 12 (nI kc)) 9 (nI (kc + 1))) 22 = V 22 := (va_up_ne _ _ (by decide)).trans (va_up_ne _ _ (by decide))
    have eV23 : (va_up (va_up V 12 (nI kc)) 9 (nI (kc + 1))) 23 = V 23 := (va_up_ne _ _ (by decide)).trans (va_up_ne _ _ (by decide))
    have eV33 : (va_up (va_up V 12 (nI kc)) 9 (nI (kc + 1))) 33 = V 33 := (va_up_ne _ _ (by decide)).trans (va_up_ne _ _ (by decide))
    have eV41 : (va_up (va_up V 12 (nI kc)) 9 (nI (kc + 1))) 41 = V 41 := (va_up_ne _ _ (by decide)).trans (va_up_ne _ _ (by decide))
    have eV43 : (va_up (va_up V 12 (nI kc)) 9 (nI (kc + 1))) 43 = V 43 := (va_up_ne _ _ (by decide)).trans (va_up_ne _ _ (by decide))
    have eV45 : (va_up (va_up V 12 (nI kc)) 9 (nI (kc + 1))) 45 = V 45 := (va_up_ne _ _ (by decide)).trans (va_up_ne _ _ (by decide))
    have eA2 : (va_up A 10 (upd (A 10) kc (nI cl))) 2 = A 2 := va_up_ne _ _ (by decide)
    have eA5 : (va_up A 10 (upd (A 10) kc (nI cl))) 5 = A 5 := va_up_ne _ _ (by decide)
    have eA6 : (va_up A 10 (upd (A 10) kc (nI cl))) 6 = A 6 := va_up_ne _ _ (by decide)
    have eA7 : (va_up A 10 (upd (A 10) kc (nI cl))) 7 = A 7 := va_up_ne _ _ (by decide)
    have eA16 : (va_up A 10 (upd (A 10) kc (nI cl))) 16 = A 16 := va_up_ne _ _ (by decide)
    have eA17 : (va_up A 10 (upd (A 10) kc (nI cl))) 17 = A 17 := va_up_ne _ _ (by decide)
    have eA18 : (va_up A 10 (upd (A 10) kc (nI cl))) 18 = A 18 := va_up_ne _ _ (by decide)
    have eA19 : (va_up A 10 (upd (A 10) kc (nI cl))) 19 = A 19 := va_up_ne _ _ (by decide)
    have eA20 : (va_up A 10 (upd (A 10) kc (nI cl))) 20 = A 20 := va_up_ne _ _ (by decide)
    have eA21 : (va_up A 10 (upd (A 10) kc (nI cl))) 21 = A 21 := va_up_ne _ _ (by decide)
    have eA24 : (va_up A 10 (upd (A 10) kc (nI cl))) 24 = A 24 := va_up_ne _ _ (by decide)
    have eA25 : (va_up A 10 (upd (A 10) kc (nI cl))) 25 = A 25 := va_up_ne _ _ (by decide)
    have eA26 : (va_up A 10 (upd (A 10) kc (nI cl))) 26 = A 26 := va_up_ne _ _ (by decide)
    have eA27 : (va_up A 10 (upd (A 10) kc (nI cl))) 27 = A 27 := va_up_ne _ _ (by decide)
    have eA28 : (va_up A 10 (upd (A 10) kc (nI cl))) 28 = A 28 := va_up_ne _ _ (by decide)
    have eA29 : (va_up A 10 (upd (A 10) kc (nI cl))) 29 = A 29 := va_up_ne _ _ (by decide)
    have eA30 : (va_up A 10 (upd (A 10) kc (nI cl))) 30 = A 30 := va_up_ne _ _ (by decide)
    have eA31 : (va_up A 10 (upd (A 10) kc (nI cl))) 31 = A 31 := va_up_ne _ _ (by decide)
    have eA32 : (va_up A 10 (upd (A 10) kc (nI cl))) 32 = A 32 := va_up_ne _ _ (by decide)
    have eA34 : (va_up A 10 (upd (A 10) kc (nI cl))) 34 = A 34 := va_up_ne _ _ (by decide)
    have eA35 : (va_up A 10 (upd (A 10) kc (nI cl))) 35 = A 35 := va_up_ne _ _ (by decide)
    have eA36 : (va_up A 10 (upd (A 10) kc (nI cl))) 36 = A 36 := va_up_ne _ _ (by decide)
    have eA37 : (va_up A 10 (upd (A 10) kc (nI cl))) 37 = A 37 := va_up_ne _ _ (by decide)
    have eA38 : (va_up A 10 (upd (A 10) kc (nI cl))) 38 = A 38 := va_up_ne _ _ (by decide)
    have eA39 : (va_up A 10 (upd (A 10) kc (nI cl))) 39 = A 39 := va_up_ne _ _ (by decide)
    have eA40 : (va_up A 10 (upd (A 10) kc (nI cl))) 40 = A 40 := va_up_ne _ _ (by decide)
    have eA42 : (va_up A 10 (upd (A 10) kc (nI cl))) 42 = A 42 := va_up_ne _ _ (by decide)
    have eA44 : (va_up A 10 (upd (A 10) kc (nI cl))) 44 = A 44 := va_up_ne _ _ (by decide)
    have m1 : iv_O D M1 N o ∧ iv_X M1 N (((va_up (va_up V 12 (nI kc)) 9 (nI (kc + 1)))) 22) cl ns ∧ iv_B D M1 N k (((va_up A 10 (upd (A 10) kc (nI cl)))) 2) ∧ iv_I D M1 N ic Ln Dn G ∧ iv_K D M1 N lf ((kc + 1)) ka ((nI kc)) ((upd f4 (kc % 4) (nI cl))) ∧ iv_E D M1 N mk (mq_es ((va_up A 10 (upd (A 10) kc (nI cl)))) mk) (mq_EF ((va_up A 10 (upd (A 10) kc (nI cl))))) ent ∧ iv_C M1 (mq_EF ((va_up A 10 (upd (A 10) kc (nI cl))))) CF ent ca ce ns ∧ iv_A D M1 N na (((va_up A 10 (upd (A 10) kc (nI cl)))) 24) (((va_up A 10 (upd (A 10) kc (nI cl)))) 25) (((va_up A 10 (upd (A 10) kc (nI cl)))) 32) fk km (fun a => mq_ss ((va_up A 10 (upd (A 10) kc (nI cl)))) a mk) ca ∧ iv_W D M1 N na nw wa (((va_up A 10 (upd (A 10) kc (nI cl)))) 35) told wf wm wg ts ca ∧ iv_L D M1 N ls lk lm (((va_up (va_up V 12 (nI kc)) 9 (nI (kc + 1)))) 45) ca ∧ iv_U D M1 N ∧ iv_N D M1 N ∧ iv_D M1 N ∧ iv_T D M1 N ws LW := by
      rw [eV22, eV45, eA2, eA24, eA25, eA32, eA35, mq_es_c eA16, mq_EF_c eA17 eA18 eA19 eA20 eA21, mq_ssE eA26]
      exact ⟨hO.fr (N1 := N) (o1 := o) hF z1 (fun _ => Or.inl rfl) (fun _ _ => rfl), hX.fr (N1 := N) hO hF (fun (q : 0 = 30 ∨ 0 = 31) => by omega) (fun _ _ => rfl), hB.fr (N1 := N) hO hF (fun t h8 h9 (q : t = 30 ∨ t = 31) => by omega) (fun _ _ _ => rfl), hI.fr (N1 := N) hO hF (fun t h8 h9 (q : t = 30 ∨ t = 31) => by omega) (fun _ _ _ => rfl), ⟨w, wr⟩, hE.fr (N1 := N) hO hF z1 hk (fun t h8 h9 (q : t = 30 ∨ t = 31) => by omega) (fun _ _ _ => rfl), hC.fr hF hk, hA.fr (N1 := N) hO hF z1 (fun t h9 (q : t = 30 ∨ t = 31) => by omega) (fun _ _ => rfl) b8, hW.fr (N1 := N) hO hF z1 (fun t h9 (q : t = 30 ∨ t = 31) => by omega) (fun _ _ => rfl) b9, hL.fr (N1 := N) hO hF z1 (fun t h8 h9 (q : t = 30 ∨ t = 31) => by omega) (fun _ _ _ => rfl), hU.fr (N1 := N) hO hF z1 (fun t h8 h9 (q : t = 30 ∨ t = 31) => by omega) (fun _ _ _ => rfl), hN.fr (N1 := N) hO hF z1 (fun t h8 h9 (q : t = 30 ∨ t = 31) => by omega) (fun _ _ _ => rfl), hD.fr (N1 := N) hO hF (fun (q : 50 = 30 ∨ 50 = 31) => by omega) (rfl), hT.fr (N1 := N) hO hF (fun t h8 h9 (q : t = 30 ∨ t = 31) => by omega) (fun _ _ _ => rfl)⟩
    obtain ⟨mhO, mhX, mhB, mhI, mhK, mhE, mhC, mhA, mhW, mhL, mhU, mhN, mhD, mhT⟩ := iv_frR hR1 hF2 z2 b8 b9 m1
    exact ⟨N, o, (va_up (va_up V 12 (nI kc)) 9 (nI (kc + 1))), (va_up A 10 (upd (A 10) kc (nI cl))), S, k, ic, Ln, Dn, G, lf, cl, (kc + 1), ka, (nI kc), (upd f4 (kc % 4) (nI cl)), (fun j => if j = kc % 4 then cl else g4 j), (fun j => if j = kc then cl else gm j), mk, ent, ns, ca, ce, CF, na, fk, km, nw, wa, told, wf, wm, wg, ts, ls, lk, lm, ws, LW, rfl, rfl, mhO, mhX, mhB, mhI, mhK, mhE, mhC, mhA, mhW, mhL, mhU, mhN, mhD, mhT, hR2, ⟨eV0.trans v0, eV1.trans v1, eV3.trans v3, va_up_self _ _ _, eV11.trans v11, (va_up_ne _ _ (by decide)).trans (va_up_self _ _ _), eV14.trans v14, eV15.trans v15, eV23.trans v23, eV33.trans v33, eV41.trans v41, eV43.trans v43⟩, ⟨b1, by omega, b3, by omega, by omega, by omega, b7, b8, b9, b10, b11, by rw [mq_es_c eA16]; exact b12⟩, by rw [eA2]; exact p3, by rw [eA5, eA6, eA7, eV4]; exact p4, ⟨kr_make p5.1 (by omega) hlt, fun i hi => by
          rw [va_up_self]
          show _ = nI (if i = kc then cl else gm i) ∧ (if i = kc then cl else gm i) < 2 ^ 20
          by_cases e : i = kc
          · rw [e, ux_s, if_pos rfl]
            exact ⟨rfl, by omega⟩
          · rw [ux_n _ _ e, if_neg e]
            exact p5.2.1 i (by omega), fun i hi => by
          show _ = nI (if i = kc % 4 then cl else g4 i) ∧ (if i = kc % 4 then cl else g4 i) < 2 ^ 20
          by_cases e : i = kc % 4
          · rw [e, ux_s, if_pos rfl]
            exact ⟨rfl, by omega⟩
          · rw [ux_n _ _ e, if_neg e]
            exact p5.2.2 i hi⟩, by rw [eA17, eA20]; exact p6, fun n h1 h2 => by
          obtain ⟨c1, q2, q3, q4, c2, c3, c4, c5, c6, c7⟩ := p7 n h1 h2
          exact ⟨c1, q2, q3, q4, c2, c3, c4, by omega, c6, by show q4 ≤ (if q2 = kc then cl else gm q2) + lf; rw [if_neg (by omega)]; exact c7⟩, p8.c eA26 eA27 eA28 eA29 eA30 eA31, by rw [eA34, eA36, eA37, eA38, eA39, eA40]; exact p9, by rw [eA42, eA44]; exact p10, p11, by rw [eA17]; exact p12⟩
