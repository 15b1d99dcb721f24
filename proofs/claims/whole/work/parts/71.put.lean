/-! put -/
set_option maxHeartbeats 4000000 in
set_option maxRecDepth 100000 in
theorem iv_put (l : Launch) {D : va_G} {z x mm j : Nat} {M : mw_M} (a : Nat → Int32) (hj : j < 512) (h : iv D x mm j M) : iv_go l D z x mm yy_Xi_put bb_Xi_put 4 (Option.some Jvm.ClassFile.FieldType.boolean) yy_Mo_put bb_Mo_put 4 (Option.some Jvm.ClassFile.FieldType.boolean) [.int (a 1), .int (a 2)] M (iv D x mm (j + 1)) := by
  have hh := h
  obtain ⟨N, o, V, A, S, k, ic, Ln, Dn, G, lf, cl, kc, ka, pr, f4, g4, gm, mk, ent, ns, ca, ce, CF, na, fk, km, nw, wa, told, wf, wm, wg, ts, ls, lk, lm, ws, LW, e0, e1, hO, hX, hB, hI, hK, hE, hC, hA, hW, hL, hU, hN, hD, hT, hR, pV, pB, p3, p4, p5, p6, p7, p8, p9, p10, p11, p12⟩ := h
  subst e0 e1
  obtain ⟨v0, v1, v3, v9, v11, v12, v14, v15, v23, v33, v41, v43⟩ := pV
  obtain ⟨b1, b2, b3, b4, b5, b6, b7, b8, b9, b10, b11, b12⟩ := pB
  rcases iv_rng (i := a 2) (lo := 1) (hi := 4) (by decide) (by decide) with hm | ⟨q, hq1, hq2, hq⟩
  · exact iv_same hh (cc_Xi_put_n l D z M (N 0) (N 1) (N 3) (N 30) (N 32) (N 35) (N 37) (N 40) (N 50) (N 51) (N 46) (N 43) (V 22) (nI cl) (nI ns) (N 2) k (A 2) _ _ hX hB.1 hB.2 b3 (hm.elim Or.inl (fun q => Or.inr (Or.inl q)))) (cc_Mo_put_n l D z M (N 199) _ (N 202) k (A 2) _ _ hR.m (mq_va rfl) (mq_vi rfl v3) (hR.w 2 rfl (by decide)) b3 (hm.elim Or.inl (fun q => Or.inr (Or.inl q)))) (by decide) (by decide) (by decide) (by decide) (by decide) (by decide)
  · rw [hq]
    by_cases hkq : k + q ≤ 100
    · refine ⟨_, _, _, _, _, by decide, by decide, by decide, by decide, cc_Xi_put_y l D z M (N 0) (N 1) (N 3) (N 30) (N 32) (N 35) (N 37) (N 40) (N 50) (N 51) (N 46) (N 43) (V 22) (nI cl) (nI ns) (N 2) k (A 2) (a 1) q hX hB.1 hB.2 hq1 hq2 hkq, fun v M1 hp z1 => ?_⟩
      obtain ⟨rfl, w, wr, hF0⟩ := hp
      have hF : mw_fr (iv_F (fun t => t = 1 ∨ t = 2) N) M M1 := hF0.mono (fun q h => by
          rcases h with e | e
          · exact ⟨1, Or.inl rfl, e⟩
          · exact ⟨2, Or.inr (rfl), e⟩)
      have hk : ∀ t : Nat, (t = 1 ∨ t = 2) → iv_kd M (N t) := by
        intro t q
        rcases q with q | q
        · rw [q]
          exact kd_o hB.1 (by decide)
        · rw [q]
          exact kd_r hB.2
      have hR1 : iv_R D M1 N V A S := hR.fr (N1 := N) hO hF (fun t h9 (q : t = 1 ∨ t = 2) => by omega) (fun _ _ => rfl)
      refine ⟨_, _, _, _, _, rfl, hR1.m, by decide, by decide, cc_Mo_put_y l D z M1 (N 199) _ (N 202) k (A 2) (a 1) q hR1.m (mq_va rfl) (mq_vi rfl v3) (hR1.w 2 rfl (by decide)) hq1 hq2 hkq, fun v2 M2 hp2 z2 => ?_⟩
      obtain ⟨rfl, w2, w3, hF2⟩ := hp2
      refine ⟨rfl, ?_⟩
      rw [mq_vu rfl] at w2
      have hR2 : iv_R D M2 N (va_up V 3 (nI (k + q))) (va_up A 2 (pt_f (a 1) q (A 2) k)) S := mq_R.nA (k := 2) hR1 rfl (by decide) w2 w3 hF2
      have hF2 : mw_fr (mq_P (N 199) (fun k => N (200 + k))) M1 M2 := hF2.mono (fun q h => h.imp id (fun e => ⟨2, rfl, e⟩))
      have eV0 : (va_up V 3 (nI (k + q))) 0 = V 0 := va_up_ne _ _ (by decide)
      have eV1 : (va_up V 3 (nI (k + q))) 1 = V 1 := va_up_ne _ _ (by decide)
      have eV4 : (va_up V 3 (nI (k + q))) 4 = V 4 := va_up_ne _ _ (by decide)
      have eV9 : (va_up V 3 (nI (k + q))) 9 = V 9 := va_up_ne _ _ (by decide)
      have eV11 : (va_up V 3 (nI (k + q))) 11 = V 11 := va_up_ne _ _ (by decide)
      have eV12 : (va_up V 3 (nI (k + q))) 12 = V 12 := va_up_ne _ _ (by decide)
      have eV14 : (va_up V 3 (nI (k + q))) 14 = V 14 := va_up_ne _ _ (by decide)
      have eV15 : (va_up V 3 (nI (k + q))) 15 = V 15 := va_up_ne _ _ (by decide)
      have eV22 : (va_up V 3 (nI (k + q))) 22 = V 22 := va_up_ne _ _ (by decide)
      have eV23 : (va_up V 3 (nI (k + q))) 23 = V 23 := va_up_ne _ _ (by decide)
      have eV33 : (va_up V 3 (nI (k + q))) 33 = V 33 := va_up_ne _ _ (by decide)
      have eV41 : (va_up V 3 (nI (k + q))) 41 = V 41 := va_up_ne _ _ (by decide)
      have eV43 : (va_up V 3 (nI (k + q))) 43 = V 43 := va_up_ne _ _ (by decide)
      have eV45 : (va_up V 3 (nI (k + q))) 45 = V 45 := va_up_ne _ _ (by decide)
      have eA5 : (va_up A 2 (pt_f (a 1) q (A 2) k)) 5 = A 5 := va_up_ne _ _ (by decide)
      have eA6 : (va_up A 2 (pt_f (a 1) q (A 2) k)) 6 = A 6 := va_up_ne _ _ (by decide)
      have eA7 : (va_up A 2 (pt_f (a 1) q (A 2) k)) 7 = A 7 := va_up_ne _ _ (by decide)
      have eA10 : (va_up A 2 (pt_f (a 1) q (A 2) k)) 10 = A 10 := va_up_ne _ _ (by decide)
      have eA16 : (va_up A 2 (pt_f (a 1) q (A 2) k)) 16 = A 16 := va_up_ne _ _ (by decide)
      have eA17 : (va_up A 2 (pt_f (a 1) q (A 2) k)) 17 = A 17 := va_up_ne _ _ (by decide)
      have eA18 : (va_up A 2 (pt_f (a 1) q (A 2) k)) 18 = A 18 := va_up_ne _ _ (by decide)
      have eA19 : (va_up A 2 (pt_f (a 1) q (A 2) k)) 19 = A 19 := va_up_ne _ _ (by decide)
      have eA20 : (va_up A 2 (pt_f (a 1) q (A 2) k)) 20 = A 20 := va_up_ne _ _ (by decide)
      have eA21 : (va_up A 2 (pt_f (a 1) q (A 2) k)) 21 = A 21 := va_up_ne _ _ (by decide)
      have eA24 : (va_up A 2 (pt_f (a 1) q (A 2) k)) 24 = A 24 := va_up_ne _ _ (by decide)
      have eA25 : (va_up A 2 (pt_f (a 1) q (A 2) k)) 25 = A 25 := va_up_ne _ _ (by decide)
      have eA26 : (va_up A 2 (pt_f (a 1) q (A 2) k)) 26 = A 26 := va_up_ne _ _ (by decide)
      have eA27 : (va_up A 2 (pt_f (a 1) q (A 2) k)) 27 = A 27 := va_up_ne _ _ (by decide)
      have eA28 : (va_up A 2 (pt_f (a 1) q (A 2) k)) 28 = A 28 := va_up_ne _ _ (by decide)
      have eA29 : (va_up A 2 (pt_f (a 1) q (A 2) k)) 29 = A 29 := va_up_ne _ _ (by decide)
      have eA30 : (va_up A 2 (pt_f (a 1) q (A 2) k)) 30 = A 30 := va_up_ne _ _ (by decide)
      have eA31 : (va_up A 2 (pt_f (a 1) q (A 2) k)) 31 = A 31 := va_up_ne _ _ (by decide)
      have eA32 : (va_up A 2 (pt_f (a 1) q (A 2) k)) 32 = A 32 := va_up_ne _ _ (by decide)
      have eA34 : (va_up A 2 (pt_f (a 1) q (A 2) k)) 34 = A 34 := va_up_ne _ _ (by decide)
      have eA35 : (va_up A 2 (pt_f (a 1) q (A 2) k)) 35 = A 35 := va_up_ne _ _ (by decide)
      have eA36 : (va_up A 2 (pt_f (a 1) q (A 2) k)) 36 = A 36 := va_up_ne _ _ (by decide)
      have eA37 : (va_up A 2 (pt_f (a 1) q (A 2) k)) 37 = A 37 := va_up_ne _ _ (by decide)
      have eA38 : (va_up A 2 (pt_f (a 1) q (A 2) k)) 38 = A 38 := va_up_ne _ _ (by decide)
      have eA39 : (va_up A 2 (pt_f (a 1) q (A 2) k)) 39 = A 39 := va_up_ne _ _ (by decide)
      have eA40 : (va_up A 2 (pt_f (a 1) q (A 2) k)) 40 = A 40 := va_up_ne _ _ (by decide)
      have eA42 : (va_up A 2 (pt_f (a 1) q (A 2) k)) 42 = A 42 := va_up_ne _ _ (by decide)
      have eA44 : (va_up A 2 (pt_f (a 1) q (A 2) k)) 44 = A 44 := va_up_ne _ _ (by decide)
      have m1 : iv_O D M1 N o ∧ iv_X M1 N (((va_up V 3 (nI (k + q)))) 22) cl ns ∧ iv_B D M1 N ((k + q)) (((va_up A 2 (pt_f (a 1) q (A 2) k))) 2) ∧ iv_I D M1 N ic Ln Dn G ∧ iv_K D M1 N lf kc ka pr f4 ∧ iv_E D M1 N mk (mq_es ((va_up A 2 (pt_f (a 1) q (A 2) k))) mk) (mq_EF ((va_up A 2 (pt_f (a 1) q (A 2) k)))) ent ∧ iv_C M1 (mq_EF ((va_up A 2 (pt_f (a 1) q (A 2) k)))) CF ent ca ce ns ∧ iv_A D M1 N na (((va_up A 2 (pt_f (a 1) q (A 2) k))) 24) (((va_up A 2 (pt_f (a 1) q (A 2) k))) 25) (((va_up A 2 (pt_f (a 1) q (A 2) k))) 32) fk km (fun a9 => mq_ss ((va_up A 2 (pt_f (a 1) q (A 2) k))) a9 mk) ca ∧ iv_W D M1 N na nw wa (((va_up A 2 (pt_f (a 1) q (A 2) k))) 35) told wf wm wg ts ca ∧ iv_L D M1 N ls lk lm (((va_up V 3 (nI (k + q)))) 45) ca ∧ iv_U D M1 N ∧ iv_N D M1 N ∧ iv_D M1 N ∧ iv_T D M1 N ws LW := by
        rw [eV22, eV45, eA24, eA25, eA32, eA35, mq_es_c eA16, mq_EF_c eA17 eA18 eA19 eA20 eA21, mq_ssE eA26]
        exact ⟨hO.fr (N1 := N) (o1 := o) hF z1 (fun _ => Or.inl rfl) (fun _ _ => rfl), hX.fr (N1 := N) hO hF (fun (q : 0 = 1 ∨ 0 = 2) => by omega) (fun _ _ => rfl), ⟨w, by rw [va_up_self]; exact wr⟩, hI.fr (N1 := N) hO hF (fun t h8 h9 (q : t = 1 ∨ t = 2) => by omega) (fun _ _ _ => rfl), hK.fr (N1 := N) hO hF (fun t h8 h9 (q : t = 1 ∨ t = 2) => by omega) (fun _ _ _ => rfl), hE.fr (N1 := N) hO hF z1 hk (fun t h8 h9 (q : t = 1 ∨ t = 2) => by omega) (fun _ _ _ => rfl), hC.fr hF hk, hA.fr (N1 := N) hO hF z1 (fun t h9 (q : t = 1 ∨ t = 2) => by omega) (fun _ _ => rfl) b8, hW.fr (N1 := N) hO hF z1 (fun t h9 (q : t = 1 ∨ t = 2) => by omega) (fun _ _ => rfl) b9, hL.fr (N1 := N) hO hF z1 (fun t h8 h9 (q : t = 1 ∨ t = 2) => by omega) (fun _ _ _ => rfl), hU.fr (N1 := N) hO hF z1 (fun t h8 h9 (q : t = 1 ∨ t = 2) => by omega) (fun _ _ _ => rfl), hN.fr (N1 := N) hO hF z1 (fun t h8 h9 (q : t = 1 ∨ t = 2) => by omega) (fun _ _ _ => rfl), hD.fr (N1 := N) hO hF (fun (q : 50 = 1 ∨ 50 = 2) => by omega) (rfl), hT.fr (N1 := N) hO hF (fun t h8 h9 (q : t = 1 ∨ t = 2) => by omega) (fun _ _ _ => rfl)⟩
      obtain ⟨mhO, mhX, mhB, mhI, mhK, mhE, mhC, mhA, mhW, mhL, mhU, mhN, mhD, mhT⟩ := iv_frR hR1 hF2 z2 b8 b9 m1
      exact ⟨N, o, (va_up V 3 (nI (k + q))), (va_up A 2 (pt_f (a 1) q (A 2) k)), S, (k + q), ic, Ln, Dn, G, lf, cl, kc, ka, pr, f4, g4, gm, mk, ent, ns, ca, ce, CF, na, fk, km, nw, wa, told, wf, wm, wg, ts, ls, lk, lm, ws, LW, rfl, rfl, mhO, mhX, mhB, mhI, mhK, mhE, mhC, mhA, mhW, mhL, mhU, mhN, mhD, mhT, hR2, ⟨eV0.trans v0, eV1.trans v1, va_up_self _ _ _, eV9.trans v9, eV11.trans v11, eV12.trans v12, eV14.trans v14, eV15.trans v15, eV23.trans v23, eV33.trans v33, eV41.trans v41, eV43.trans v43⟩, ⟨b1, by omega, hkq, by omega, b5, by omega, b7, b8, b9, b10, b11, by rw [mq_es_c eA16]; exact b12⟩, by rw [va_up_self]; exact pt_p3 (a 1) q (A 2) k p3, by rw [eA5, eA6, eA7, eV4]; exact p4, by rw [eA10]; exact p5, by rw [eA17, eA20]; exact p6, p7, p8.c eA26 eA27 eA28 eA29 eA30 eA31, by rw [eA34, eA36, eA37, eA38, eA39, eA40]; exact p9, by rw [eA42, eA44]; exact p10, p11, by rw [eA17]; exact p12⟩
    · exact iv_same hh (cc_Xi_put_n l D z M (N 0) (N 1) (N 3) (N 30) (N 32) (N 35) (N 37) (N 40) (N 50) (N 51) (N 46) (N 43) (V 22) (nI cl) (nI ns) (N 2) k (A 2) _ _ hX hB.1 hB.2 b3 (Or.inr (Or.inr ⟨q, rfl, by omega, by omega⟩))) (cc_Mo_put_n l D z M (N 199) _ (N 202) k (A 2) _ _ hR.m (mq_va rfl) (mq_vi rfl v3) (hR.w 2 rfl (by decide)) b3 (Or.inr (Or.inr ⟨q, rfl, by omega, by omega⟩))) (by decide) (by decide) (by decide) (by decide) (by decide) (by decide)
