/-! tick -/
set_option maxHeartbeats 4000000 in
set_option maxRecDepth 100000 in
theorem iv_tick (l : Launch) {D : va_G} {z x mm j : Nat} {M : mw_M} (a : Nat → Int32) (hj : j < 512) (h : iv D x mm j M) : iv_go l D z x mm yy_Xi_tick bb_Xi_tick 2 (Option.some Jvm.ClassFile.FieldType.int) yy_Mo_tick bb_Mo_tick 2 (Option.some Jvm.ClassFile.FieldType.int) [.int (a 1)] M (iv D x mm (j + 1)) := by
  have hh := h
  obtain ⟨N, o, V, A, S, k, ic, Ln, Dn, G, lf, cl, kc, ka, pr, f4, g4, gm, mk, ent, ns, ca, ce, CF, na, fk, km, nw, wa, told, wf, wm, wg, ts, ls, lk, lm, ws, LW, e0, e1, hO, hX, hB, hI, hK, hE, hC, hA, hW, hL, hU, hN, hD, hT, hR, pV, pB, p3, p4, p5, p6, p7, p8, p9, p10, p11, p12⟩ := h
  subst e0 e1
  obtain ⟨v0, v1, v3, v9, v11, v12, v14, v15, v23, v33, v41, v43⟩ := pV
  obtain ⟨b1, b2, b3, b4, b5, b6, b7, b8, b9, b10, b11, b12⟩ := pB
  rcases iv_rng (i := a 1) (lo := 1) (hi := 64) (by decide) (by decide) with hm | ⟨q, hq1, hq2, hq⟩
  · exact iv_same hh (cc_Xi_tick_n l D z M _ _ hm) (cc_Mo_tick_n l D z M _ _ hm) (by decide) (by decide) (by decide) (by decide) (by decide) (by decide)
  · rw [hq]
    refine ⟨_, _, _, _, _, by decide, by decide, by decide, by decide, cc_Xi_tick_y l D z M (N 0) (N 1) (N 3) (N 30) (N 32) (N 35) (N 37) (N 40) (N 50) (N 51) (N 46) (N 43) (V 22) 0 (nI ns) cl q hX hq1 hq2 (by omega), fun v M1 hp z1 => ?_⟩
    obtain ⟨rfl, w, hF0⟩ := hp
    have hF : mw_fr (iv_F (fun t => t = 0) N) M M1 := hF0.mono (fun q h => ⟨0, rfl, h⟩)
    have hk : ∀ t : Nat, (t = 0) → iv_kd M (N t) := by
      intro t q
      rcases q with q
      · rw [q]
        exact kd_o hX (by decide)
    have hR1 : iv_R D M1 N V A S := hR.fr (N1 := N) hO hF (fun t h9 (q : t = 0) => by omega) (fun _ _ => rfl)
    refine ⟨_, _, _, _, _, rfl, hR1.m, by decide, by decide, cc_Mo_tick_y l D z M1 (N 199) _ cl q hR1.m (mq_vi rfl v1) hq1 hq2, fun v2 M2 hp2 z2 => ?_⟩
    obtain ⟨rfl, w2, hF2⟩ := hp2
    refine ⟨rfl, ?_⟩
    rw [mq_vu rfl] at w2
    have hR2 : iv_R D M2 N (va_up V 1 (nI (cl + q))) A S := mq_R.nV hR1 w2 hF2
    have hF2 : mw_fr (mq_P (N 199) (fun k => N (200 + k))) M1 M2 := hF2.mono (fun q h => Or.inl h)
    have eV0 : (va_up V 1 (nI (cl + q))) 0 = V 0 := va_up_ne _ _ (by decide)
    have eV3 : (va_up V 1 (nI (cl + q))) 3 = V 3 := va_up_ne _ _ (by decide)
    have eV4 : (va_up V 1 (nI (cl + q))) 4 = V 4 := va_up_ne _ _ (by decide)
    have eV9 : (va_up V 1 (nI (cl + q))) 9 = V 9 := va_up_ne _ _ (by decide)
    have eV11 : (va_up V 1 (nI (cl + q))) 11 = V 11 := va_up_ne _ _ (by decide)
    have eV12 : (va_up V 1 (nI (cl + q))) 12 = V 12 := va_up_ne _ _ (by decide)
    have eV14 : (va_up V 1 (nI (cl + q))) 14 = V 14 := va_up_ne _ _ (by decide)
    have eV15 : (va_up V 1 (nI (cl + q))) 15 = V 15 := va_up_ne _ _ (by decide)
    have eV22 : (va_up V 1 (nI (cl + q))) 22 = V 22 := va_up_ne _ _ (by decide)
    have eV23 : (va_up V 1 (nI (cl + q))) 23 = V 23 := va_up_ne _ _ (by decide)
    have eV33 : (va_up V 1 (nI (cl + q))) 33 = V 33 := va_up_ne _ _ (by decide)
    have eV41 : (va_up V 1 (nI (cl + q))) 41 = V 41 := va_up_ne _ _ (by decide)
    have eV43 : (va_up V 1 (nI (cl + q))) 43 = V 43 := va_up_ne _ _ (by decide)
    have eV45 : (va_up V 1 (nI (cl + q))) 45 = V 45 := va_up_ne _ _ (by decide)
    have m1 : iv_O D M1 N o ∧ iv_X M1 N (((va_up V 1 (nI (cl + q)))) 22) ((cl + q)) ns ∧ iv_B D M1 N k (A 2) ∧ iv_I D M1 N ic Ln Dn G ∧ iv_K D M1 N lf kc ka pr f4 ∧ iv_E D M1 N mk (mq_es A mk) (mq_EF A) ent ∧ iv_C M1 (mq_EF A) CF ent ca ce ns ∧ iv_A D M1 N na (A 24) (A 25) (A 32) fk km (fun a => mq_ss A a mk) ca ∧ iv_W D M1 N na nw wa (A 35) told wf wm wg ts ca ∧ iv_L D M1 N ls lk lm (((va_up V 1 (nI (cl + q)))) 45) ca ∧ iv_U D M1 N ∧ iv_N D M1 N ∧ iv_D M1 N ∧ iv_T D M1 N ws LW := by
      rw [eV22, eV45]
      exact ⟨hO.fr (N1 := N) (o1 := o) hF z1 (fun _ => Or.inl rfl) (fun _ _ => rfl), w, hB.fr (N1 := N) hO hF (fun t h8 h9 (q : t = 0) => by omega) (fun _ _ _ => rfl), hI.fr (N1 := N) hO hF (fun t h8 h9 (q : t = 0) => by omega) (fun _ _ _ => rfl), hK.fr (N1 := N) hO hF (fun t h8 h9 (q : t = 0) => by omega) (fun _ _ _ => rfl), hE.fr (N1 := N) hO hF z1 hk (fun t h8 h9 (q : t = 0) => by omega) (fun _ _ _ => rfl), hC.fr hF hk, hA.fr (N1 := N) hO hF z1 (fun t h9 (q : t = 0) => by omega) (fun _ _ => rfl) b8, hW.fr (N1 := N) hO hF z1 (fun t h9 (q : t = 0) => by omega) (fun _ _ => rfl) b9, hL.fr (N1 := N) hO hF z1 (fun t h8 h9 (q : t = 0) => by omega) (fun _ _ _ => rfl), hU.fr (N1 := N) hO hF z1 (fun t h8 h9 (q : t = 0) => by omega) (fun _ _ _ => rfl), hN.fr (N1 := N) hO hF z1 (fun t h8 h9 (q : t = 0) => by omega) (fun _ _ _ => rfl), hD.fr (N1 := N) hO hF (fun (q : 50 = 0) => by omega) (rfl), hT.fr (N1 := N) hO hF (fun t h8 h9 (q : t = 0) => by omega) (fun _ _ _ => rfl)⟩
    obtain ⟨mhO, mhX, mhB, mhI, mhK, mhE, mhC, mhA, mhW, mhL, mhU, mhN, mhD, mhT⟩ := iv_frR hR1 hF2 z2 b8 b9 m1
    exact ⟨N, o, (va_up V 1 (nI (cl + q))), A, S, k, ic, Ln, Dn, G, lf, (cl + q), kc, ka, pr, f4, g4, gm, mk, ent, ns, ca, ce, CF, na, fk, km, nw, wa, told, wf, wm, wg, ts, ls, lk, lm, ws, LW, rfl, rfl, mhO, mhX, mhB, mhI, mhK, mhE, mhC, mhA, mhW, mhL, mhU, mhN, mhD, mhT, hR2, ⟨eV0.trans v0, va_up_self _ _ _, eV3.trans v3, eV9.trans v9, eV11.trans v11, eV12.trans v12, eV14.trans v14, eV15.trans v15, eV23.trans v23, eV33.trans v33, eV41.trans v41, eV43.trans v43⟩, ⟨b1, by omega, b3, by omega, b5, by omega, b7, b8, b9, b10, b11, b12⟩, p3, by rw [eV4]; exact p4, ⟨kr_tick p5.1, p5.2⟩, p6, fun n h1 h2 => by
          obtain ⟨c1, q2, q3, q4, c2, c3, c4, c5, c6, c7⟩ := p7 n h1 h2
          exact ⟨c1, q2, q3, q4, c2, c3, c4, c5, by omega, c7⟩, fun a9 h9 => by
          obtain ⟨c1, c2, c3, c4, c5, c6, c7, c8⟩ := p8 a9 h9
          exact ⟨c1, c2, c3, c4, c5, c6, c7, fun e n hn q4 e4 l4 => Nat.le_trans (c8 e n hn q4 e4 l4) (Nat.le_add_right _ _)⟩, p9, p10, p11, p12⟩
