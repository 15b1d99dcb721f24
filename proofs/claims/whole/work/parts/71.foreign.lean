/-! foreign -/
set_option maxHeartbeats 4000000 in
set_option maxRecDepth 100000 in
theorem iv_foreign (l : Launch) {D : va_G} {z x mm j : Nat} {M : mw_M} (a : Nat → Int32) (hj : j < 512) (h : iv D x mm j M) : iv_go l D z x mm yy_Xi_foreign bb_Xi_foreign 3 (Option.some Jvm.ClassFile.FieldType.boolean) yy_Mo_foreign bb_Mo_foreign 3 (Option.some Jvm.ClassFile.FieldType.boolean) [.int (a 1), .int (ls_b (a 2))] M (iv D x mm (j + 1)) := by
  have hh := h
  obtain ⟨N, o, V, A, S, k, ic, Ln, Dn, G, lf, cl, kc, ka, pr, f4, g4, gm, mk, ent, ns, ca, ce, CF, na, fk, km, nw, wa, told, wf, wm, wg, ts, ls, lk, lm, ws, LW, e0, e1, hO, hX, hB, hI, hK, hE, hC, hA, hW, hL, hU, hN, hD, hT, hR, pV, pB, p3, p4, p5, p6, p7, p8, p9, p10, p11, p12⟩ := h
  subst e0 e1
  obtain ⟨v0, v1, v3, v9, v11, v12, v14, v15, v23, v33, v41, v43⟩ := pV
  obtain ⟨b1, b2, b3, b4, b5, b6, b7, b8, b9, b10, b11, b12⟩ := pB
  have hb : ls_b (a 2) = zI (decide (a 2 ≠ 0)) := by
    unfold ls_b
    by_cases e : a 2 = 0
    · rw [if_pos e, decide_eq_false (fun q => q e)]
      rfl
    · rw [if_neg e, decide_eq_true e]
      rfl
  rw [hb]
  generalize decide (a 2 ≠ 0) = b0
  by_cases hc : xi_has 4 (a 1) = true ∧ ¬ (V 22 >>> (a 1 &&& 31)) &&& nI 1 = zI b0
  · refine ⟨_, _, _, _, _, by decide, by decide, by decide, by decide, cc_Xi_foreign l D z M (N 0) (N 1) (N 3) (N 30) (N 32) (N 35) (N 37) (N 40) (N 50) (N 51) (N 46) (N 43) (V 22) (nI cl) (nI ns) (a 1) b0 hX, fun v M1 hp z1 => ?_⟩
    obtain ⟨-, hp, hF0⟩ := hp
    obtain ⟨rfl, w⟩ := hp hc
    have hF : mw_fr (iv_F (fun t => t = 0) N) M M1 := hF0.mono (fun q h => ⟨0, rfl, h⟩)
    have hk : ∀ t : Nat, (t = 0) → iv_kd M (N t) := by
      intro t q
      rcases q with q
      · rw [q]
        exact kd_o hX (by decide)
    have hR1 : iv_R D M1 N V A S := hR.fr (N1 := N) hO hF (fun t h9 (q : t = 0) => by omega) (fun _ _ => rfl)
    refine ⟨_, _, _, _, _, rfl, hR1.m, by decide, by decide, cc_Mo_foreign l D z M1 (N 199) _ (V 22) (a 1) b0 hR1.m (mq_vi rfl rfl), fun v2 M2 hp2 z2 => ?_⟩
    obtain ⟨-, hp2, hF2⟩ := hp2
    obtain ⟨rfl, w2⟩ := hp2 hc
    refine ⟨rfl, ?_⟩
    rw [mq_vu rfl] at w2
    have hR2 : iv_R D M2 N (va_up V 22 (V 22 ^^^ (nI 1 <<< (a 1 &&& 31)))) A S := mq_R.nV hR1 w2 hF2
    have hF2 : mw_fr (mq_P (N 199) (fun k => N (200 + k))) M1 M2 := hF2.mono (fun q h => Or.inl h)
    have eV0 : (va_up V 22 (V 22 ^^^ (nI 1 <<< (a 1 &&& 31)))) 0 = V 0 := va_up_ne _ _ (by decide)
    have eV1 : (va_up V 22 (V 22 ^^^ (nI 1 <<< (a 1 &&& 31)))) 1 = V 1 := va_up_ne _ _ (by decide)
    have eV3 : (va_up V 22 (V 22 ^^^ (nI 1 <<< (a 1 &&& 31)))) 3 = V 3 := va_up_ne _ _ (by decide)
    have eV4 : (va_up V 22 (V 22 ^^^ (nI 1 <<< (a 1 &&& 31)))) 4 = V 4 := va_up_ne _ _ (by decide)
    have eV9 : (va_up V 22 (V 22 ^^^ (nI 1 <<< (a 1 &&& 31)))) 9 = V 9 := va_up_ne _ _ (by decide)
    have eV11 : (va_up V 22 (V 22 ^^^ (nI 1 <<< (a 1 &&& 31)))) 11 = V 11 := va_up_ne _ _ (by decide)
    have eV12 : (va_up V 22 (V 22 ^^^ (nI 1 <<< (a 1 &&& 31)))) 12 = V 12 := va_up_ne _ _ (by decide)
    have eV14 : (va_up V 22 (V 22 ^^^ (nI 1 <<< (a 1 &&& 31)))) 14 = V 14 := va_up_ne _ _ (by decide)
    have eV15 : (va_up V 22 (V 22 ^^^ (nI 1 <<< (a 1 &&& 31)))) 15 = V 15 := va_up_ne _ _ (by decide)
    have eV23 : (va_up V 22 (V 22 ^^^ (nI 1 <<< (a 1 &&& 31)))) 23 = V 23 := va_up_ne _ _ (by decide)
    have eV33 : (va_up V 22 (V 22 ^^^ (nI 1 <<< (a 1 &&& 31)))) 33 = V 33 := va_up_ne _ _ (by decide)
    have eV41 : (va_up V 22 (V 22 ^^^ (nI 1 <<< (a 1 &&& 31)))) 41 = V 41 := va_up_ne _ _ (by decide)
    have eV43 : (va_up V 22 (V 22 ^^^ (nI 1 <<< (a 1 &&& 31)))) 43 = V 43 := va_up_ne _ _ (by decide)
    have eV45 : (va_up V 22 (V 22 ^^^ (nI 1 <<< (a 1 &&& 31)))) 45 = V 45 := va_up_ne _ _ (by decide)
    have m1 : iv_O D M1 N o ∧ iv_X M1 N (((va_up V 22 (V 22 ^^^ (nI 1 <<< (a 1 &&& 31))))) 22) cl ns ∧ iv_B D M1 N k (A 2) ∧ iv_I D M1 N ic Ln Dn G ∧ iv_K D M1 N lf kc ka pr f4 ∧ iv_E D M1 N mk (mq_es A mk) (mq_EF A) ent ∧ iv_C M1 (mq_EF A) CF ent ca ce ns ∧ iv_A D M1 N na (A 24) (A 25) (A 32) fk km (fun a => mq_ss A a mk) ca ∧ iv_W D M1 N na nw wa (A 35) told wf wm wg ts ca ∧ iv_L D M1 N ls lk lm (((va_up V 22 (V 22 ^^^ (nI 1 <<< (a 1 &&& 31))))) 45) ca ∧ iv_U D M1 N ∧ iv_N D M1 N ∧ iv_D M1 N ∧ iv_T D M1 N ws LW := by
      rw [eV45]
      exact ⟨hO.fr (N1 := N) (o1 := o) hF z1 (fun _ => Or.inl rfl) (fun _ _ => rfl), by rw [va_up_self]; exact w, hB.fr (N1 := N) hO hF (fun t h8 h9 (q : t = 0) => by omega) (fun _ _ _ => rfl), hI.fr (N1 := N) hO hF (fun t h8 h9 (q : t = 0) => by omega) (fun _ _ _ => rfl), hK.fr (N1 := N) hO hF (fun t h8 h9 (q : t = 0) => by omega) (fun _ _ _ => rfl), hE.fr (N1 := N) hO hF z1 hk (fun t h8 h9 (q : t = 0) => by omega) (fun _ _ _ => rfl), hC.fr hF hk, hA.fr (N1 := N) hO hF z1 (fun t h9 (q : t = 0) => by omega) (fun _ _ => rfl) b8, hW.fr (N1 := N) hO hF z1 (fun t h9 (q : t = 0) => by omega) (fun _ _ => rfl) b9, hL.fr (N1 := N) hO hF z1 (fun t h8 h9 (q : t = 0) => by omega) (fun _ _ _ => rfl), hU.fr (N1 := N) hO hF z1 (fun t h8 h9 (q : t = 0) => by omega) (fun _ _ _ => rfl), hN.fr (N1 := N) hO hF z1 (fun t h8 h9 (q : t = 0) => by omega) (fun _ _ _ => rfl), hD.fr (N1 := N) hO hF (fun (q : 50 = 0) => by omega) (rfl), hT.fr (N1 := N) hO hF (fun t h8 h9 (q : t = 0) => by omega) (fun _ _ _ => rfl)⟩
    obtain ⟨mhO, mhX, mhB, mhI, mhK, mhE, mhC, mhA, mhW, mhL, mhU, mhN, mhD, mhT⟩ := iv_frR hR1 hF2 z2 b8 b9 m1
    exact ⟨N, o, (va_up V 22 (V 22 ^^^ (nI 1 <<< (a 1 &&& 31)))), A, S, k, ic, Ln, Dn, G, lf, cl, kc, ka, pr, f4, g4, gm, mk, ent, ns, ca, ce, CF, na, fk, km, nw, wa, told, wf, wm, wg, ts, ls, lk, lm, ws, LW, rfl, rfl, mhO, mhX, mhB, mhI, mhK, mhE, mhC, mhA, mhW, mhL, mhU, mhN, mhD, mhT, hR2, ⟨eV0.trans v0, eV1.trans v1, eV3.trans v3, eV9.trans v9, eV11.trans v11, eV12.trans v12, eV14.trans v14, eV15.trans v15, eV23.trans v23, eV33.trans v33, eV41.trans v41, eV43.trans v43⟩, ⟨b1, by omega, b3, by omega, b5, by omega, b7, b8, b9, b10, b11, b12⟩, p3, by rw [eV4]; exact p4, p5, p6, p7, p8, p9, p10, p11, p12⟩
  · have h0 : xi_has 4 (a 1) = false ∨ (V 22 >>> (a 1 &&& 31)) &&& nI 1 = zI b0 := by
      cases e : xi_has 4 (a 1) with
      | false => exact Or.inl rfl
      | true => exact Or.inr (Classical.byContradiction (fun q => hc ⟨e, q⟩))
    exact iv_same hh (mw_mono (fun v M' hp => hp.1 h0) (cc_Xi_foreign l D z M (N 0) (N 1) (N 3) (N 30) (N 32) (N 35) (N 37) (N 40) (N 50) (N 51) (N 46) (N 43) (V 22) (nI cl) (nI ns) (a 1) b0 hX)) (mw_mono (fun v M' hp => hp.1 h0) (cc_Mo_foreign l D z M (N 199) _ (V 22) (a 1) b0 hR.m (mq_vi rfl rfl))) (by decide) (by decide) (by decide) (by decide) (by decide) (by decide)
