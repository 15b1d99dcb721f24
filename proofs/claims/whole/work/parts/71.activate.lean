/-! activate -/
set_option maxHeartbeats 4000000 in
set_option maxRecDepth 100000 in
theorem iv_activate (l : Launch) {D : va_G} {z x mm j : Nat} {M : mw_M} (a : Nat → Int32) (hj : j < 512) (h : iv D x mm j M) : iv_go l D z x mm yy_Xi_activate bb_Xi_activate 1 (Option.some Jvm.ClassFile.FieldType.boolean) yy_Mo_activate bb_Mo_activate 1 (Option.some Jvm.ClassFile.FieldType.boolean) [] M (iv D x mm (j + 1)) := by
  have hh := h
  obtain ⟨N, o, V, A, S, k, ic, Ln, Dn, G, lf, cl, kc, ka, pr, f4, g4, gm, mk, ent, ns, ca, ce, CF, na, fk, km, nw, wa, told, wf, wm, wg, ts, ls, lk, lm, ws, LW, e0, e1, hO, hX, hB, hI, hK, hE, hC, hA, hW, hL, hU, hN, hD, hT, hR, pV, pB, p3, p4, p5, p6, p7, p8, p9, p10, p11, p12⟩ := h
  subst e0 e1
  obtain ⟨v0, v1, v3, v9, v11, v12, v14, v15, v23, v33, v41, v43⟩ := pV
  obtain ⟨b1, b2, b3, b4, b5, b6, b7, b8, b9, b10, b11, b12⟩ := pB
  have hg := kr_good p5.1 pr
  refine ⟨_, _, _, _, _, by decide, by decide, by decide, by decide, cc_Xi_activate l D z M (N 0) (N 1) (N 3) (N 30) (N 32) (N 35) (N 37) (N 40) (N 50) (N 51) (N 46) (N 43) (V 22) (nI cl) (nI ns) (N 31) lf kc (nI ka) pr f4 g4 cl hX hK.1 hK.2 p5.2.2 (by omega) (by omega) (by omega), fun v M1 hp z1 => ?_⟩
  obtain ⟨rfl, w, hF0⟩ := hp
  have hF : mw_fr (iv_F (fun t => t = 30) N) M M1 := hF0.mono (fun q h => ⟨30, rfl, h⟩)
  have hk : ∀ t : Nat, (t = 30) → iv_kd M (N t) := by
    intro t q
    rcases q with q
    · rw [q]
      exact kd_o hK.1 (by decide)
  have hR1 : iv_R D M1 N V A S := hR.fr (N1 := N) hO hF (fun t h9 (q : t = 30) => by omega) (fun _ _ => rfl)
  have wr := iv_at hO hF hK.2 (fun (q : 31 = 30) => by omega)
  rw [hg] at w ⊢
  refine ⟨_, _, _, _, _, rfl, hR1.m, by decide, by decide, cc_Mo_activate l D z M1 (N 199) _ (N 210) lf kc cl (nI ka) pr (A 10) gm hR1.m (mq_vi rfl v0) (mq_vi rfl v1) (mq_vi rfl v9) (mq_va rfl) (mq_vi rfl v11) (mq_vi rfl v12) (hR1.w 10 rfl (by decide)) p5.2.1 (by omega) (by omega) (by omega), fun v2 M2 hp2 z2 => ?_⟩
  obtain ⟨rfl, w2, hF2⟩ := hp2
  refine ⟨rfl, ?_⟩
  cases hc : mo_good kc lf gm pr cl with
  | false =>
    rw [hc, if_neg (by decide)] at w w2
    have hR2 : iv_R D M2 N V A S := mq_R.nV hR1 w2 hF2
    have hF2 : mw_fr (mq_P (N 199) (fun k => N (200 + k))) M1 M2 := hF2.mono (fun q h => Or.inl h)
    have m1 : iv_O D M1 N o ∧ iv_X M1 N (V 22) cl ns ∧ iv_B D M1 N k (A 2) ∧ iv_I D M1 N ic Ln Dn G ∧ iv_K D M1 N lf kc ka pr f4 ∧ iv_E D M1 N mk (mq_es A mk) (mq_EF A) ent ∧ iv_C M1 (mq_EF A) CF ent ca ce ns ∧ iv_A D M1 N na (A 24) (A 25) (A 32) fk km (fun a => mq_ss A a mk) ca ∧ iv_W D M1 N na nw wa (A 35) told wf wm wg ts ca ∧ iv_L D M1 N ls lk lm (V 45) ca ∧ iv_U D M1 N ∧ iv_N D M1 N ∧ iv_D M1 N ∧ iv_T D M1 N ws LW := by
      exact ⟨hO.fr (N1 := N) (o1 := o) hF z1 (fun _ => Or.inl rfl) (fun _ _ => rfl), hX.fr (N1 := N) hO hF (fun (q : 0 = 30) => by omega) (fun _ _ => rfl), hB.fr (N1 := N) hO hF (fun t h8 h9 (q : t = 30) => by omega) (fun _ _ _ => rfl), hI.fr (N1 := N) hO hF (fun t h8 h9 (q : t = 30) => by omega) (fun _ _ _ => rfl), ⟨w, wr⟩, hE.fr (N1 := N) hO hF z1 hk (fun t h8 h9 (q : t = 30) => by omega) (fun _ _ _ => rfl), hC.fr hF hk, hA.fr (N1 := N) hO hF z1 (fun t h9 (q : t = 30) => by omega) (fun _ _ => rfl) b8, hW.fr (N1 := N) hO hF z1 (fun t h9 (q : t = 30) => by omega) (fun _ _ => rfl) b9, hL.fr (N1 := N) hO hF z1 (fun t h8 h9 (q : t = 30) => by omega) (fun _ _ _ => rfl), hU.fr (N1 := N) hO hF z1 (fun t h8 h9 (q : t = 30) => by omega) (fun _ _ _ => rfl), hN.fr (N1 := N) hO hF z1 (fun t h8 h9 (q : t = 30) => by omega) (fun _ _ _ => rfl), hD.fr (N1 := N) hO hF (fun (q : 50 = 30) => by omega) (rfl), hT.fr (N1 := N) hO hF (fun t h8 h9 (q : t = 30) => by omega) (fun _ _ _ => rfl)⟩
    obtain ⟨mhO, mhX, mhB, mhI, mhK, mhE, mhC, mhA, mhW, mhL, mhU, mhN, mhD, mhT⟩ := iv_frR hR1 hF2 z2 b8 b9 m1
    exact ⟨N, o, V, A, S, k, ic, Ln, Dn, G, lf, cl, kc, ka, pr, f4, g4, gm, mk, ent, ns, ca, ce, CF, na, fk, km, nw, wa, told, wf, wm, wg, ts, ls, lk, lm, ws, LW, rfl, rfl, mhO, mhX, mhB, mhI, mhK, mhE, mhC, mhA, mhW, mhL, mhU, mhN, mhD, mhT, hR2, ⟨v0, v1, v3, v9, v11, v12, v14, v15, v23, v33, v41, v43⟩, ⟨b1, by omega, b3, by omega, b5, by omega, b7, b8, b9, b10, b11, b12⟩, p3, p4, p5, p6, p7, p8, p9, p10, p11, p12⟩
  | true =>
    rw [hc, if_pos rfl] at w w2
    obtain ⟨q, hq, rfl⟩ : ∃ q : Nat, q < kc ∧ pr = nI q := by
      unfold mo_good at hc
      rw [Bool.and_eq_true, Bool.and_eq_true] at hc
      have h1 := of_decide_eq_true hc.1.1
      have h2 := of_decide_eq_true hc.1.2
      obtain ⟨q, hq, e⟩ := mi_nat (i := pr) (k := kc) (by omega) (by rw [Int32.lt_iff_toInt_lt]; show ¬ pr.toInt < 0; omega) (by rw [Int32.le_iff_toInt_le, nI_toInt (by omega)]; omega)
      exact ⟨q, hq, e⟩
    rw [mq_vu rfl, mq_vu rfl] at w2
    have hR2 : iv_R D M2 N (va_up (va_up V 11 (nI q)) 12 (-1)) A S := mq_R.nV hR1 w2 hF2
    have hF2 : mw_fr (mq_P (N 199) (fun k => N (200 + k))) M1 M2 := hF2.mono (fun q h => Or.inl h)
    have eV0 : (va_up (va_up V 11 (nI q)) 12 (-1)) 0 = V 0 := (va_up_ne _ _ (by decide)).trans (va_up_ne _ _ (by decide))
    have eV1 : (va_up (va_up V 11 (nI q)) 12 (-1)) 1 = V 1 := (va_up_ne _ _ (by decide)).trans (va_up_ne _ _ (by decide))
    have eV3 : (va_up (va_up V 11 (nI q)) 12 (-1)) 3 = V 3 := (va_up_ne _ _ (by decide)).trans (va_up_ne _ _ (by decide))
    have eV4 : (va_up (va_up V 11 (nI q)) 12 (-1)) 4 = V 4 := (va_up_ne _ _ (by decide)).trans (va_up_ne _ _ (by decide))
    have eV9 : (va_up (va_up V 11 (nI q)) 12 (-1)) 9 = V 9 := (va_up_ne _ _ (by decide)).trans (va_up_ne _ _ (by decide))
    have eV14 : (va_up (va_up V 11 (nI q)) 12 (-1)) 14 = V 14 := (va_up_ne _ _ (by decide)).trans (va_up_ne _ _ (by decide))
    have eV15 : (va_up (va_up V 11 (nI q)) 12 (-1)) 15 = V 15 := (va_up_ne _ _ (by decide)).trans (va_up_ne _ _ (by decide))
    have eV22 : (va_up (va_up V 11 (nI q)) 12 (-1)) 22 = V 22 := (va_up_ne _ _ (by decide)).trans (va_up_ne _ _ (by decide))
    have eV23 : (va_up (va_up V 11 (nI q)) 12 (-1)) 23 = V 23 := (va_up_ne _ _ (by decide)).trans (va_up_ne _ _ (by decide))
    have eV33 : (va_up (va_up V 11 (nI q)) 12 (-1)) 33 = V 33 := (va_up_ne _ _ (by decide)).trans (va_up_ne _ _ (by decide))
    have eV41 : (va_up (va_up V 11 (nI q)) 12 (-1)) 41 = V 41 := (va_up_ne _ _ (by decide)).trans (va_up_ne _ _ (by decide))
    have eV43 : (va_up (va_up V 11 (nI q)) 12 (-1)) 43 = V 43 := (va_up_ne _ _ (by decide)).trans (va_up_ne _ _ (by decide))
    have eV45 : (va_up (va_up V 11 (nI q)) 12 (-1)) 45 = V 45 := (va_up_ne _ _ (by decide)).trans (va_up_ne _ _ (by decide))
    have m1 : iv_O D M1 N o ∧ iv_X M1 N (((va_up (va_up V 11 (nI q)) 12 (-1))) 22) cl ns ∧ iv_B D M1 N k (A 2) ∧ iv_I D M1 N ic Ln Dn G ∧ iv_K D M1 N lf kc q (-1) f4 ∧ iv_E D M1 N mk (mq_es A mk) (mq_EF A) ent ∧ iv_C M1 (mq_EF A) CF ent ca ce ns ∧ iv_A D M1 N na (A 24) (A 25) (A 32) fk km (fun a => mq_ss A a mk) ca ∧ iv_W D M1 N na nw wa (A 35) told wf wm wg ts ca ∧ iv_L D M1 N ls lk lm (((va_up (va_up V 11 (nI q)) 12 (-1))) 45) ca ∧ iv_U D M1 N ∧ iv_N D M1 N ∧ iv_D M1 N ∧ iv_T D M1 N ws LW := by
      rw [eV22, eV45]
      exact ⟨hO.fr (N1 := N) (o1 := o) hF z1 (fun _ => Or.inl rfl) (fun _ _ => rfl), hX.fr (N1 := N) hO hF (fun (q : 0 = 30) => by omega) (fun _ _ => rfl), hB.fr (N1 := N) hO hF (fun t h8 h9 (q : t = 30) => by omega) (fun _ _ _ => rfl), hI.fr (N1 := N) hO hF (fun t h8 h9 (q : t = 30) => by omega) (fun _ _ _ => rfl), ⟨w, wr⟩, hE.fr (N1 := N) hO hF z1 hk (fun t h8 h9 (q : t = 30) => by omega) (fun _ _ _ => rfl), hC.fr hF hk, hA.fr (N1 := N) hO hF z1 (fun t h9 (q : t = 30) => by omega) (fun _ _ => rfl) b8, hW.fr (N1 := N) hO hF z1 (fun t h9 (q : t = 30) => by omega) (fun _ _ => rfl) b9, hL.fr (N1 := N) hO hF z1 (fun t h8 h9 (q : t = 30) => by omega) (fun _ _ _ => rfl), hU.fr (N1 := N) hO hF z1 (fun t h8 h9 (q : t = 30) => by omega) (fun _ _ _ => rfl), hN.fr (N1 := N) hO hF z1 (fun t h8 h9 (q : t = 30) => by omega) (fun _ _ _ => rfl), hD.fr (N1 := N) hO hF (fun (q : 50 = 30) => by omega) (rfl), hT.fr (N1 := N) hO hF (fun t h8 h9 (q : t = 30) => by omega) (fun _ _ _ => rfl)⟩
    obtain ⟨mhO, mhX, mhB, mhI, mhK, mhE, mhC, mhA, mhW, mhL, mhU, mhN, mhD, mhT⟩ := iv_frR hR1 hF2 z2 b8 b9 m1
    exact ⟨N, o, (va_up (va_up V 11 (nI q)) 12 (-1)), A, S, k, ic, Ln, Dn, G, lf, cl, kc, q, (-1), f4, g4, gm, mk, ent, ns, ca, ce, CF, na, fk, km, nw, wa, told, wf, wm, wg, ts, ls, lk, lm, ws, LW, rfl, rfl, mhO, mhX, mhB, mhI, mhK, mhE, mhC, mhA, mhW, mhL, mhU, mhN, mhD, mhT, hR2, ⟨eV0.trans v0, eV1.trans v1, eV3.trans v3, eV9.trans v9, (va_up_ne _ _ (by decide)).trans (va_up_self _ _ _), va_up_self _ _ _, eV14.trans v14, eV15.trans v15, eV23.trans v23, eV33.trans v33, eV41.trans v41, eV43.trans v43⟩, ⟨b1, by omega, b3, by omega, hq, by omega, b7, b8, b9, b10, b11, b12⟩, p3, by rw [eV4]; exact p4, p5, p6, p7, p8, p9, p10, p11, p12⟩
