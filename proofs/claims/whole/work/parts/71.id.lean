/-! id -/
set_option maxHeartbeats 4000000 in
set_option maxRecDepth 100000 in
theorem iv_id (l : Launch) {D : va_G} {z x mm j : Nat} {M : mw_M} (a : Nat → Int32) (hj : j < 512) (h : iv D x mm j M) : iv_go l D z x mm yy_Xi_id bb_Xi_id 2 (Option.some Jvm.ClassFile.FieldType.int) yy_Mo_id bb_Mo_id 2 (Option.some Jvm.ClassFile.FieldType.int) [] M (iv D x mm (j + 1)) := by
  have hh := h
  obtain ⟨N, o, V, A, S, k, ic, Ln, Dn, G, lf, cl, kc, ka, pr, f4, g4, gm, mk, ent, ns, ca, ce, CF, na, fk, km, nw, wa, told, wf, wm, wg, ts, ls, lk, lm, ws, LW, e0, e1, hO, hX, hB, hI, hK, hE, hC, hA, hW, hL, hU, hN, hD, hT, hR, pV, pB, p3, p4, p5, p6, p7, p8, p9, p10, p11, p12⟩ := h
  subst e0 e1
  obtain ⟨v0, v1, v3, v9, v11, v12, v14, v15, v23, v33, v41, v43⟩ := pV
  obtain ⟨b1, b2, b3, b4, b5, b6, b7, b8, b9, b10, b11, b12⟩ := pB
  obtain ⟨g, hg⟩ := p3.g
  cases herr : ie_err g 0 k with
  | some e0 =>
    have he := ie_err_le herr
    refine ⟨_, _, _, _, _, by decide, by decide, by decide, by decide, cc_Xi_id_e l D z M (N 0) (N 1) (N 3) (N 30) (N 32) (N 35) (N 37) (N 40) (N 50) (N 51) (N 46) (N 43) (V 22) (nI cl) (nI ns) (N 2) (A 2) k g e0 hX hB.1 hB.2 b3 hg herr (by omega), fun v M1 hp z1 => ?_⟩
    obtain ⟨rfl, w, hF0⟩ := hp
    have hF : mw_fr (iv_F (fun t => t = 1) N) M M1 := hF0.mono (fun q h => ⟨1, rfl, h⟩)
    have hk : ∀ t : Nat, (t = 1) → iv_kd M (N t) := by
      intro t q
      rcases q with q
      · rw [q]
        exact kd_o hB.1 (by decide)
    have hR1 : iv_R D M1 N V A S := hR.fr (N1 := N) hO hF (fun t h9 (q : t = 1) => by omega) (fun _ _ => rfl)
    have wr := iv_at hO hF hB.2 (fun (q : 2 = 1) => by omega)
    refine ⟨_, _, _, _, _, rfl, hR1.m, by decide, by decide, cc_Mo_id_e l D z M1 (N 199) (fun k => N (200 + k)) V A S k e0 g hR1 v3 b3 hg herr (by omega), fun v2 M2 hp2 z2 => ?_⟩
    obtain ⟨rfl, ⟨x9, hR2⟩, hF2⟩ := hp2
    refine ⟨rfl, ?_⟩
    have eV0 : (va_up (va_up V 3 (nI 0)) 8 x9) 0 = V 0 := (va_up_ne _ _ (by decide)).trans (va_up_ne _ _ (by decide))
    have eV1 : (va_up (va_up V 3 (nI 0)) 8 x9) 1 = V 1 := (va_up_ne _ _ (by decide)).trans (va_up_ne _ _ (by decide))
    have eV4 : (va_up (va_up V 3 (nI 0)) 8 x9) 4 = V 4 := (va_up_ne _ _ (by decide)).trans (va_up_ne _ _ (by decide))
    have eV9 : (va_up (va_up V 3 (nI 0)) 8 x9) 9 = V 9 := (va_up_ne _ _ (by decide)).trans (va_up_ne _ _ (by decide))
    have eV11 : (va_up (va_up V 3 (nI 0)) 8 x9) 11 = V 11 := (va_up_ne _ _ (by decide)).trans (va_up_ne _ _ (by decide))
    have eV12 : (va_up (va_up V 3 (nI 0)) 8 x9) 12 = V 12 := (va_up_ne _ _ (by decide)).trans (va_up_ne _ _ (by decide))
    have eV14 : (va_up (va_up V 3 (nI 0)) 8 x9) 14 = V 14 := (va_up_ne _ _ (by decide)).trans (va_up_ne _ _ (by decide))
    have eV15 : (va_up (va_up V 3 (nI 0)) 8 x9) 15 = V 15 := (va_up_ne _ _ (by decide)).trans (va_up_ne _ _ (by decide))
    have eV22 : (va_up (va_up V 3 (nI 0)) 8 x9) 22 = V 22 := (va_up_ne _ _ (by decide)).trans (va_up_ne _ _ (by decide))
    have eV23 : (va_up (va_up V 3 (nI 0)) 8 x9) 23 = V 23 := (va_up_ne _ _ (by decide)).trans (va_up_ne _ _ (by decide))
    have eV33 : (va_up (va_up V 3 (nI 0)) 8 x9) 33 = V 33 := (va_up_ne _ _ (by decide)).trans (va_up_ne _ _ (by decide))
    have eV41 : (va_up (va_up V 3 (nI 0)) 8 x9) 41 = V 41 := (va_up_ne _ _ (by decide)).trans (va_up_ne _ _ (by decide))
    have eV43 : (va_up (va_up V 3 (nI 0)) 8 x9) 43 = V 43 := (va_up_ne _ _ (by decide)).trans (va_up_ne _ _ (by decide))
    have eV45 : (va_up (va_up V 3 (nI 0)) 8 x9) 45 = V 45 := (va_up_ne _ _ (by decide)).trans (va_up_ne _ _ (by decide))
    have m1 : iv_O D M1 N o ∧ iv_X M1 N (((va_up (va_up V 3 (nI 0)) 8 x9)) 22) cl ns ∧ iv_B D M1 N 0 (A 2) ∧ iv_I D M1 N ic Ln Dn G ∧ iv_K D M1 N lf kc ka pr f4 ∧ iv_E D M1 N mk (mq_es A mk) (mq_EF A) ent ∧ iv_C M1 (mq_EF A) CF ent ca ce ns ∧ iv_A D M1 N na (A 24) (A 25) (A 32) fk km (fun a9 => mq_ss A a9 mk) ca ∧ iv_W D M1 N na nw wa (A 35) told wf wm wg ts ca ∧ iv_L D M1 N ls lk lm (((va_up (va_up V 3 (nI 0)) 8 x9)) 45) ca ∧ iv_U D M1 N ∧ iv_N D M1 N ∧ iv_D M1 N ∧ iv_T D M1 N ws LW := by
      rw [eV22, eV45]
      exact ⟨hO.fr (N1 := N) (o1 := o) hF z1 (fun _ => Or.inl rfl) (fun _ _ => rfl), hX.fr (N1 := N) hO hF (fun (q : 0 = 1) => by omega) (fun _ _ => rfl), ⟨w, wr⟩, hI.fr (N1 := N) hO hF (fun t h8 h9 (q : t = 1) => by omega) (fun _ _ _ => rfl), hK.fr (N1 := N) hO hF (fun t h8 h9 (q : t = 1) => by omega) (fun _ _ _ => rfl), hE.fr (N1 := N) hO hF z1 hk (fun t h8 h9 (q : t = 1) => by omega) (fun _ _ _ => rfl), hC.fr hF hk, hA.fr (N1 := N) hO hF z1 (fun t h9 (q : t = 1) => by omega) (fun _ _ => rfl) b8, hW.fr (N1 := N) hO hF z1 (fun t h9 (q : t = 1) => by omega) (fun _ _ => rfl) b9, hL.fr (N1 := N) hO hF z1 (fun t h8 h9 (q : t = 1) => by omega) (fun _ _ _ => rfl), hU.fr (N1 := N) hO hF z1 (fun t h8 h9 (q : t = 1) => by omega) (fun _ _ _ => rfl), hN.fr (N1 := N) hO hF z1 (fun t h8 h9 (q : t = 1) => by omega) (fun _ _ _ => rfl), hD.fr (N1 := N) hO hF (fun (q : 50 = 1) => by omega) (rfl), hT.fr (N1 := N) hO hF (fun t h8 h9 (q : t = 1) => by omega) (fun _ _ _ => rfl)⟩
    obtain ⟨mhO, mhX, mhB, mhI, mhK, mhE, mhC, mhA, mhW, mhL, mhU, mhN, mhD, mhT⟩ := iv_frR hR1 hF2 z2 b8 b9 m1
    exact ⟨N, o, (va_up (va_up V 3 (nI 0)) 8 x9), A, S, 0, ic, Ln, Dn, G, lf, cl, kc, ka, pr, f4, g4, gm, mk, ent, ns, ca, ce, CF, na, fk, km, nw, wa, told, wf, wm, wg, ts, ls, lk, lm, ws, LW, rfl, rfl, mhO, mhX, mhB, mhI, mhK, mhE, mhC, mhA, mhW, mhL, mhU, mhN, mhD, mhT, hR2, ⟨eV0.trans v0, eV1.trans v1, (va_up_ne _ _ (by decide)).trans (va_up_self _ _ _), eV9.trans v9, eV11.trans v11, eV12.trans v12, eV14.trans v14, eV15.trans v15, eV23.trans v23, eV33.trans v33, eV41.trans v41, eV43.trans v43⟩, ⟨b1, by omega, Nat.zero_le _, by omega, b5, by omega, b7, b8, b9, b10, b11, b12⟩, fun q hq => absurd hq (Nat.not_lt_zero _), by rw [eV4]; exact p4, p5, p6, p7, p8, p9, p10, p11, p12⟩
  | none =>
    have hrb : ∀ j : Nat, j < 12 → N 4 + 1 + j ≠ N 2 := fun j h9 => by
      rw [← hI.2 j h9]
      exact Ne.symm (hO.ne hB.2 (by omega))
    refine ⟨_, _, _, _, _, by decide, by decide, by decide, by decide, cc_Xi_id l D z M (N 0) (N 1) (N 3) (N 30) (N 32) (N 35) (N 37) (N 40) (N 50) (N 51) (N 46) (N 43) (V 22) (nI cl) (nI ns) (N 2) (A 2) k g (N 4) (N 5) (N 6) ic Ln Dn G hX hB.1 hB.2 b3 hg hI.1 p4.2 herr hrb (Ne.symm (hO.ne hB.2 (by omega))) (Ne.symm (hO.ne hB.2 (by omega))), fun v M1 hp z1 => ?_⟩
    obtain ⟨w, hF0, hcase⟩ := hp
    have hF : mw_fr (iv_F (fun t => t = 1 ∨ t = 3 ∨ t = 5 ∨ t = 6 ∨ t = 10 + ic ∧ ic < 12) N) M M1 := hF0.mono (fun q h => by
      rcases h with e | e | e | e | ⟨e5, e⟩
      · exact ⟨1, Or.inl rfl, e⟩
      · exact ⟨3, Or.inr (Or.inl rfl), e⟩
      · exact ⟨5, Or.inr (Or.inr (Or.inl rfl)), e⟩
      · exact ⟨6, Or.inr (Or.inr (Or.inr (Or.inl rfl))), e⟩
      · exact ⟨10 + ic, Or.inr (Or.inr (Or.inr (Or.inr ⟨rfl, e5⟩))), e.trans (hI.2 ic e5).symm⟩)
    have hk : ∀ t : Nat, (t = 1 ∨ t = 3 ∨ t = 5 ∨ t = 6 ∨ t = 10 + ic ∧ ic < 12) → iv_kd M (N t) := by
      intro t q
      obtain ⟨oo, fl, fd, TT, w1, w2, w3, w4, w5, w6, w7⟩ := hI.1
      rcases q with q | q | q | q | ⟨q, q5⟩
      · rw [q]
        exact kd_o hB.1 (by decide)
      · rw [q]
        exact kd_o w1 (by decide)
      · rw [q]
        exact kd_r w4
      · rw [q]
        exact kd_r w5
      · rw [q, hI.2 ic q5]
        exact kd_r (w6 ic q5)
    have hR1 : iv_R D M1 N V A S := hR.fr (N1 := N) hO hF (fun t h9 (q : t = 1 ∨ t = 3 ∨ t = 5 ∨ t = 6 ∨ t = 10 + ic ∧ ic < 12) => by omega) (fun _ _ => rfl)
    have wr := iv_at hO hF hB.2 (fun (q : 2 = 1 ∨ 2 = 3 ∨ 2 = 5 ∨ 2 = 6 ∨ 2 = 10 + ic ∧ ic < 12) => by omega)
    have hc2 := cc_Mo_id l D z M1 (N 199) (fun k => N (200 + k)) V A S ic Ln Dn G k g hR1 p4.1 p4.2 v3 b3 hg herr
    rcases hcase with ⟨i, hi, hs, hmin, rfl, hid⟩ | ⟨hno, h12, rfl, hid⟩ | ⟨hno, h12, rfl, hid⟩
    · refine ⟨_, _, _, _, _, rfl, hR1.m, by decide, by decide, hc2, fun v2 M2 hp2 z2 => ?_⟩
      obtain ⟨V1, A1, hR2, hV1, hv3, hA1, hF2, hcase2⟩ := hp2
      rcases hcase2 with ⟨i2, hi2, hs2, hmin2, rfl, hmi⟩ | ⟨hno2, h122, rfl, hmi⟩ | ⟨hno2, h122, rfl, hmi⟩
      · have hii : i2 = i := by
          rcases Nat.lt_trichotomy i2 i with h | h | h
          · exact absurd hs2 (hmin i2 h)
          · exact h
          · exact absurd hs (hmin2 i h)
        rw [hii]
        refine ⟨rfl, ?_⟩
        have eV0 : V1 0 = V 0 := hV1 0 (by decide) (by decide) (by decide)
        have eV1 : V1 1 = V 1 := hV1 1 (by decide) (by decide) (by decide)
        have eV9 : V1 9 = V 9 := hV1 9 (by decide) (by decide) (by decide)
        have eV11 : V1 11 = V 11 := hV1 11 (by decide) (by decide) (by decide)
        have eV12 : V1 12 = V 12 := hV1 12 (by decide) (by decide) (by decide)
        have eV14 : V1 14 = V 14 := hV1 14 (by decide) (by decide) (by decide)
        have eV15 : V1 15 = V 15 := hV1 15 (by decide) (by decide) (by decide)
        have eV22 : V1 22 = V 22 := hV1 22 (by decide) (by decide) (by decide)
        have eV23 : V1 23 = V 23 := hV1 23 (by decide) (by decide) (by decide)
        have eV33 : V1 33 = V 33 := hV1 33 (by decide) (by decide) (by decide)
        have eV41 : V1 41 = V 41 := hV1 41 (by decide) (by decide) (by decide)
        have eV43 : V1 43 = V 43 := hV1 43 (by decide) (by decide) (by decide)
        have eV45 : V1 45 = V 45 := hV1 45 (by decide) (by decide) (by decide)
        have eA2 : A1 2 = A 2 := hA1 2 (by decide) (by decide) (by decide)
        have eA10 : A1 10 = A 10 := hA1 10 (by decide) (by decide) (by decide)
        have eA16 : A1 16 = A 16 := hA1 16 (by decide) (by decide) (by decide)
        have eA17 : A1 17 = A 17 := hA1 17 (by decide) (by decide) (by decide)
        have eA18 : A1 18 = A 18 := hA1 18 (by decide) (by decide) (by decide)
        have eA19 : A1 19 = A 19 := hA1 19 (by decide) (by decide) (by decide)
        have eA20 : A1 20 = A 20 := hA1 20 (by decide) (by decide) (by decide)
        have eA21 : A1 21 = A 21 := hA1 21 (by decide) (by decide) (by decide)
        have eA24 : A1 24 = A 24 := hA1 24 (by decide) (by decide) (by decide)
        have eA25 : A1 25 = A 25 := hA1 25 (by decide) (by decide) (by decide)
        have eA26 : A1 26 = A 26 := hA1 26 (by decide) (by decide) (by decide)
        have eA27 : A1 27 = A 27 := hA1 27 (by decide) (by decide) (by decide)
        have eA28 : A1 28 = A 28 := hA1 28 (by decide) (by decide) (by decide)
        have eA29 : A1 29 = A 29 := hA1 29 (by decide) (by decide) (by decide)
        have eA30 : A1 30 = A 30 := hA1 30 (by decide) (by decide) (by decide)
        have eA31 : A1 31 = A 31 := hA1 31 (by decide) (by decide) (by decide)
        have eA32 : A1 32 = A 32 := hA1 32 (by decide) (by decide) (by decide)
        have eA34 : A1 34 = A 34 := hA1 34 (by decide) (by decide) (by decide)
        have eA35 : A1 35 = A 35 := hA1 35 (by decide) (by decide) (by decide)
        have eA36 : A1 36 = A 36 := hA1 36 (by decide) (by decide) (by decide)
        have eA37 : A1 37 = A 37 := hA1 37 (by decide) (by decide) (by decide)
        have eA38 : A1 38 = A 38 := hA1 38 (by decide) (by decide) (by decide)
        have eA39 : A1 39 = A 39 := hA1 39 (by decide) (by decide) (by decide)
        have eA40 : A1 40 = A 40 := hA1 40 (by decide) (by decide) (by decide)
        have eA42 : A1 42 = A 42 := hA1 42 (by decide) (by decide) (by decide)
        have eA44 : A1 44 = A 44 := hA1 44 (by decide) (by decide) (by decide)
        have m1 : iv_O D M1 N o ∧ iv_X M1 N (V1 22) cl ns ∧ iv_B D M1 N 0 (A1 2) ∧ iv_I D M1 N ic Ln Dn G ∧ iv_K D M1 N lf kc ka pr f4 ∧ iv_E D M1 N mk (mq_es A1 mk) (mq_EF A1) ent ∧ iv_C M1 (mq_EF A1) CF ent ca ce ns ∧ iv_A D M1 N na (A1 24) (A1 25) (A1 32) fk km (fun a9 => mq_ss A1 a9 mk) ca ∧ iv_W D M1 N na nw wa (A1 35) told wf wm wg ts ca ∧ iv_L D M1 N ls lk lm (V1 45) ca ∧ iv_U D M1 N ∧ iv_N D M1 N ∧ iv_D M1 N ∧ iv_T D M1 N ws LW := by
          rw [eV22, eV45, eA2, eA24, eA25, eA32, eA35, mq_es_c eA16, mq_EF_c eA17 eA18 eA19 eA20 eA21, mq_ssE eA26]
          exact ⟨hO.fr (N1 := N) (o1 := o) hF z1 (fun _ => Or.inl rfl) (fun _ _ => rfl), hX.fr (N1 := N) hO hF (fun (q : 0 = 1 ∨ 0 = 3 ∨ 0 = 5 ∨ 0 = 6 ∨ 0 = 10 + ic ∧ ic < 12) => by omega) (fun _ _ => rfl), ⟨w, wr⟩, ⟨hid, hI.2⟩, hK.fr (N1 := N) hO hF (fun t h8 h9 (q : t = 1 ∨ t = 3 ∨ t = 5 ∨ t = 6 ∨ t = 10 + ic ∧ ic < 12) => by omega) (fun _ _ _ => rfl), hE.fr (N1 := N) hO hF z1 hk (fun t h8 h9 (q : t = 1 ∨ t = 3 ∨ t = 5 ∨ t = 6 ∨ t = 10 + ic ∧ ic < 12) => by omega) (fun _ _ _ => rfl), hC.fr hF hk, hA.fr (N1 := N) hO hF z1 (fun t h9 (q : t = 1 ∨ t = 3 ∨ t = 5 ∨ t = 6 ∨ t = 10 + ic ∧ ic < 12) => by omega) (fun _ _ => rfl) b8, hW.fr (N1 := N) hO hF z1 (fun t h9 (q : t = 1 ∨ t = 3 ∨ t = 5 ∨ t = 6 ∨ t = 10 + ic ∧ ic < 12) => by omega) (fun _ _ => rfl) b9, hL.fr (N1 := N) hO hF z1 (fun t h8 h9 (q : t = 1 ∨ t = 3 ∨ t = 5 ∨ t = 6 ∨ t = 10 + ic ∧ ic < 12) => by omega) (fun _ _ _ => rfl), hU.fr (N1 := N) hO hF z1 (fun t h8 h9 (q : t = 1 ∨ t = 3 ∨ t = 5 ∨ t = 6 ∨ t = 10 + ic ∧ ic < 12) => by omega) (fun _ _ _ => rfl), hN.fr (N1 := N) hO hF z1 (fun t h8 h9 (q : t = 1 ∨ t = 3 ∨ t = 5 ∨ t = 6 ∨ t = 10 + ic ∧ ic < 12) => by omega) (fun _ _ _ => rfl), hD.fr (N1 := N) hO hF (fun (q : 50 = 1 ∨ 50 = 3 ∨ 50 = 5 ∨ 50 = 6 ∨ 50 = 10 + ic ∧ ic < 12) => by omega) (rfl), hT.fr (N1 := N) hO hF (fun t h8 h9 (q : t = 1 ∨ t = 3 ∨ t = 5 ∨ t = 6 ∨ t = 10 + ic ∧ ic < 12) => by omega) (fun _ _ _ => rfl)⟩
        obtain ⟨mhO, mhX, mhB, mhI, mhK, mhE, mhC, mhA, mhW, mhL, mhU, mhN, mhD, mhT⟩ := iv_frR hR1 hF2 z2 b8 b9 m1
        exact ⟨N, o, V1, A1, S, 0, ic, Ln, Dn, G, lf, cl, kc, ka, pr, f4, g4, gm, mk, ent, ns, ca, ce, CF, na, fk, km, nw, wa, told, wf, wm, wg, ts, ls, lk, lm, ws, LW, rfl, rfl, mhO, mhX, mhB, mhI, mhK, mhE, mhC, mhA, mhW, mhL, mhU, mhN, mhD, mhT, hR2, ⟨eV0.trans v0, eV1.trans v1, hv3, eV9.trans v9, eV11.trans v11, eV12.trans v12, eV14.trans v14, eV15.trans v15, eV23.trans v23, eV33.trans v33, eV41.trans v41, eV43.trans v43⟩, ⟨b1, by omega, Nat.zero_le _, by omega, b5, by omega, b7, b8, b9, b10, b11, by rw [mq_es_c eA16]; exact b12⟩, fun q hq => absurd hq (Nat.not_lt_zero _), ⟨hmi, p4.2⟩, by rw [eA10]; exact p5, by rw [eA17, eA20]; exact p6, p7, p8.c eA26 eA27 eA28 eA29 eA30 eA31, by rw [eA34, eA36, eA37, eA38, eA39, eA40]; exact p9, by rw [eA42, eA44]; exact p10, p11, by rw [eA17]; exact p12⟩
      · exact absurd hs (hno2 i hi)
      · exact absurd hs (hno2 i hi)
    · refine ⟨_, _, _, _, _, rfl, hR1.m, by decide, by decide, hc2, fun v2 M2 hp2 z2 => ?_⟩
      obtain ⟨V1, A1, hR2, hV1, hv3, hA1, hF2, hcase2⟩ := hp2
      rcases hcase2 with ⟨i2, hi2, hs2, hmin2, rfl, hmi⟩ | ⟨hno2, h122, rfl, hmi⟩ | ⟨hno2, h122, rfl, hmi⟩
      · exact absurd hs2 (hno i2 hi2)
      · refine ⟨rfl, ?_⟩
        have eV0 : V1 0 = V 0 := hV1 0 (by decide) (by decide) (by decide)
        have eV1 : V1 1 = V 1 := hV1 1 (by decide) (by decide) (by decide)
        have eV9 : V1 9 = V 9 := hV1 9 (by decide) (by decide) (by decide)
        have eV11 : V1 11 = V 11 := hV1 11 (by decide) (by decide) (by decide)
        have eV12 : V1 12 = V 12 := hV1 12 (by decide) (by decide) (by decide)
        have eV14 : V1 14 = V 14 := hV1 14 (by decide) (by decide) (by decide)
        have eV15 : V1 15 = V 15 := hV1 15 (by decide) (by decide) (by decide)
        have eV22 : V1 22 = V 22 := hV1 22 (by decide) (by decide) (by decide)
        have eV23 : V1 23 = V 23 := hV1 23 (by decide) (by decide) (by decide)
        have eV33 : V1 33 = V 33 := hV1 33 (by decide) (by decide) (by decide)
        have eV41 : V1 41 = V 41 := hV1 41 (by decide) (by decide) (by decide)
        have eV43 : V1 43 = V 43 := hV1 43 (by decide) (by decide) (by decide)
        have eV45 : V1 45 = V 45 := hV1 45 (by decide) (by decide) (by decide)
        have eA2 : A1 2 = A 2 := hA1 2 (by decide) (by decide) (by decide)
        have eA10 : A1 10 = A 10 := hA1 10 (by decide) (by decide) (by decide)
        have eA16 : A1 16 = A 16 := hA1 16 (by decide) (by decide) (by decide)
        have eA17 : A1 17 = A 17 := hA1 17 (by decide) (by decide) (by decide)
        have eA18 : A1 18 = A 18 := hA1 18 (by decide) (by decide) (by decide)
        have eA19 : A1 19 = A 19 := hA1 19 (by decide) (by decide) (by decide)
        have eA20 : A1 20 = A 20 := hA1 20 (by decide) (by decide) (by decide)
        have eA21 : A1 21 = A 21 := hA1 21 (by decide) (by decide) (by decide)
        have eA24 : A1 24 = A 24 := hA1 24 (by decide) (by decide) (by decide)
        have eA25 : A1 25 = A 25 := hA1 25 (by decide) (by decide) (by decide)
        have eA26 : A1 26 = A 26 := hA1 26 (by decide) (by decide) (by decide)
        have eA27 : A1 27 = A 27 := hA1 27 (by decide) (by decide) (by decide)
        have eA28 : A1 28 = A 28 := hA1 28 (by decide) (by decide) (by decide)
        have eA29 : A1 29 = A 29 := hA1 29 (by decide) (by decide) (by decide)
        have eA30 : A1 30 = A 30 := hA1 30 (by decide) (by decide) (by decide)
        have eA31 : A1 31 = A 31 := hA1 31 (by decide) (by decide) (by decide)
        have eA32 : A1 32 = A 32 := hA1 32 (by decide) (by decide) (by decide)
        have eA34 : A1 34 = A 34 := hA1 34 (by decide) (by decide) (by decide)
        have eA35 : A1 35 = A 35 := hA1 35 (by decide) (by decide) (by decide)
        have eA36 : A1 36 = A 36 := hA1 36 (by decide) (by decide) (by decide)
        have eA37 : A1 37 = A 37 := hA1 37 (by decide) (by decide) (by decide)
        have eA38 : A1 38 = A 38 := hA1 38 (by decide) (by decide) (by decide)
        have eA39 : A1 39 = A 39 := hA1 39 (by decide) (by decide) (by decide)
        have eA40 : A1 40 = A 40 := hA1 40 (by decide) (by decide) (by decide)
        have eA42 : A1 42 = A 42 := hA1 42 (by decide) (by decide) (by decide)
        have eA44 : A1 44 = A 44 := hA1 44 (by decide) (by decide) (by decide)
        have m1 : iv_O D M1 N o ∧ iv_X M1 N (V1 22) cl ns ∧ iv_B D M1 N 0 (A1 2) ∧ iv_I D M1 N ic Ln Dn G ∧ iv_K D M1 N lf kc ka pr f4 ∧ iv_E D M1 N mk (mq_es A1 mk) (mq_EF A1) ent ∧ iv_C M1 (mq_EF A1) CF ent ca ce ns ∧ iv_A D M1 N na (A1 24) (A1 25) (A1 32) fk km (fun a9 => mq_ss A1 a9 mk) ca ∧ iv_W D M1 N na nw wa (A1 35) told wf wm wg ts ca ∧ iv_L D M1 N ls lk lm (V1 45) ca ∧ iv_U D M1 N ∧ iv_N D M1 N ∧ iv_D M1 N ∧ iv_T D M1 N ws LW := by
          rw [eV22, eV45, eA2, eA24, eA25, eA32, eA35, mq_es_c eA16, mq_EF_c eA17 eA18 eA19 eA20 eA21, mq_ssE eA26]
          exact ⟨hO.fr (N1 := N) (o1 := o) hF z1 (fun _ => Or.inl rfl) (fun _ _ => rfl), hX.fr (N1 := N) hO hF (fun (q : 0 = 1 ∨ 0 = 3 ∨ 0 = 5 ∨ 0 = 6 ∨ 0 = 10 + ic ∧ ic < 12) => by omega) (fun _ _ => rfl), ⟨w, wr⟩, ⟨hid, hI.2⟩, hK.fr (N1 := N) hO hF (fun t h8 h9 (q : t = 1 ∨ t = 3 ∨ t = 5 ∨ t = 6 ∨ t = 10 + ic ∧ ic < 12) => by omega) (fun _ _ _ => rfl), hE.fr (N1 := N) hO hF z1 hk (fun t h8 h9 (q : t = 1 ∨ t = 3 ∨ t = 5 ∨ t = 6 ∨ t = 10 + ic ∧ ic < 12) => by omega) (fun _ _ _ => rfl), hC.fr hF hk, hA.fr (N1 := N) hO hF z1 (fun t h9 (q : t = 1 ∨ t = 3 ∨ t = 5 ∨ t = 6 ∨ t = 10 + ic ∧ ic < 12) => by omega) (fun _ _ => rfl) b8, hW.fr (N1 := N) hO hF z1 (fun t h9 (q : t = 1 ∨ t = 3 ∨ t = 5 ∨ t = 6 ∨ t = 10 + ic ∧ ic < 12) => by omega) (fun _ _ => rfl) b9, hL.fr (N1 := N) hO hF z1 (fun t h8 h9 (q : t = 1 ∨ t = 3 ∨ t = 5 ∨ t = 6 ∨ t = 10 + ic ∧ ic < 12) => by omega) (fun _ _ _ => rfl), hU.fr (N1 := N) hO hF z1 (fun t h8 h9 (q : t = 1 ∨ t = 3 ∨ t = 5 ∨ t = 6 ∨ t = 10 + ic ∧ ic < 12) => by omega) (fun _ _ _ => rfl), hN.fr (N1 := N) hO hF z1 (fun t h8 h9 (q : t = 1 ∨ t = 3 ∨ t = 5 ∨ t = 6 ∨ t = 10 + ic ∧ ic < 12) => by omega) (fun _ _ _ => rfl), hD.fr (N1 := N) hO hF (fun (q : 50 = 1 ∨ 50 = 3 ∨ 50 = 5 ∨ 50 = 6 ∨ 50 = 10 + ic ∧ ic < 12) => by omega) (rfl), hT.fr (N1 := N) hO hF (fun t h8 h9 (q : t = 1 ∨ t = 3 ∨ t = 5 ∨ t = 6 ∨ t = 10 + ic ∧ ic < 12) => by omega) (fun _ _ _ => rfl)⟩
        obtain ⟨mhO, mhX, mhB, mhI, mhK, mhE, mhC, mhA, mhW, mhL, mhU, mhN, mhD, mhT⟩ := iv_frR hR1 hF2 z2 b8 b9 m1
        exact ⟨N, o, V1, A1, S, 0, ic, Ln, Dn, G, lf, cl, kc, ka, pr, f4, g4, gm, mk, ent, ns, ca, ce, CF, na, fk, km, nw, wa, told, wf, wm, wg, ts, ls, lk, lm, ws, LW, rfl, rfl, mhO, mhX, mhB, mhI, mhK, mhE, mhC, mhA, mhW, mhL, mhU, mhN, mhD, mhT, hR2, ⟨eV0.trans v0, eV1.trans v1, hv3, eV9.trans v9, eV11.trans v11, eV12.trans v12, eV14.trans v14, eV15.trans v15, eV23.trans v23, eV33.trans v33, eV41.trans v41, eV43.trans v43⟩, ⟨b1, by omega, Nat.zero_le _, by omega, b5, by omega, b7, b8, b9, b10, b11, by rw [mq_es_c eA16]; exact b12⟩, fun q hq => absurd hq (Nat.not_lt_zero _), ⟨hmi, p4.2⟩, by rw [eA10]; exact p5, by rw [eA17, eA20]; exact p6, p7, p8.c eA26 eA27 eA28 eA29 eA30 eA31, by rw [eA34, eA36, eA37, eA38, eA39, eA40]; exact p9, by rw [eA42, eA44]; exact p10, p11, by rw [eA17]; exact p12⟩
      · exact absurd h122 (by omega)
    · refine ⟨_, _, _, _, _, rfl, hR1.m, by decide, by decide, hc2, fun v2 M2 hp2 z2 => ?_⟩
      obtain ⟨V1, A1, hR2, hV1, hv3, hA1, hF2, hcase2⟩ := hp2
      rcases hcase2 with ⟨i2, hi2, hs2, hmin2, rfl, hmi⟩ | ⟨hno2, h122, rfl, hmi⟩ | ⟨hno2, h122, rfl, hmi⟩
      · exact absurd hs2 (hno i2 hi2)
      · exact absurd h122 (by omega)
      · refine ⟨rfl, ?_⟩
        have eV0 : V1 0 = V 0 := hV1 0 (by decide) (by decide) (by decide)
        have eV1 : V1 1 = V 1 := hV1 1 (by decide) (by decide) (by decide)
        have eV9 : V1 9 = V 9 := hV1 9 (by decide) (by decide) (by decide)
        have eV11 : V1 11 = V 11 := hV1 11 (by decide) (by decide) (by decide)
        have eV12 : V1 12 = V 12 := hV1 12 (by decide) (by decide) (by decide)
        have eV14 : V1 14 = V 14 := hV1 14 (by decide) (by decide) (by decide)
        have eV15 : V1 15 = V 15 := hV1 15 (by decide) (by decide) (by decide)
        have eV22 : V1 22 = V 22 := hV1 22 (by decide) (by decide) (by decide)
        have eV23 : V1 23 = V 23 := hV1 23 (by decide) (by decide) (by decide)
        have eV33 : V1 33 = V 33 := hV1 33 (by decide) (by decide) (by decide)
        have eV41 : V1 41 = V 41 := hV1 41 (by decide) (by decide) (by decide)
        have eV43 : V1 43 = V 43 := hV1 43 (by decide) (by decide) (by decide)
        have eV45 : V1 45 = V 45 := hV1 45 (by decide) (by decide) (by decide)
        have eA2 : A1 2 = A 2 := hA1 2 (by decide) (by decide) (by decide)
        have eA10 : A1 10 = A 10 := hA1 10 (by decide) (by decide) (by decide)
        have eA16 : A1 16 = A 16 := hA1 16 (by decide) (by decide) (by decide)
        have eA17 : A1 17 = A 17 := hA1 17 (by decide) (by decide) (by decide)
        have eA18 : A1 18 = A 18 := hA1 18 (by decide) (by decide) (by decide)
        have eA19 : A1 19 = A 19 := hA1 19 (by decide) (by decide) (by decide)
        have eA20 : A1 20 = A 20 := hA1 20 (by decide) (by decide) (by decide)
        have eA21 : A1 21 = A 21 := hA1 21 (by decide) (by decide) (by decide)
        have eA24 : A1 24 = A 24 := hA1 24 (by decide) (by decide) (by decide)
        have eA25 : A1 25 = A 25 := hA1 25 (by decide) (by decide) (by decide)
        have eA26 : A1 26 = A 26 := hA1 26 (by decide) (by decide) (by decide)
        have eA27 : A1 27 = A 27 := hA1 27 (by decide) (by decide) (by decide)
        have eA28 : A1 28 = A 28 := hA1 28 (by decide) (by decide) (by decide)
        have eA29 : A1 29 = A 29 := hA1 29 (by decide) (by decide) (by decide)
        have eA30 : A1 30 = A 30 := hA1 30 (by decide) (by decide) (by decide)
        have eA31 : A1 31 = A 31 := hA1 31 (by decide) (by decide) (by decide)
        have eA32 : A1 32 = A 32 := hA1 32 (by decide) (by decide) (by decide)
        have eA34 : A1 34 = A 34 := hA1 34 (by decide) (by decide) (by decide)
        have eA35 : A1 35 = A 35 := hA1 35 (by decide) (by decide) (by decide)
        have eA36 : A1 36 = A 36 := hA1 36 (by decide) (by decide) (by decide)
        have eA37 : A1 37 = A 37 := hA1 37 (by decide) (by decide) (by decide)
        have eA38 : A1 38 = A 38 := hA1 38 (by decide) (by decide) (by decide)
        have eA39 : A1 39 = A 39 := hA1 39 (by decide) (by decide) (by decide)
        have eA40 : A1 40 = A 40 := hA1 40 (by decide) (by decide) (by decide)
        have eA42 : A1 42 = A 42 := hA1 42 (by decide) (by decide) (by decide)
        have eA44 : A1 44 = A 44 := hA1 44 (by decide) (by decide) (by decide)
        have m1 : iv_O D M1 N o ∧ iv_X M1 N (V1 22) cl ns ∧ iv_B D M1 N 0 (A1 2) ∧ iv_I D M1 N ((ic + 1)) ((fun j => if j = ic then k else Ln j)) ((fun j => if j = ic then ie_de g 9 k else Dn j)) ((fun j => if j = ic then g else G j)) ∧ iv_K D M1 N lf kc ka pr f4 ∧ iv_E D M1 N mk (mq_es A1 mk) (mq_EF A1) ent ∧ iv_C M1 (mq_EF A1) CF ent ca ce ns ∧ iv_A D M1 N na (A1 24) (A1 25) (A1 32) fk km (fun a9 => mq_ss A1 a9 mk) ca ∧ iv_W D M1 N na nw wa (A1 35) told wf wm wg ts ca ∧ iv_L D M1 N ls lk lm (V1 45) ca ∧ iv_U D M1 N ∧ iv_N D M1 N ∧ iv_D M1 N ∧ iv_T D M1 N ws LW := by
          rw [eV22, eV45, eA2, eA24, eA25, eA32, eA35, mq_es_c eA16, mq_EF_c eA17 eA18 eA19 eA20 eA21, mq_ssE eA26]
          exact ⟨hO.fr (N1 := N) (o1 := o) hF z1 (fun _ => Or.inl rfl) (fun _ _ => rfl), hX.fr (N1 := N) hO hF (fun (q : 0 = 1 ∨ 0 = 3 ∨ 0 = 5 ∨ 0 = 6 ∨ 0 = 10 + ic ∧ ic < 12) => by omega) (fun _ _ => rfl), ⟨w, wr⟩, ⟨hid, hI.2⟩, hK.fr (N1 := N) hO hF (fun t h8 h9 (q : t = 1 ∨ t = 3 ∨ t = 5 ∨ t = 6 ∨ t = 10 + ic ∧ ic < 12) => by omega) (fun _ _ _ => rfl), hE.fr (N1 := N) hO hF z1 hk (fun t h8 h9 (q : t = 1 ∨ t = 3 ∨ t = 5 ∨ t = 6 ∨ t = 10 + ic ∧ ic < 12) => by omega) (fun _ _ _ => rfl), hC.fr hF hk, hA.fr (N1 := N) hO hF z1 (fun t h9 (q : t = 1 ∨ t = 3 ∨ t = 5 ∨ t = 6 ∨ t = 10 + ic ∧ ic < 12) => by omega) (fun _ _ => rfl) b8, hW.fr (N1 := N) hO hF z1 (fun t h9 (q : t = 1 ∨ t = 3 ∨ t = 5 ∨ t = 6 ∨ t = 10 + ic ∧ ic < 12) => by omega) (fun _ _ => rfl) b9, hL.fr (N1 := N) hO hF z1 (fun t h8 h9 (q : t = 1 ∨ t = 3 ∨ t = 5 ∨ t = 6 ∨ t = 10 + ic ∧ ic < 12) => by omega) (fun _ _ _ => rfl), hU.fr (N1 := N) hO hF z1 (fun t h8 h9 (q : t = 1 ∨ t = 3 ∨ t = 5 ∨ t = 6 ∨ t = 10 + ic ∧ ic < 12) => by omega) (fun _ _ _ => rfl), hN.fr (N1 := N) hO hF z1 (fun t h8 h9 (q : t = 1 ∨ t = 3 ∨ t = 5 ∨ t = 6 ∨ t = 10 + ic ∧ ic < 12) => by omega) (fun _ _ _ => rfl), hD.fr (N1 := N) hO hF (fun (q : 50 = 1 ∨ 50 = 3 ∨ 50 = 5 ∨ 50 = 6 ∨ 50 = 10 + ic ∧ ic < 12) => by omega) (rfl), hT.fr (N1 := N) hO hF (fun t h8 h9 (q : t = 1 ∨ t = 3 ∨ t = 5 ∨ t = 6 ∨ t = 10 + ic ∧ ic < 12) => by omega) (fun _ _ _ => rfl)⟩
        obtain ⟨mhO, mhX, mhB, mhI, mhK, mhE, mhC, mhA, mhW, mhL, mhU, mhN, mhD, mhT⟩ := iv_frR hR1 hF2 z2 b8 b9 m1
        exact ⟨N, o, V1, A1, S, 0, (ic + 1), (fun j => if j = ic then k else Ln j), (fun j => if j = ic then ie_de g 9 k else Dn j), (fun j => if j = ic then g else G j), lf, cl, kc, ka, pr, f4, g4, gm, mk, ent, ns, ca, ce, CF, na, fk, km, nw, wa, told, wf, wm, wg, ts, ls, lk, lm, ws, LW, rfl, rfl, mhO, mhX, mhB, mhI, mhK, mhE, mhC, mhA, mhW, mhL, mhU, mhN, mhD, mhT, hR2, ⟨eV0.trans v0, eV1.trans v1, hv3, eV9.trans v9, eV11.trans v11, eV12.trans v12, eV14.trans v14, eV15.trans v15, eV23.trans v23, eV33.trans v33, eV41.trans v41, eV43.trans v43⟩, ⟨b1, by omega, Nat.zero_le _, by omega, b5, by omega, b7, b8, b9, b10, b11, by rw [mq_es_c eA16]; exact b12⟩, fun q hq => absurd hq (Nat.not_lt_zero _), ⟨hmi, by omega, fun i hi => by
                  obtain ⟨k1, k2, k3, k4⟩ := ie_ok herr
                  rw [Nat.zero_add, Nat.zero_add] at k4
                  have k5 := ie_de_le (g := g) k3
                  dsimp only
                  by_cases e : i = ic
                  · rw [if_pos e, if_pos e, if_pos e]
                    refine ⟨k4, k5.2.1, k2, fun q hq => (hg q hq).2, fun q hq => ?_⟩
                    have k6 := (ie_sc_all 9 0 k1 q (Nat.zero_le _) (by omega)).2
                    rw [Nat.zero_add] at k6
                    exact k6
                  · rw [if_neg e, if_neg e, if_neg e]
                    exact p4.2.2 i (by omega)⟩, by rw [eA10]; exact p5, fun e he => by
                  rw [eA17, eA20]
                  obtain ⟨⟨i, h1, h2⟩, h3⟩ := p6 e he
                  exact ⟨⟨i, by omega, h2⟩, h3⟩, p7, p8.c eA26 eA27 eA28 eA29 eA30 eA31, by rw [eA34, eA36, eA37, eA38, eA39, eA40]; exact p9, by rw [eA42, eA44]; exact p10, p11, by
                  obtain ⟨wn, h1, h2, h3⟩ := p12
                  refine ⟨wn, h1, h2, fun h => (h3 h).trans ?_⟩
                  obtain ⟨⟨i, i1, i2⟩, -⟩ := p6 (ce wn) (p7 wn h h1).1
                  have hic := p4.2.1
                  unfold ec_c id_tx
                  rw [eA17, i2, nI_clamp (by omega)]
                  dsimp only
                  rw [if_neg (by omega), if_neg (by omega)]⟩
