/-! verify -/
set_option maxHeartbeats 4000000 in
set_option maxRecDepth 100000 in
theorem iv_verify (l : Launch) {D : va_G} {z x mm j : Nat} {M : mw_M} (a : Nat → Int32) (hj : j < 512) (h : iv D x mm j M) : iv_go l D z x mm yy_Xi_verify bb_Xi_verify 2 (Option.some Jvm.ClassFile.FieldType.int) yy_Mo_verify bb_Mo_verify 2 (Option.some Jvm.ClassFile.FieldType.int) [] M (iv D x mm (j + 1)) := by
  have hh := h
  obtain ⟨N, o, V, A, S, k, ic, Ln, Dn, G, lf, cl, kc, ka, pr, f4, g4, gm, mk, ent, ns, ca, ce, CF, na, fk, km, nw, wa, told, wf, wm, wg, ts, ls, lk, lm, ws, LW, e0, e1, hO, hX, hB, hI, hK, hE, hC, hA, hW, hL, hU, hN, hD, hT, hR, pV, pB, p3, p4, p5, p6, p7, p8, p9, p10, p11, p12⟩ := h
  subst e0 e1
  obtain ⟨v0, v1, v3, v9, v11, v12, v14, v15, v23, v33, v41, v43⟩ := pV
  obtain ⟨b1, b2, b3, b4, b5, b6, b7, b8, b9, b10, b11, b12⟩ := pB
  obtain ⟨g, hg⟩ := p3.g
  obtain ⟨rb, pl, er, u3, u4, u5, u6, u7, u8, wd⟩ := hD
  have ha : vf_ans g k (fun i => ky_good kc lf g4 (nI i) cl) cl = vf_ans g k (fun i => mo_good kc lf gm (nI i) cl) cl := by
    congr 1
    funext i
    exact kr_good p5.1 (nI i)
  refine ⟨_, _, _, _, _, by decide, by decide, by decide, by decide, cc_Xi_verify l D z M (N 0) (N 1) (N 3) (N 30) (N 32) (N 35) (N 37) (N 40) (N 50) (N 51) (N 46) (N 43) (V 22) (nI ns) cl (N 2) (A 2) k g (N 31) lf kc (nI ka) pr f4 g4 rb pl er u3 u4 u5 u6 u7 u8 hX hB.1 hB.2 b3 hg hK.1 hK.2 p5.2.2 (by omega) (by omega) (by omega) wd, fun v M1 hp z1 => ?_⟩
  obtain ⟨rfl, hD1, wb, hF0⟩ := hp
  have hF : mw_fr (iv_F (fun t => t = 1 ∨ t = 50) N) M M1 := hF0.mono (fun q h => by
      rcases h with e | e
      · exact ⟨1, Or.inl rfl, e⟩
      · exact ⟨50, Or.inr (rfl), e⟩)
  have hk : ∀ t : Nat, (t = 1 ∨ t = 50) → iv_kd M (N t) := by
    intro t q
    rcases q with q | q
    · rw [q]
      exact kd_o hB.1 (by decide)
    · rw [q]
      exact kd_o wd (by decide)
  have hR1 : iv_R D M1 N V A S := hR.fr (N1 := N) hO hF (fun t h9 (q : t = 1 ∨ t = 50) => by omega) (fun _ _ => rfl)
  have wr := iv_at hO hF hB.2 (fun (q : 2 = 1 ∨ 2 = 50) => by omega)
  rw [ha]
  refine ⟨_, _, _, _, _, rfl, hR1.m, by decide, by decide, cc_Mo_verify l D z M1 (N 199) (fun k => N (200 + k)) V A S k g lf kc cl (nI ka) pr gm hR1 b3 hg v3 v0 v1 v9 v11 v12 p5.2.1 (by omega) (by omega) (by omega), fun v2 M2 hp2 z2 => ?_⟩
  obtain ⟨rfl, ⟨V2, hR2, hv3, hV⟩, hF2⟩ := hp2
  refine ⟨rfl, ?_⟩
  have eV0 : V2 0 = V 0 := hV 0 (by decide) (by decide) (by decide) (by decide)
  have eV1 : V2 1 = V 1 := hV 1 (by decide) (by decide) (by decide) (by decide)
  have eV4 : V2 4 = V 4 := hV 4 (by decide) (by decide) (by decide) (by decide)
  have eV9 : V2 9 = V 9 := hV 9 (by decide) (by decide) (by decide) (by decide)
  have eV11 : V2 11 = V 11 := hV 11 (by decide) (by decide) (by decide) (by decide)
  have eV12 : V2 12 = V 12 := hV 12 (by decide) (by decide) (by decide) (by decide)
  have eV14 : V2 14 = V 14 := hV 14 (by decide) (by decide) (by decide) (by decide)
  have eV15 : V2 15 = V 15 := hV 15 (by decide) (by decide) (by decide) (by decide)
  have eV22 : V2 22 = V 22 := hV 22 (by decide) (by decide) (by decide) (by decide)
  have eV23 : V2 23 = V 23 := hV 23 (by decide) (by decide) (by decide) (by decide)
  have eV33 : V2 33 = V 33 := hV 33 (by decide) (by decide) (by decide) (by decide)
  have eV41 : V2 41 = V 41 := hV 41 (by decide) (by decide) (by decide) (by decide)
  have eV43 : V2 43 = V 43 := hV 43 (by decide) (by decide) (by decide) (by decide)
  have eV45 : V2 45 = V 45 := hV 45 (by decide) (by decide) (by decide) (by decide)
  have m1 : iv_O D M1 N o ∧ iv_X M1 N (V2 22) cl ns ∧ iv_B D M1 N 0 (A 2) ∧ iv_I D M1 N ic Ln Dn G ∧ iv_K D M1 N lf kc ka pr f4 ∧ iv_E D M1 N mk (mq_es A mk) (mq_EF A) ent ∧ iv_C M1 (mq_EF A) CF ent ca ce ns ∧ iv_A D M1 N na (A 24) (A 25) (A 32) fk km (fun a9 => mq_ss A a9 mk) ca ∧ iv_W D M1 N na nw wa (A 35) told wf wm wg ts ca ∧ iv_L D M1 N ls lk lm (V2 45) ca ∧ iv_U D M1 N ∧ iv_N D M1 N ∧ iv_D M1 N ∧ iv_T D M1 N ws LW := by
    rw [eV22, eV45]
    exact ⟨hO.fr (N1 := N) (o1 := o) hF z1 (fun _ => Or.inl rfl) (fun _ _ => rfl), hX.fr (N1 := N) hO hF (fun (q : 0 = 1 ∨ 0 = 50) => by omega) (fun _ _ => rfl), ⟨wb, wr⟩, hI.fr (N1 := N) hO hF (fun t h8 h9 (q : t = 1 ∨ t = 50) => by omega) (fun _ _ _ => rfl), hK.fr (N1 := N) hO hF (fun t h8 h9 (q : t = 1 ∨ t = 50) => by omega) (fun _ _ _ => rfl), hE.fr (N1 := N) hO hF z1 hk (fun t h8 h9 (q : t = 1 ∨ t = 50) => by omega) (fun _ _ _ => rfl), hC.fr hF hk, hA.fr (N1 := N) hO hF z1 (fun t h9 (q : t = 1 ∨ t = 50) => by omega) (fun _ _ => rfl) b8, hW.fr (N1 := N) hO hF z1 (fun t h9 (q : t = 1 ∨ t = 50) => by omega) (fun _ _ => rfl) b9, hL.fr (N1 := N) hO hF z1 (fun t h8 h9 (q : t = 1 ∨ t = 50) => by omega) (fun _ _ _ => rfl), hU.fr (N1 := N) hO hF z1 (fun t h8 h9 (q : t = 1 ∨ t = 50) => by omega) (fun _ _ _ => rfl), hN.fr (N1 := N) hO hF z1 (fun t h8 h9 (q : t = 1 ∨ t = 50) => by omega) (fun _ _ _ => rfl), hD1, hT.fr (N1 := N) hO hF (fun t h8 h9 (q : t = 1 ∨ t = 50) => by omega) (fun _ _ _ => rfl)⟩
  obtain ⟨mhO, mhX, mhB, mhI, mhK, mhE, mhC, mhA, mhW, mhL, mhU, mhN, mhD, mhT⟩ := iv_frR hR1 hF2 z2 b8 b9 m1
  exact ⟨N, o, V2, A, S, 0, ic, Ln, Dn, G, lf, cl, kc, ka, pr, f4, g4, gm, mk, ent, ns, ca, ce, CF, na, fk, km, nw, wa, told, wf, wm, wg, ts, ls, lk, lm, ws, LW, rfl, rfl, mhO, mhX, mhB, mhI, mhK, mhE, mhC, mhA, mhW, mhL, mhU, mhN, mhD, mhT, hR2, ⟨eV0.trans v0, eV1.trans v1, hv3, eV9.trans v9, eV11.trans v11, eV12.trans v12, eV14.trans v14, eV15.trans v15, eV23.trans v23, eV33.trans v33, eV41.trans v41, eV43.trans v43⟩, ⟨b1, by omega, Nat.zero_le _, by omega, b5, by omega, b7, b8, b9, b10, b11, b12⟩, fun q hq => absurd hq (Nat.not_lt_zero _), by rw [eV4]; exact p4, p5, p6, p7, p8, p9, p10, p11, p12⟩
