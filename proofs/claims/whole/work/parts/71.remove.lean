/-! remove -/
set_option maxHeartbeats 4000000 in
set_option maxRecDepth 100000 in
theorem iv_remove (l : Launch) {D : va_G} {z x mm j : Nat} {M : mw_M} (a : Nat → Int32) (hj : j < 512) (h : iv D x mm j M) : iv_go l D z x mm yy_Xi_remove bb_Xi_remove 2 (Option.some Jvm.ClassFile.FieldType.boolean) yy_Mo_remove bb_Mo_remove 2 (Option.some Jvm.ClassFile.FieldType.boolean) [.int (a 1)] M (iv D x mm (j + 1)) := by
  have hh := h
  obtain ⟨N, o, V, A, S, k, ic, Ln, Dn, G, lf, cl, kc, ka, pr, f4, g4, gm, mk, ent, ns, ca, ce, CF, na, fk, km, nw, wa, told, wf, wm, wg, ts, ls, lk, lm, ws, LW, e0, e1, hO, hX, hB, hI, hK, hE, hC, hA, hW, hL, hU, hN, hD, hT, hR, pV, pB, p3, p4, p5, p6, p7, p8, p9, p10, p11, p12⟩ := h
  subst e0 e1
  obtain ⟨v0, v1, v3, v9, v11, v12, v14, v15, v23, v33, v41, v43⟩ := pV
  obtain ⟨b1, b2, b3, b4, b5, b6, b7, b8, b9, b10, b11, b12⟩ := pB
  refine ⟨_, _, _, _, _, by decide, by decide, by decide, by decide, cc_Xi_remove l D z M (N 0) (N 1) (N 3) (N 30) (N 32) (N 35) (N 37) (N 40) (N 50) (N 51) (N 46) (N 43) (V 22) (nI cl) (nI ns) (N 33) (N 34) mk (a 1) (mq_es A mk) (mq_EF A) ent hX hE.1, fun v M1 hp z1 => ?_⟩
  rcases hp with ⟨i, e, hi, -, he, rfl, hes, hF0⟩ | ⟨hno, rfl, hMM⟩
  · have he : nI e = a 1 := he
    rw [← he]
    obtain ⟨e1, e2⟩ := mq_es_in.mp (List.mem_of_getElem? hi)
    have hF : mw_fr (iv_F (fun t => t = 33 ∨ t = 34) N) M M1 := hF0.mono (fun q h => by
        rcases h with e | e
        · exact ⟨33, Or.inl rfl, e⟩
        · exact ⟨34, Or.inr (rfl), e⟩)
    have hk : ∀ t : Nat, (t = 33 ∨ t = 34) → iv_kd M (N t) := by
      intro t q
      rcases q with q | q
      · rw [q]
        exact kd_a hE.1.2.1
      · rw [q]
        exact kd_b hE.1.2.1
    have hR1 : iv_R D M1 N V A S := hR.fr (N1 := N) hO hF (fun t h9 (q : t = 33 ∨ t = 34) => by omega) (fun _ _ => rfl)
    refine ⟨_, _, _, _, _, rfl, hR1.m, by decide, by decide, cc_Mo_remove l D z M1 (N 199) (fun k => N (200 + k)) V A S e mk hR1 v15 b7 e1, fun v2 M2 hp2 z2 => ?_⟩
    obtain ⟨-, hp2, hF2⟩ := hp2
    obtain ⟨rfl, A1, hR2, hA1⟩ := hp2 e2
    refine ⟨rfl, ?_⟩
    have h16 : A1 16 = upd (A 16) e (nI 0) := by rw [hA1, va_up_self]
    have hrm := mq_es_rm h16 hi
    have eA2 : A1 2 = A 2 := by rw [hA1]; exact va_up_ne _ _ (by decide)
    have eA5 : A1 5 = A 5 := by rw [hA1]; exact va_up_ne _ _ (by decide)
    have eA6 : A1 6 = A 6 := by rw [hA1]; exact va_up_ne _ _ (by decide)
    have eA7 : A1 7 = A 7 := by rw [hA1]; exact va_up_ne _ _ (by decide)
    have eA10 : A1 10 = A 10 := by rw [hA1]; exact va_up_ne _ _ (by decide)
    have eA17 : A1 17 = A 17 := by rw [hA1]; exact va_up_ne _ _ (by decide)
    have eA18 : A1 18 = A 18 := by rw [hA1]; exact va_up_ne _ _ (by decide)
    have eA19 : A1 19 = A 19 := by rw [hA1]; exact va_up_ne _ _ (by decide)
    have eA20 : A1 20 = A 20 := by rw [hA1]; exact va_up_ne _ _ (by decide)
    have eA21 : A1 21 = A 21 := by rw [hA1]; exact va_up_ne _ _ (by decide)
    have eA24 : A1 24 = A 24 := by rw [hA1]; exact va_up_ne _ _ (by decide)
    have eA25 : A1 25 = A 25 := by rw [hA1]; exact va_up_ne _ _ (by decide)
    have eA26 : A1 26 = A 26 := by rw [hA1]; exact va_up_ne _ _ (by decide)
    have eA27 : A1 27 = A 27 := by rw [hA1]; exact va_up_ne _ _ (by decide)
    have eA28 : A1 28 = A 28 := by rw [hA1]; exact va_up_ne _ _ (by decide)
    have eA29 : A1 29 = A 29 := by rw [hA1]; exact va_up_ne _ _ (by decide)
    have eA30 : A1 30 = A 30 := by rw [hA1]; exact va_up_ne _ _ (by decide)
    have eA31 : A1 31 = A 31 := by rw [hA1]; exact va_up_ne _ _ (by decide)
    have eA32 : A1 32 = A 32 := by rw [hA1]; exact va_up_ne _ _ (by decide)
    have eA34 : A1 34 = A 34 := by rw [hA1]; exact va_up_ne _ _ (by decide)
    have eA35 : A1 35 = A 35 := by rw [hA1]; exact va_up_ne _ _ (by decide)
    have eA36 : A1 36 = A 36 := by rw [hA1]; exact va_up_ne _ _ (by decide)
    have eA37 : A1 37 = A 37 := by rw [hA1]; exact va_up_ne _ _ (by decide)
    have eA38 : A1 38 = A 38 := by rw [hA1]; exact va_up_ne _ _ (by decide)
    have eA39 : A1 39 = A 39 := by rw [hA1]; exact va_up_ne _ _ (by decide)
    have eA40 : A1 40 = A 40 := by rw [hA1]; exact va_up_ne _ _ (by decide)
    have eA42 : A1 42 = A 42 := by rw [hA1]; exact va_up_ne _ _ (by decide)
    have eA44 : A1 44 = A 44 := by rw [hA1]; exact va_up_ne _ _ (by decide)
    have m1 : iv_O D M1 N o ∧ iv_X M1 N (V 22) cl ns ∧ iv_B D M1 N k (A1 2) ∧ iv_I D M1 N ic Ln Dn G ∧ iv_K D M1 N lf kc ka pr f4 ∧ iv_E D M1 N mk (mq_es A1 mk) (mq_EF A1) ent ∧ iv_C M1 (mq_EF A1) CF ent ca ce ns ∧ iv_A D M1 N na (A1 24) (A1 25) (A1 32) fk km (fun a9 => mq_ss A1 a9 mk) ca ∧ iv_W D M1 N na nw wa (A1 35) told wf wm wg ts ca ∧ iv_L D M1 N ls lk lm (V 45) ca ∧ iv_U D M1 N ∧ iv_N D M1 N ∧ iv_D M1 N ∧ iv_T D M1 N ws LW := by
      rw [eA2, eA24, eA25, eA32, eA35, mq_EF_c eA17 eA18 eA19 eA20 eA21, mq_ssE eA26]
      exact ⟨hO.fr (N1 := N) (o1 := o) hF z1 (fun _ => Or.inl rfl) (fun _ _ => rfl), hX.fr (N1 := N) hO hF (fun (q : 0 = 33 ∨ 0 = 34) => by omega) (fun _ _ => rfl), hB.fr (N1 := N) hO hF (fun t h8 h9 (q : t = 33 ∨ t = 34) => by omega) (fun _ _ _ => rfl), hI.fr (N1 := N) hO hF (fun t h8 h9 (q : t = 33 ∨ t = 34) => by omega) (fun _ _ _ => rfl), hK.fr (N1 := N) hO hF (fun t h8 h9 (q : t = 33 ∨ t = 34) => by omega) (fun _ _ _ => rfl), ⟨by rw [← hrm]; exact hes, fun e9 h9 => iv_en (hE.2 e9 h9) hF hk⟩, hC.fr hF hk, hA.fr (N1 := N) hO hF z1 (fun t h9 (q : t = 33 ∨ t = 34) => by omega) (fun _ _ => rfl) b8, hW.fr (N1 := N) hO hF z1 (fun t h9 (q : t = 33 ∨ t = 34) => by omega) (fun _ _ => rfl) b9, hL.fr (N1 := N) hO hF z1 (fun t h8 h9 (q : t = 33 ∨ t = 34) => by omega) (fun _ _ _ => rfl), hU.fr (N1 := N) hO hF z1 (fun t h8 h9 (q : t = 33 ∨ t = 34) => by omega) (fun _ _ _ => rfl), hN.fr (N1 := N) hO hF z1 (fun t h8 h9 (q : t = 33 ∨ t = 34) => by omega) (fun _ _ _ => rfl), hD.fr (N1 := N) hO hF (fun (q : 50 = 33 ∨ 50 = 34) => by omega) (rfl), hT.fr (N1 := N) hO hF (fun t h8 h9 (q : t = 33 ∨ t = 34) => by omega) (fun _ _ _ => rfl)⟩
    obtain ⟨mhO, mhX, mhB, mhI, mhK, mhE, mhC, mhA, mhW, mhL, mhU, mhN, mhD, mhT⟩ := iv_frR hR1 hF2 z2 b8 b9 m1
    exact ⟨N, o, V, A1, S, k, ic, Ln, Dn, G, lf, cl, kc, ka, pr, f4, g4, gm, mk, ent, ns, ca, ce, CF, na, fk, km, nw, wa, told, wf, wm, wg, ts, ls, lk, lm, ws, LW, rfl, rfl, mhO, mhX, mhB, mhI, mhK, mhE, mhC, mhA, mhW, mhL, mhU, mhN, mhD, mhT, hR2, ⟨v0, v1, v3, v9, v11, v12, v14, v15, v23, v33, v41, v43⟩, ⟨b1, by omega, b3, by omega, b5, by omega, b7, b8, b9, b10, b11, by rw [← hrm]; exact Nat.le_trans (List.eraseIdx_sublist _ _).length_le b12⟩, by rw [eA2]; exact p3, by rw [eA5, eA6, eA7]; exact p4, by rw [eA10]; exact p5, by rw [eA17, eA20]; exact p6, p7, p8.c eA26 eA27 eA28 eA29 eA30 eA31, by rw [eA34, eA36, eA37, eA38, eA39, eA40]; exact p9, by rw [eA42, eA44]; exact p10, p11, by rw [eA17]; exact p12⟩
  · subst hMM
    rcases iv_hs (k := mk) (a 1) with hm | ⟨q, hq, e⟩
    · refine ⟨_, _, _, _, _, rfl, hR.m, by decide, by decide, cc_Mo_remove_m l D z _ (N 199) _ mk (a 1) hR.m (mq_vi rfl v15) (by omega) hm, fun v2 M2 hp2 z2 => ?_⟩
      obtain ⟨rfl, hMM⟩ := hp2
      subst hMM
      exact ⟨rfl, hh.skip⟩
    · rw [e]
      have hth : mq_th A q = false := by
        cases ht : mq_th A q with
        | false => rfl
        | true => exact absurd e.symm (hno q (mq_es_in.mpr ⟨hq, ht⟩))
      refine ⟨_, _, _, _, _, rfl, hR.m, by decide, by decide, cc_Mo_remove l D z _ (N 199) (fun k => N (200 + k)) V A S q mk hR v15 b7 hq, fun v2 M2 hp2 z2 => ?_⟩
      obtain ⟨hp2, -, -⟩ := hp2
      obtain ⟨rfl, hMM⟩ := hp2 hth
      subst hMM
      exact ⟨rfl, hh.skip⟩
