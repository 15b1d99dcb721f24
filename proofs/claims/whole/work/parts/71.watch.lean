/-! watch -/
set_option maxHeartbeats 4000000 in
set_option maxRecDepth 100000 in
theorem iv_watch (l : Launch) {D : va_G} {z x mm j : Nat} {M : mw_M} (a : Nat → Int32) (hj : j < 512) (h : iv D x mm j M) : iv_go l D z x mm yy_Xi_watch bb_Xi_watch 3 (Option.some Jvm.ClassFile.FieldType.int) yy_Mo_watch bb_Mo_watch 3 (Option.some Jvm.ClassFile.FieldType.int) [.int (a 1), .int (a 2)] M (iv D x mm (j + 1)) := by
  have hh := h
  obtain ⟨N, o, V, A, S, k, ic, Ln, Dn, G, lf, cl, kc, ka, pr, f4, g4, gm, mk, ent, ns, ca, ce, CF, na, fk, km, nw, wa, told, wf, wm, wg, ts, ls, lk, lm, ws, LW, e0, e1, hO, hX, hB, hI, hK, hE, hC, hA, hW, hL, hU, hN, hD, hT, hR, pV, pB, p3, p4, p5, p6, p7, p8, p9, p10, p11, p12⟩ := h
  subst e0 e1
  obtain ⟨v0, v1, v3, v9, v11, v12, v14, v15, v23, v33, v41, v43⟩ := pV
  obtain ⟨b1, b2, b3, b4, b5, b6, b7, b8, b9, b10, b11, b12⟩ := pB
  rcases iv_hs (k := na) (a 1) with hm | ⟨q, hq, e⟩
  · obtain ⟨mo, wc⟩ := iv_lc hA.1
    exact iv_same hh (cc_Xi_watch_m l D z M (N 0) (N 1) (N 3) (N 30) (N 32) (N 35) (N 37) (N 40) (N 50) (N 51) (N 46) (N 43) (V 22) (nI cl) (nI ns) (N 36) na mo (a 1) (a 2) hX wc (by omega) hm) (cc_Mo_watch_m l D z M (N 199) _ na (a 1) (a 2) hR.m (mq_vi rfl v23) (by omega) hm) (by decide) (by decide) (by decide) (by decide) (by decide) (by decide)
  · rw [e]
    by_cases h4 : nw = 4
    · exact iv_same hh (cc_Xi_watch_f l D z M (N 0) (N 1) (N 3) (N 30) (N 32) (N 35) (N 37) (N 40) (N 50) (N 51) (N 46) (N 43) (V 22) (nI cl) (nI ns) (N 36) (N 38) q (N (100 + q)) (a 2) _ _ hX hA.1 (iv_rg _ hq) hW.1 (by rw [iv_rl]; omega)) (cc_Mo_watch_f l D z M (N 199) (fun k => N (200 + k)) V A S q na nw (a 2) hR v23 b8 hq v33 h4) (by decide) (by decide) (by decide) (by decide) (by decide) (by decide)
    · have h4 : nw < 4 := by omega
      have hel : els_ok M ((List.range nw).map (fun w => N (130 + w))) := fun y hy => by
        obtain ⟨w, hw, rfl⟩ := List.mem_map.mp hy
        exact ⟨12, _, _, (hW.2 w (List.mem_range.mp hw)).2.1, rfl, by decide +kernel, by decide⟩
      have hc := cc_Xi_watch_y l D z M (N 0) (N 1) (N 3) (N 30) (N 32) (N 35) (N 37) (N 40) (N 50) (N 51) (N 46) (N 43) (V 22) (nI cl) (nI ns) (N 36) (N 38) q (N (100 + q)) (a 2) _ _ _ hX hA.1 (iv_rg _ hq) (hA.2 q hq).1 hW.1 hel (by rw [iv_rl]; exact h4) (hO.na hA.1 (by omega))
      rw [iv_rl] at hc
      refine ⟨_, _, _, _, _, by decide, by decide, by decide, by decide, hc, fun v M1 hp z1 => ?_⟩
      obtain ⟨rfl, y0, d0, c0, r0, y1, d1, c1, wy, wd, hal0, halw, hF0, hr0⟩ := hp
      have hF : mw_fr (iv_F (fun t => t = 37 ∨ t = 38) N) M M1 := hF0.mono (fun q h => by
          rcases h with e | e
          · exact ⟨37, Or.inl rfl, e⟩
          · exact ⟨38, Or.inr (rfl), e⟩)
      have hk : ∀ t : Nat, (t = 37 ∨ t = 38) → iv_kd M (N t) := by
        intro t q
        rcases q with q | q
        · rw [q]
          exact kd_a hW.1
        · rw [q]
          exact kd_b hW.1
      have hR1 : iv_R D M1 N V A S := hR.fr (N1 := N) hO hF (fun t h9 (q : t = 37 ∨ t = 38) => by omega) (fun _ _ => rfl)
      refine ⟨_, _, _, _, _, rfl, hR1.m, by decide, by decide, cc_Mo_watch_y l D z M1 (N 199) (fun k => N (200 + k)) V A S q na nw (a 2) hR1 v23 b8 hq v33 h4, fun v2 M2 hp2 z2 => ?_⟩
      obtain ⟨rfl, hR2, hF2⟩ := hp2
      refine ⟨rfl, ?_⟩
      obtain ⟨mo0, wc⟩ := hal0.cell
      have a1 : d0 ≠ y0 := mw_ne wd wy (fun h => by cases h)
      have a2 : c0 ≠ y0 := mw_ne wc wy (fun h => by cases h)
      have a3 : c0 ≠ d0 := mw_ne wc wd (fun h => by cases h)
      have a4 := halw.nr wy
      have a5 := halw.nr wd
      have a6 := halw.nr wc
      obtain ⟨N1, hN1⟩ : ∃ f : Nat → Nat, f = (va_up (va_up (va_up (va_up (va_up N (130 + nw) y0) (140 + nw) d0) (150 + nw) c0) (160 + nw) (D.2 200 0)) (38) r0) := ⟨_, rfl⟩
      have nx : ∀ t : Nat, (t ≠ 130 + nw ∧ t ≠ 140 + nw ∧ t ≠ 150 + nw ∧ t ≠ 160 + nw ∧ t ≠ 38) → N1 t = N t := fun t h => by
        rw [hN1, va_up_ne _ _ h.2.2.2.2, va_up_ne _ _ h.2.2.2.1, va_up_ne _ _ h.2.2.1, va_up_ne _ _ h.2.1, va_up_ne _ _ h.1]
      have nb0 : N1 (130 + nw) = y0 := by rw [hN1, va_up_ne _ _ (by omega), va_up_ne _ _ (by omega), va_up_ne _ _ (by omega), va_up_ne _ _ (by omega), va_up_self]
      have nb1 : N1 (140 + nw) = d0 := by rw [hN1, va_up_ne _ _ (by omega), va_up_ne _ _ (by omega), va_up_ne _ _ (by omega), va_up_self]
      have nb2 : N1 (150 + nw) = c0 := by rw [hN1, va_up_ne _ _ (by omega), va_up_ne _ _ (by omega), va_up_self]
      have nb3 : N1 (160 + nw) = (D.2 200 0) := by rw [hN1, va_up_ne _ _ (by omega), va_up_self]
      have nb4 : N1 (38) = r0 := by rw [hN1, va_up_self]
      obtain ⟨o1, ho1⟩ : ∃ f : Nat → Nat, f = fun q => if M q = none then (if q = y0 then 130 + nw else if q = d0 then 140 + nw else if q = c0 then 150 + nw else 38) else o q := ⟨_, rfl⟩
      have hO1 : iv_O D M1 N1 o1 := by
        refine hO.fr hF z1 (fun t => ?_) (fun q hq => by rw [ho1]; exact if_neg hq)
        by_cases t0 : t = 130 + nw
        · rw [t0, nb0]
          exact Or.inr (Or.inr ⟨y1, iv_nn wy, by rw [ho1]; show (if M y0 = none then _ else _) = _; rw [if_pos y1, if_pos rfl]⟩)
        · by_cases t1 : t = 140 + nw
          · rw [t1, nb1]
            exact Or.inr (Or.inr ⟨d1, iv_nn wd, by rw [ho1]; show (if M d0 = none then _ else _) = _; rw [if_pos d1, if_neg a1, if_pos rfl]⟩)
          · by_cases t2 : t = 150 + nw
            · rw [t2, nb2]
              exact Or.inr (Or.inr ⟨c1, iv_nn wc, by rw [ho1]; show (if M c0 = none then _ else _) = _; rw [if_pos c1, if_neg a2, if_neg a3, if_pos rfl]⟩)
            · by_cases t3 : t = 160 + nw
              · rw [t3, nb3]
                exact Or.inr (Or.inl rfl)
              · by_cases t4 : t = 38
                · rw [t4, nb4]
                  rcases hr0 with h | h
                  · exact Or.inl h
                  · rcases halw.row with h5 | h5
                    · exact Or.inr (Or.inl h5)
                    · exact Or.inr (Or.inr ⟨h, h5, by rw [ho1]; show (if M r0 = none then _ else _) = _; rw [if_pos h, if_neg (Ne.symm a4), if_neg (Ne.symm a5), if_neg (Ne.symm a6)]⟩)
                · exact Or.inl (nx t ⟨t0, t1, t2, t3, t4⟩)
      have en : N1 199 = N 199 := nx 199 (by omega)
      have er : (fun k => N1 (200 + k)) = fun k => N (200 + k) := funext (fun k => nx (200 + k) (by omega))
      have hR1 : iv_R D M1 N1 V A S := by
        unfold iv_R
        rw [en, er]
        exact hR1
      have hR2 : iv_R D M2 N1 (va_up V 33 (nI (nw + 1))) (va_up (va_up (va_up A 34 (upd (A 34) nw (nI q))) 35 (upd (A 35) nw (a 2))) 36 (upd (A 36) nw (-1))) S := by
        unfold iv_R
        rw [en, er]
        exact hR2
      have hF2 : mw_fr (mq_P (N1 199) (fun k => N1 (200 + k))) M1 M2 := by
        rw [en, er]
        exact hF2
      have e35 : (va_up (va_up (va_up A 34 (upd (A 34) nw (nI q))) 35 (upd (A 35) nw (a 2))) 36 (upd (A 36) nw (-1))) 35 = upd (A 35) nw (a 2) := by rw [va_up_ne _ _ (by decide), va_up_self]
      have eV0 : (va_up V 33 (nI (nw + 1))) 0 = V 0 := va_up_ne _ _ (by decide)
      have eV1 : (va_up V 33 (nI (nw + 1))) 1 = V 1 := va_up_ne _ _ (by decide)
      have eV3 : (va_up V 33 (nI (nw + 1))) 3 = V 3 := va_up_ne _ _ (by decide)
      have eV4 : (va_up V 33 (nI (nw + 1))) 4 = V 4 := va_up_ne _ _ (by decide)
      have eV9 : (va_up V 33 (nI (nw + 1))) 9 = V 9 := va_up_ne _ _ (by decide)
      have eV11 : (va_up V 33 (nI (nw + 1))) 11 = V 11 := va_up_ne _ _ (by decide)
      have eV12 : (va_up V 33 (nI (nw + 1))) 12 = V 12 := va_up_ne _ _ (by decide)
      have eV14 : (va_up V 33 (nI (nw + 1))) 14 = V 14 := va_up_ne _ _ (by decide)
      have eV15 : (va_up V 33 (nI (nw + 1))) 15 = V 15 := va_up_ne _ _ (by decide)
      have eV22 : (va_up V 33 (nI (nw + 1))) 22 = V 22 := va_up_ne _ _ (by decide)
      have eV23 : (va_up V 33 (nI (nw + 1))) 23 = V 23 := va_up_ne _ _ (by decide)
      have eV41 : (va_up V 33 (nI (nw + 1))) 41 = V 41 := va_up_ne _ _ (by decide)
      have eV43 : (va_up V 33 (nI (nw + 1))) 43 = V 43 := va_up_ne _ _ (by decide)
      have eV45 : (va_up V 33 (nI (nw + 1))) 45 = V 45 := va_up_ne _ _ (by decide)
      have eA2 : (va_up (va_up (va_up A 34 (upd (A 34) nw (nI q))) 35 (upd (A 35) nw (a 2))) 36 (upd (A 36) nw (-1))) 2 = A 2 := by rw [va_up_ne _ _ (by decide), va_up_ne _ _ (by decide), va_up_ne _ _ (by decide)]
      have eA5 : (va_up (va_up (va_up A 34 (upd (A 34) nw (nI q))) 35 (upd (A 35) nw (a 2))) 36 (upd (A 36) nw (-1))) 5 = A 5 := by rw [va_up_ne _ _ (by decide), va_up_ne _ _ (by decide), va_up_ne _ _ (by decide)]
      have eA6 : (va_up (va_up (va_up A 34 (upd (A 34) nw (nI q))) 35 (upd (A 35) nw (a 2))) 36 (upd (A 36) nw (-1))) 6 = A 6 := by rw [va_up_ne _ _ (by decide), va_up_ne _ _ (by decide), va_up_ne _ _ (by decide)]
      have eA7 : (va_up (va_up (va_up A 34 (upd (A 34) nw (nI q))) 35 (upd (A 35) nw (a 2))) 36 (upd (A 36) nw (-1))) 7 = A 7 := by rw [va_up_ne _ _ (by decide), va_up_ne _ _ (by decide), va_up_ne _ _ (by decide)]
      have eA10 : (va_up (va_up (va_up A 34 (upd (A 34) nw (nI q))) 35 (upd (A 35) nw (a 2))) 36 (upd (A 36) nw (-1))) 10 = A 10 := by rw [va_up_ne _ _ (by decide), va_up_ne _ _ (by decide), va_up_ne _ _ (by decide)]
      have eA16 : (va_up (va_up (va_up A 34 (upd (A 34) nw (nI q))) 35 (upd (A 35) nw (a 2))) 36 (upd (A 36) nw (-1))) 16 = A 16 := by rw [va_up_ne _ _ (by decide), va_up_ne _ _ (by decide), va_up_ne _ _ (by decide)]
      have eA17 : (va_up (va_up (va_up A 34 (upd (A 34) nw (nI q))) 35 (upd (A 35) nw (a 2))) 36 (upd (A 36) nw (-1))) 17 = A 17 := by rw [va_up_ne _ _ (by decide), va_up_ne _ _ (by decide), va_up_ne _ _ (by decide)]
      have eA18 : (va_up (va_up (va_up A 34 (upd (A 34) nw (nI q))) 35 (upd (A 35) nw (a 2))) 36 (upd (A 36) nw (-1))) 18 = A 18 := by rw [va_up_ne _ _ (by decide), va_up_ne _ _ (by decide), va_up_ne _ _ (by decide)]
      have eA19 : (va_up (va_up (va_up A 34 (upd (A 34) nw (nI q))) 35 (upd (A 35) nw (a 2))) 36 (upd (A 36) nw (-1))) 19 = A 19 := by rw [va_up_ne _ _ (by decide), va_up_ne _ _ (by decide), va_up_ne _ _ (by decide)]
      have eA20 : (va_up (va_up (va_up A 34 (upd (A 34) nw (nI q))) 35 (upd (A 35) nw (a 2))) 36 (upd (A 36) nw (-1))) 20 = A 20 := by rw [va_up_ne _ _ (by decide), va_up_ne _ _ (by decide), va_up_ne _ _ (by decide)]
      have eA21 : (va_up (va_up (va_up A 34 (upd (A 34) nw (nI q))) 35 (upd (A 35) nw (a 2))) 36 (upd (A 36) nw (-1))) 21 = A 21 := by rw [va_up_ne _ _ (by decide), va_up_ne _ _ (by decide), va_up_ne _ _ (by decide)]
      have eA24 : (va_up (va_up (va_up A 34 (upd (A 34) nw (nI q))) 35 (upd (A 35) nw (a 2))) 36 (upd (A 36) nw (-1))) 24 = A 24 := by rw [va_up_ne _ _ (by decide), va_up_ne _ _ (by decide), va_up_ne _ _ (by decide)]
      have eA25 : (va_up (va_up (va_up A 34 (upd (A 34) nw (nI q))) 35 (upd (A 35) nw (a 2))) 36 (upd (A 36) nw (-1))) 25 = A 25 := by rw [va_up_ne _ _ (by decide), va_up_ne _ _ (by decide), va_up_ne _ _ (by decide)]
      have eA26 : (va_up (va_up (va_up A 34 (upd (A 34) nw (nI q))) 35 (upd (A 35) nw (a 2))) 36 (upd (A 36) nw (-1))) 26 = A 26 := by rw [va_up_ne _ _ (by decide), va_up_ne _ _ (by decide), va_up_ne _ _ (by decide)]
      have eA27 : (va_up (va_up (va_up A 34 (upd (A 34) nw (nI q))) 35 (upd (A 35) nw (a 2))) 36 (upd (A 36) nw (-1))) 27 = A 27 := by rw [va_up_ne _ _ (by decide), va_up_ne _ _ (by decide), va_up_ne _ _ (by decide)]
      have eA28 : (va_up (va_up (va_up A 34 (upd (A 34) nw (nI q))) 35 (upd (A 35) nw (a 2))) 36 (upd (A 36) nw (-1))) 28 = A 28 := by rw [va_up_ne _ _ (by decide), va_up_ne _ _ (by decide), va_up_ne _ _ (by decide)]
      have eA29 : (va_up (va_up (va_up A 34 (upd (A 34) nw (nI q))) 35 (upd (A 35) nw (a 2))) 36 (upd (A 36) nw (-1))) 29 = A 29 := by rw [va_up_ne _ _ (by decide), va_up_ne _ _ (by decide), va_up_ne _ _ (by decide)]
      have eA30 : (va_up (va_up (va_up A 34 (upd (A 34) nw (nI q))) 35 (upd (A 35) nw (a 2))) 36 (upd (A 36) nw (-1))) 30 = A 30 := by rw [va_up_ne _ _ (by decide), va_up_ne _ _ (by decide), va_up_ne _ _ (by decide)]
      have eA31 : (va_up (va_up (va_up A 34 (upd (A 34) nw (nI q))) 35 (upd (A 35) nw (a 2))) 36 (upd (A 36) nw (-1))) 31 = A 31 := by rw [va_up_ne _ _ (by decide), va_up_ne _ _ (by decide), va_up_ne _ _ (by decide)]
      have eA32 : (va_up (va_up (va_up A 34 (upd (A 34) nw (nI q))) 35 (upd (A 35) nw (a 2))) 36 (upd (A 36) nw (-1))) 32 = A 32 := by rw [va_up_ne _ _ (by decide), va_up_ne _ _ (by decide), va_up_ne _ _ (by decide)]
      have eA37 : (va_up (va_up (va_up A 34 (upd (A 34) nw (nI q))) 35 (upd (A 35) nw (a 2))) 36 (upd (A 36) nw (-1))) 37 = A 37 := by rw [va_up_ne _ _ (by decide), va_up_ne _ _ (by decide), va_up_ne _ _ (by decide)]
      have eA38 : (va_up (va_up (va_up A 34 (upd (A 34) nw (nI q))) 35 (upd (A 35) nw (a 2))) 36 (upd (A 36) nw (-1))) 38 = A 38 := by rw [va_up_ne _ _ (by decide), va_up_ne _ _ (by decide), va_up_ne _ _ (by decide)]
      have eA39 : (va_up (va_up (va_up A 34 (upd (A 34) nw (nI q))) 35 (upd (A 35) nw (a 2))) 36 (upd (A 36) nw (-1))) 39 = A 39 := by rw [va_up_ne _ _ (by decide), va_up_ne _ _ (by decide), va_up_ne _ _ (by decide)]
      have eA40 : (va_up (va_up (va_up A 34 (upd (A 34) nw (nI q))) 35 (upd (A 35) nw (a 2))) 36 (upd (A 36) nw (-1))) 40 = A 40 := by rw [va_up_ne _ _ (by decide), va_up_ne _ _ (by decide), va_up_ne _ _ (by decide)]
      have eA42 : (va_up (va_up (va_up A 34 (upd (A 34) nw (nI q))) 35 (upd (A 35) nw (a 2))) 36 (upd (A 36) nw (-1))) 42 = A 42 := by rw [va_up_ne _ _ (by decide), va_up_ne _ _ (by decide), va_up_ne _ _ (by decide)]
      have eA44 : (va_up (va_up (va_up A 34 (upd (A 34) nw (nI q))) 35 (upd (A 35) nw (a 2))) 36 (upd (A 36) nw (-1))) 44 = A 44 := by rw [va_up_ne _ _ (by decide), va_up_ne _ _ (by decide), va_up_ne _ _ (by decide)]
      have m1 : iv_O D M1 N1 o1 ∧ iv_X M1 N1 (((va_up V 33 (nI (nw + 1)))) 22) cl ns ∧ iv_B D M1 N1 k (((va_up (va_up (va_up A 34 (upd (A 34) nw (nI q))) 35 (upd (A 35) nw (a 2))) 36 (upd (A 36) nw (-1)))) 2) ∧ iv_I D M1 N1 ic Ln Dn G ∧ iv_K D M1 N1 lf kc ka pr f4 ∧ iv_E D M1 N1 mk (mq_es ((va_up (va_up (va_up A 34 (upd (A 34) nw (nI q))) 35 (upd (A 35) nw (a 2))) 36 (upd (A 36) nw (-1)))) mk) (mq_EF ((va_up (va_up (va_up A 34 (upd (A 34) nw (nI q))) 35 (upd (A 35) nw (a 2))) 36 (upd (A 36) nw (-1))))) ent ∧ iv_C M1 (mq_EF ((va_up (va_up (va_up A 34 (upd (A 34) nw (nI q))) 35 (upd (A 35) nw (a 2))) 36 (upd (A 36) nw (-1))))) CF ent ca ce ns ∧ iv_A D M1 N1 na (((va_up (va_up (va_up A 34 (upd (A 34) nw (nI q))) 35 (upd (A 35) nw (a 2))) 36 (upd (A 36) nw (-1)))) 24) (((va_up (va_up (va_up A 34 (upd (A 34) nw (nI q))) 35 (upd (A 35) nw (a 2))) 36 (upd (A 36) nw (-1)))) 25) (((va_up (va_up (va_up A 34 (upd (A 34) nw (nI q))) 35 (upd (A 35) nw (a 2))) 36 (upd (A 36) nw (-1)))) 32) fk km (fun a9 => mq_ss ((va_up (va_up (va_up A 34 (upd (A 34) nw (nI q))) 35 (upd (A 35) nw (a 2))) 36 (upd (A 36) nw (-1)))) a9 mk) ca ∧ iv_W D M1 N1 na ((nw + 1)) ((va_up wa nw q)) (((va_up (va_up (va_up A 34 (upd (A 34) nw (nI q))) 35 (upd (A 35) nw (a 2))) 36 (upd (A 36) nw (-1)))) 35) ((va_up told nw false)) ((va_up wf nw 0)) ((va_up wm nw 0)) ((va_up wg nw 0)) ((va_up ts nw [])) ca ∧ iv_L D M1 N1 ls lk lm (((va_up V 33 (nI (nw + 1)))) 45) ca ∧ iv_U D M1 N1 ∧ iv_N D M1 N1 ∧ iv_D M1 N1 ∧ iv_T D M1 N1 ws LW := by
        rw [eV22, eV45, eA2, eA24, eA25, eA32, mq_es_c eA16, mq_EF_c eA17 eA18 eA19 eA20 eA21, mq_ssE eA26]
        exact ⟨hO1, hX.fr (N1 := N1) hO hF (fun (q : 0 = 37 ∨ 0 = 38) => by omega) (fun t h9 => nx t (by omega)), hB.fr (N1 := N1) hO hF (fun t h8 h9 (q : t = 37 ∨ t = 38) => by omega) (fun t h8 h9 => nx t (by omega)), hI.fr (N1 := N1) hO hF (fun t h8 h9 (q : t = 37 ∨ t = 38) => by omega) (fun t h8 h9 => nx t (by omega)), hK.fr (N1 := N1) hO hF (fun t h8 h9 (q : t = 37 ∨ t = 38) => by omega) (fun t h8 h9 => nx t (by omega)), hE.fr (N1 := N1) hO hF z1 hk (fun t h8 h9 (q : t = 37 ∨ t = 38) => by omega) (fun t h8 h9 => nx t (by omega)), hC.fr hF hk, hA.fr (N1 := N1) hO hF z1 (fun t h9 (q : t = 37 ∨ t = 38) => by omega) (fun t h9 => nx t (by omega)) b8, ⟨by
              rw [nx 37 (by omega), nb4, List.range_succ, List.map_append, List.map_cons, List.map_nil, nb0, iv_mp (g := fun w => N (130 + w)) (fun w hw => nx (130 + w) (by omega))]
              exact halw, fun w hw => by
              by_cases hwn : w = nw
              · subst hwn
                rw [va_up_self, e35, ux_s, nb0, nb1, nb2, nb3, va_up_self, va_up_self, va_up_self, va_up_self, va_up_self]
                rw [nx (100 + q) (by omega)]
                exact ⟨hq, wy, wd, hal0⟩
              · have hw2 : w < nw := by omega
                obtain ⟨x1, x2, x3, x4⟩ := hW.2 w hw2
                rw [e35, ux_n _ _ hwn, nx (130 + w) (by omega), nx (140 + w) (by omega), nx (150 + w) (by omega), nx (160 + w) (by omega), va_up_ne _ _ hwn, va_up_ne _ _ hwn, va_up_ne _ _ hwn, va_up_ne _ _ hwn, va_up_ne _ _ hwn, va_up_ne _ _ hwn, nx (100 + wa w) (by omega)]
                exact ⟨x1, iv_at hO hF x2 (fun (q : 130 + w = 37 ∨ 130 + w = 38) => by omega), iv_at hO hF x3 (fun (q : 140 + w = 37 ∨ 140 + w = 38) => by omega), iv_al hO hF z1 x4 (fun (q : 150 + w = 37 ∨ 150 + w = 38) => by omega) (fun (q : 160 + w = 37 ∨ 160 + w = 38) => by omega)⟩⟩, hL.fr (N1 := N1) hO hF z1 (fun t h8 h9 (q : t = 37 ∨ t = 38) => by omega) (fun t h8 h9 => nx t (by omega)), hU.fr (N1 := N1) hO hF z1 (fun t h8 h9 (q : t = 37 ∨ t = 38) => by omega) (fun t h8 h9 => nx t (by omega)), hN.fr (N1 := N1) hO hF z1 (fun t h8 h9 (q : t = 37 ∨ t = 38) => by omega) (fun t h8 h9 => nx t (by omega)), hD.fr (N1 := N1) hO hF (fun (q : 50 = 37 ∨ 50 = 38) => by omega) (nx 50 (by omega)), hT.fr (N1 := N1) hO hF (fun t h8 h9 (q : t = 37 ∨ t = 38) => by omega) (fun t h8 h9 => nx t (by omega))⟩
      obtain ⟨mhO, mhX, mhB, mhI, mhK, mhE, mhC, mhA, mhW, mhL, mhU, mhN, mhD, mhT⟩ := iv_frR hR1 hF2 z2 b8 (by omega) m1
      exact ⟨N1, o1, (va_up V 33 (nI (nw + 1))), (va_up (va_up (va_up A 34 (upd (A 34) nw (nI q))) 35 (upd (A 35) nw (a 2))) 36 (upd (A 36) nw (-1))), S, k, ic, Ln, Dn, G, lf, cl, kc, ka, pr, f4, g4, gm, mk, ent, ns, ca, ce, CF, na, fk, km, (nw + 1), (va_up wa nw q), (va_up told nw false), (va_up wf nw 0), (va_up wm nw 0), (va_up wg nw 0), (va_up ts nw []), ls, lk, lm, ws, LW, nx 0 (by omega), nx 199 (by omega), mhO, mhX, mhB, mhI, mhK, mhE, mhC, mhA, mhW, mhL, mhU, mhN, mhD, mhT, hR2, ⟨eV0.trans v0, eV1.trans v1, eV3.trans v3, eV9.trans v9, eV11.trans v11, eV12.trans v12, eV14.trans v14, eV15.trans v15, eV23.trans v23, va_up_self _ _ _, eV41.trans v41, eV43.trans v43⟩, ⟨b1, by omega, b3, by omega, b5, by omega, b7, b8, by omega, b10, b11, by rw [mq_es_c eA16]; exact b12⟩, by rw [eA2]; exact p3, by rw [eA5, eA6, eA7, eV4]; exact p4, by rw [eA10]; exact p5, by rw [eA17, eA20]; exact p6, p7, p8.c eA26 eA27 eA28 eA29 eA30 eA31, fun w hw => by
              rw [va_up_ne _ _ (show (34 : Nat) ≠ 36 by decide), va_up_ne _ _ (show (34 : Nat) ≠ 35 by decide), va_up_self, va_up_self, eA37, eA38, eA39, eA40]
              by_cases hwn : w = nw
              · subst hwn
                rw [ux_s, ux_s, va_up_self, va_up_self, va_up_self, va_up_self, va_up_self, va_up_self]
                exact ⟨rfl, by omega, by omega, (fun n hn => absurd hn List.not_mem_nil), fun _ => rfl, fun h => by cases h⟩
              · rw [ux_n _ _ hwn, ux_n _ _ hwn, va_up_ne _ _ hwn, va_up_ne _ _ hwn, va_up_ne _ _ hwn, va_up_ne _ _ hwn, va_up_ne _ _ hwn, va_up_ne _ _ hwn]
                exact p9 w (by omega), by rw [eA42, eA44]; exact p10, p11, by rw [eA17]; exact p12⟩
