/-! friends -/
set_option maxHeartbeats 4000000 in
set_option maxRecDepth 100000 in
theorem iv_friends (l : Launch) {D : va_G} {z x mm j : Nat} {M : mw_M} (a : Nat → Int32) (hj : j < 512) (h : iv D x mm j M) : iv_go l D z x mm yy_Xi_friends bb_Xi_friends 1 (Option.some Jvm.ClassFile.FieldType.int) yy_Mo_friends bb_Mo_friends 1 (Option.some Jvm.ClassFile.FieldType.int) [] M (iv D x mm (j + 1)) := by
  have hh := h
  obtain ⟨N, o, V, A, S, k, ic, Ln, Dn, G, lf, cl, kc, ka, pr, f4, g4, gm, mk, ent, ns, ca, ce, CF, na, fk, km, nw, wa, told, wf, wm, wg, ts, ls, lk, lm, ws, LW, e0, e1, hO, hX, hB, hI, hK, hE, hC, hA, hW, hL, hU, hN, hD, hT, hR, pV, pB, p3, p4, p5, p6, p7, p8, p9, p10, p11, p12⟩ := h
  subst e0 e1
  obtain ⟨v0, v1, v3, v9, v11, v12, v14, v15, v23, v33, v41, v43⟩ := pV
  obtain ⟨b1, b2, b3, b4, b5, b6, b7, b8, b9, b10, b11, b12⟩ := pB
  exact iv_same hh (cc_Xi_friends l D z M (N 0) (N 1) (N 3) (N 30) (N 32) (N 35) (N 37) (N 40) (N 50) (N 51) (N 46) (N 43) (V 22) (nI cl) (nI ns) _ _ _ _ hX hL.1) (cc_Mo_friends l D z M (N 199) _ (V 45) hR.m (mq_vi rfl rfl)) (by decide) (by decide) (by decide) (by decide) (by decide) (by decide)
set_option maxHeartbeats 4000000 in
set_option maxRecDepth 100000 in
theorem iv_key (l : Launch) {D : va_G} {z x mm j : Nat} {M : mw_M} (a : Nat → Int32) (hj : j < 512) (h : iv D x mm j M) : iv_go l D z x mm yy_Xi_key bb_Xi_key 2 (Option.some Jvm.ClassFile.FieldType.int) yy_Mo_key bb_Mo_key 2 (Option.some Jvm.ClassFile.FieldType.int) [.int (a 1)] M (iv D x mm (j + 1)) := by
  have hh := h
  obtain ⟨N, o, V, A, S, k, ic, Ln, Dn, G, lf, cl, kc, ka, pr, f4, g4, gm, mk, ent, ns, ca, ce, CF, na, fk, km, nw, wa, told, wf, wm, wg, ts, ls, lk, lm, ws, LW, e0, e1, hO, hX, hB, hI, hK, hE, hC, hA, hW, hL, hU, hN, hD, hT, hR, pV, pB, p3, p4, p5, p6, p7, p8, p9, p10, p11, p12⟩ := h
  subst e0 e1
  obtain ⟨v0, v1, v3, v9, v11, v12, v14, v15, v23, v33, v41, v43⟩ := pV
  obtain ⟨b1, b2, b3, b4, b5, b6, b7, b8, b9, b10, b11, b12⟩ := pB
  have hq : (if xi_has lm (a 1) = true then A 44 (a 1).toNatClampNeg else -1001) = (if xi_has lm (a 1) = true then nI lk + a 1 else -1001) := by
    rcases iv_hs (k := lm) (a 1) with e | ⟨q, hq, e⟩
    · rw [e, if_neg (by decide), if_neg (by decide)]
    · rw [e, xi_hasN hq (by omega), if_pos rfl, if_pos rfl, nI_clamp (by omega), p10.2.1 q hq, nI_add]
  have hc := cc_Mo_key l D z M (N 199) _ (N 244) lm (A 44) (a 1) hR.m (mq_vi rfl v43) (mq_va rfl) (hR.w 44 rfl (by decide)) b11
  rw [hq] at hc
  exact iv_same hh (cc_Xi_key l D z M (N 0) (N 1) (N 3) (N 30) (N 32) (N 35) (N 37) (N 40) (N 50) (N 51) (N 46) (N 43) (V 22) (nI cl) (nI ns) (N 41) lk lm (V 45) (a 1) hX hL.1 (by have := p10.1; omega)) hc (by decide) (by decide) (by decide) (by decide) (by decide) (by decide)
