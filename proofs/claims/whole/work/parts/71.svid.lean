/-! svid -/
set_option maxHeartbeats 4000000 in
set_option maxRecDepth 100000 in
theorem iv_svid (l : Launch) {D : va_G} {z x mm j : Nat} {M : mw_M} (a : Nat → Int32) (hj : j < 512) (h : iv D x mm j M) : iv_go l D z x mm yy_Xi_svid bb_Xi_svid 4 (Option.some Jvm.ClassFile.FieldType.int) yy_Mo_svid bb_Mo_svid 3 (Option.some Jvm.ClassFile.FieldType.int) [.int (a 1), .int (a 2)] M (iv D x mm (j + 1)) := by
  have hh := h
  obtain ⟨N, o, V, A, S, k, ic, Ln, Dn, G, lf, cl, kc, ka, pr, f4, g4, gm, mk, ent, ns, ca, ce, CF, na, fk, km, nw, wa, told, wf, wm, wg, ts, ls, lk, lm, ws, LW, e0, e1, hO, hX, hB, hI, hK, hE, hC, hA, hW, hL, hU, hN, hD, hT, hR, pV, pB, p3, p4, p5, p6, p7, p8, p9, p10, p11, p12⟩ := h
  subst e0 e1
  obtain ⟨v0, v1, v3, v9, v11, v12, v14, v15, v23, v33, v41, v43⟩ := pV
  obtain ⟨b1, b2, b3, b4, b5, b6, b7, b8, b9, b10, b11, b12⟩ := pB
  rcases iv_hs (k := ls.length) (a 1) with hm | ⟨q, hq, e⟩
  · obtain ⟨mo, wc⟩ := hL.2.cell
    rw [List.length_map] at wc
    exact iv_same hh (cc_Xi_svid_m l D z M (N 0) (N 1) (N 3) (N 30) (N 32) (N 35) (N 37) (N 40) (N 50) (N 51) (N 46) (N 43) (V 22) (nI cl) (nI ns) (N 41) (N 42) ls.length _ _ _ mo (a 1) (a 2) hX hL.1 wc (by omega) hm) (cc_Mo_svid_m l D z M (N 199) _ ls.length (a 1) (a 2) hR.m (mq_vi rfl v41) (by omega) hm) (by decide) (by decide) (by decide) (by decide) (by decide) (by decide)
  · rw [e]
    obtain ⟨n, hn⟩ : ∃ n : Nat, ls[q]? = some n := ⟨_, List.getElem?_eq_getElem hq⟩
    obtain ⟨⟨n1, n2⟩, c0, c1, c2, c3, c4⟩ := p10.2.2 q n hn
    rcases iv_hs (k := 5) (a 2) with hm | ⟨w, hw, e2⟩
    · exact iv_same hh (cc_Xi_svid_o l D z M (N 0) (N 1) (N 3) (N 30) (N 32) (N 35) (N 37) (N 40) (N 50) (N 51) (N 46) (N 43) (V 22) (nI cl) (nI ns) (N 41) (N 42) q n _ _ _ ls (mq_EF A) CF ent ca ce (a 2) hX hL.1 hL.2 hn (hC n n1 n2) hm) (cc_Mo_svid_o l D z M (N 199) (fun k => N (200 + k)) V A S q ls.length (a 2) hR v41 b10 hq hm) (by decide) (by decide) (by decide) (by decide) (by decide) (by decide)
    · rw [e2]
      have hc := cc_Mo_svid l D z M (N 199) (fun k => N (200 + k)) V A S q ls.length w hR v41 b10 hq hw
      have ha : A 42 (5 * q + w) = (if w = 0 then mq_EF A (ce n) 0 else if w = 1 then nI n else if w = 2 then CF n 2 else if w = 3 then CF n 3 else CF n 4) := by
        have hw5 : w = 0 ∨ w = 1 ∨ w = 2 ∨ w = 3 ∨ w = 4 := by omega
        rcases hw5 with rfl | rfl | rfl | rfl | rfl
        · exact c0
        · exact c1
        · exact c2
        · exact c3
        · exact c4
      rw [ha] at hc
      exact iv_same hh (cc_Xi_svid_y l D z M (N 0) (N 1) (N 3) (N 30) (N 32) (N 35) (N 37) (N 40) (N 50) (N 51) (N 46) (N 43) (V 22) (nI cl) (nI ns) (N 41) (N 42) q n _ _ _ ls (mq_EF A) CF ent ca ce w hX hL.1 hL.2 hn (hC n n1 n2) hw) hc (by decide) (by decide) (by decide) (by decide) (by decide) (by decide)
