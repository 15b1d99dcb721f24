/-! the invariant, the class's side: addresses by tags -/
def iv_O (D : va_G) (M : mw_M) (N o : Nat → Nat) : Prop := M (D.2 200 0) = none ∧ ∀ t : Nat, N t = D.2 200 0 ∨ (o (N t) = t ∧ M (N t) ≠ none)
def iv_F (T : Nat → Prop) (N : Nat → Nat) (q : Nat) : Prop := ∃ t : Nat, T t ∧ q = N t
theorem iv_O.inj {D : va_G} {M : mw_M} {N o : Nat → Nat} {s t : Nat} (h : iv_O D M N o) (w : M (N s) ≠ none) (q : N s = N t) : s = t := by
  rcases h.2 s with h1 | ⟨h1, -⟩
  · exact absurd (by rw [h1]; exact h.1) w
  · rcases h.2 t with h2 | ⟨h2, -⟩
    · exact absurd (by rw [q, h2]; exact h.1) w
    · exact h1.symm.trans ((congrArg o q).trans h2)
theorem iv_O.np {D : va_G} {M : mw_M} {N o : Nat → Nat} {T : Nat → Prop} {t : Nat} (h : iv_O D M N o) (w : M (N t) ≠ none) (hT : ¬ T t) : ¬ iv_F T N (N t) := fun ⟨s, hs, q⟩ => hT ((h.inj w q).symm ▸ hs)
theorem iv_nn {M : mw_M} {q : Nat} {e : va_E} (w : M q = some e) : M q ≠ none := by rw [w]; exact fun h => by cases h
section IVF
variable {D : va_G} {M M1 : mw_M} {N N1 o : Nat → Nat} {T : Nat → Prop}
theorem iv_at {t : Nat} {e : va_E} (h : iv_O D M N o) (hF : mw_fr (iv_F T N) M M1) (w : M (N t) = some e) (hT : ¬ T t) : M1 (N t) = some e := hF.at w (h.np (iv_nn w) hT)
theorem iv_al {a b : Nat} {L : List Nat} (h : iv_O D M N o) (hF : mw_fr (iv_F T N) M M1) (z1 : M1 (D.2 200 0) = none) (ha : al_at D M (N a) (N b) L) (hTa : ¬ T a) (hTb : ¬ T b) : al_at D M1 (N a) (N b) L := by
  obtain ⟨mo, w⟩ := ha.cell
  exact ha.fr z1 hF (h.np (iv_nn w) hTa) (fun w2 => h.np w2 hTb)
def iv_kd (M : mw_M) (q : Nat) : Prop := ∀ (ci : Nat) (vs : List Value), M q = some (.inr (ci, vs)) → ci ≠ 9 ∧ ci ≠ 11
theorem kd_o {q c : Nat} {fs : List Value} (w : M q = some (.inr (c, fs))) (h : c ≠ 9 ∧ c ≠ 11) : iv_kd M q := fun ci vs w2 => by
  rw [w] at w2
  cases w2
  exact h
theorem kd_r {q : Nat} {e : ClassId × vp_A} (w : M q = some (.inl e)) : iv_kd M q := fun ci vs w2 => by
  rw [w] at w2
  cases w2
theorem kd_a {a b : Nat} {L : List Nat} (h : al_at D M a b L) : iv_kd M a := by
  obtain ⟨mo, w⟩ := h.cell
  exact kd_o w (by decide)
theorem kd_b {a b : Nat} {L : List Nat} (h : al_at D M a b L) : iv_kd M b := fun ci vs w2 => absurd rfl (h.nr w2)
theorem iv_ct {EF CF : Nat → Nat → Int32} {ent ca ce : Nat → Nat} {n : Nat} (h : ct_is M EF CF ent ca ce n) (hF : mw_fr (iv_F T N) M M1) (hk : ∀ t : Nat, T t → iv_kd M (N t)) : ct_is M1 EF CF ent ca ce n := h.fr hF (fun q ci vs w hc ⟨t, ht, e⟩ => by
  subst e
  have := hk t ht ci vs w
  omega)
theorem iv_en {q : Nat} {vs : List Value} (w : M q = some (.inr (9, vs))) (hF : mw_fr (iv_F T N) M M1) (hk : ∀ t : Nat, T t → iv_kd M (N t)) : M1 q = some (.inr (9, vs)) := hF.at w (fun ⟨t, ht, e⟩ => by
  subst e
  exact (hk t ht 9 vs w).1 rfl)
def iv_X (M : mw_M) (N : Nat → Nat) (fo : Int32) (cl ns : Nat) : Prop := M (N 0) = some (.inr (0, [.ref (N 1), .ref (N 3), .ref (N 30), .ref (N 32), .ref (N 35), .ref (N 37), .ref (N 40), .ref (N 50), .ref (N 51), .int fo, .int (nI cl), .int (nI ns), .ref (N 46), .ref (N 43)]))
def iv_B (D : va_G) (M : mw_M) (N : Nat → Nat) (k : Nat) (f : Nat → Int32) : Prop := M (N 1) = some (.inr (1, [.ref (N 2), .int (nI k)])) ∧ M (N 2) = some (.inl (D.1 100, 100, .inl f))
def iv_I (D : va_G) (M : mw_M) (N : Nat → Nat) (ic : Nat) (Ln Dn : Nat → Nat) (G : Nat → Nat → Nat) : Prop := id_at D M (N 3) (N 4) (N 5) (N 6) ic Ln Dn G ∧ ∀ j : Nat, j < 12 → N (10 + j) = N 4 + 1 + j
def iv_K (D : va_G) (M : mw_M) (N : Nat → Nat) (lf kc ka : Nat) (pr : Int32) (f4 : Nat → Int32) : Prop := M (N 30) = some (.inr (8, [.int (nI lf), .ref (N 31), .int (nI kc), .int (nI ka), .int pr])) ∧ M (N 31) = some (.inl (D.1 100, 4, .inl f4))
def iv_E (D : va_G) (M : mw_M) (N : Nat → Nat) (mk : Nat) (es : List Nat) (EF : Nat → Nat → Int32) (ent : Nat → Nat) : Prop := es_at D M (N 32) (N 33) (N 34) mk es EF ent ∧ ∀ e : Nat, e < mk → M (ent e) = some (.inr (9, en_l (EF e)))
def iv_C (M : mw_M) (EF CF : Nat → Nat → Int32) (ent ca ce : Nat → Nat) (ns : Nat) : Prop := ∀ n : Nat, 0 < n → n ≤ ns → ct_is M EF CF ent ca ce n
def iv_A (D : va_G) (M : mw_M) (N : Nat → Nat) (na : Nat) (AI AS AG : Nat → Int32) (fk km : Nat → Nat) (ss : Nat → List Nat) (ca : Nat → Nat) : Prop := al_at D M (N 35) (N 36) ((List.range na).map (fun a => N (100 + a))) ∧ ∀ a : Nat, a < na → M (N (100 + a)) = some (.inr (10, [.int (AI a), .ref (N (110 + a)), .int (AS a), .int (nI (fk a)), .int (nI (fk a + km a)), .int (AG a)])) ∧ al_at D M (N (110 + a)) (N (120 + a)) ((ss a).map ca)
def iv_W (D : va_G) (M : mw_M) (N : Nat → Nat) (na nw : Nat) (wa : Nat → Nat) (WS : Nat → Int32) (told : Nat → Bool) (wf wm : Nat → Nat) (wg : Nat → Int32) (ts : Nat → List Nat) (ca : Nat → Nat) : Prop := al_at D M (N 37) (N 38) ((List.range nw).map (fun w => N (130 + w))) ∧ ∀ w : Nat, w < nw → wa w < na ∧ M (N (130 + w)) = some (.inr (12, [.ref (N (100 + wa w)), .int (WS w), .ref (N (140 + w)), .int (zI (told w))])) ∧ M (N (140 + w)) = some (.inr (5, [.ref (N (150 + w)), .int (nI (wf w)), .int (nI (wf w + wm w)), .int (wg w)])) ∧ al_at D M (N (150 + w)) (N (160 + w)) ((ts w).map ca)
def iv_L (D : va_G) (M : mw_M) (N : Nat → Nat) (ls : List Nat) (lk lm : Nat) (lg : Int32) (ca : Nat → Nat) : Prop := M (N 40) = some (.inr (5, [.ref (N 41), .int (nI lk), .int (nI (lk + lm)), .int lg])) ∧ al_at D M (N 41) (N 42) (ls.map ca)
def iv_U (D : va_G) (M : mw_M) (N : Nat → Nat) : Prop := ∃ (u1 u2 u3 : Int32) (L0 : List Nat), M (N 43) = some (.inr (5, [.ref (N 44), .int u1, .int u2, .int u3])) ∧ al_at D M (N 44) (N 45) L0
def iv_N (D : va_G) (M : mw_M) (N : Nat → Nat) : Prop := ∃ L0 : List Nat, al_at D M (N 46) (N 47) L0
def iv_D (M : mw_M) (N : Nat → Nat) : Prop := ∃ (b : Nat) (pl er v3 v4 v5 v6 v7 v8 : Int32), M (N 50) = some (.inr (6, [.ref b, .int pl, .int er, .int v3, .int v4, .int v5, .int v6, .int v7, .int v8]))
def iv_T (D : va_G) (M : mw_M) (N : Nat → Nat) (ws : Int32) (LW : List Nat) : Prop := M (N 51) = some (.inr (7, [.ref (N 52), .int ws])) ∧ bw_at D M (N 52) (N 53) LW
theorem iv_O.fr {o1 : Nat → Nat} (h : iv_O D M N o) (hF : mw_fr (iv_F T N) M M1) (z1 : M1 (D.2 200 0) = none) (hn : ∀ t : Nat, N1 t = N t ∨ N1 t = D.2 200 0 ∨ (M (N1 t) = none ∧ M1 (N1 t) ≠ none ∧ o1 (N1 t) = t)) (ho : ∀ q : Nat, M q ≠ none → o1 q = o q) : iv_O D M1 N1 o1 := ⟨z1, fun t => by
  rcases hn t with e | e | ⟨-, e1, e2⟩
  · rw [e]
    exact (h.2 t).imp id (fun q => ⟨(ho _ q.2).trans q.1, hF.2 _ q.2⟩)
  · exact Or.inl e
  · exact Or.inr ⟨e2, e1⟩⟩
theorem iv_X.fr {fo : Int32} {cl ns : Nat} (h : iv_X M N fo cl ns) (hO : iv_O D M N o) (hF : mw_fr (iv_F T N) M M1) (hT : ¬ T 0) (hN : ∀ t : Nat, t = 0 ∨ t = 1 ∨ t = 3 ∨ t = 30 ∨ t = 32 ∨ t = 35 ∨ t = 37 ∨ t = 40 ∨ t = 50 ∨ t = 51 ∨ t = 46 ∨ t = 43 → N1 t = N t) : iv_X M1 N1 fo cl ns := by
  unfold iv_X
  rw [hN 0 (by omega), hN 1 (by omega), hN 3 (by omega), hN 30 (by omega), hN 32 (by omega), hN 35 (by omega), hN 37 (by omega), hN 40 (by omega), hN 50 (by omega), hN 51 (by omega), hN 46 (by omega), hN 43 (by omega)]
  exact iv_at hO hF h hT
theorem iv_B.fr {k : Nat} {f : Nat → Int32} (h : iv_B D M N k f) (hO : iv_O D M N o) (hF : mw_fr (iv_F T N) M M1) (hT : ∀ t : Nat, 1 ≤ t → t ≤ 2 → ¬ T t) (hN : ∀ t : Nat, 1 ≤ t → t ≤ 2 → N1 t = N t) : iv_B D M1 N1 k f := by
  unfold iv_B
  rw [hN 1 (by omega) (by omega), hN 2 (by omega) (by omega)]
  exact ⟨iv_at hO hF h.1 (hT 1 (by omega) (by omega)), iv_at hO hF h.2 (hT 2 (by omega) (by omega))⟩
theorem iv_I.fr {ic : Nat} {Ln Dn : Nat → Nat} {G : Nat → Nat → Nat} (h : iv_I D M N ic Ln Dn G) (hO : iv_O D M N o) (hF : mw_fr (iv_F T N) M M1) (hT : ∀ t : Nat, 3 ≤ t → t ≤ 29 → ¬ T t) (hN : ∀ t : Nat, 3 ≤ t → t ≤ 29 → N1 t = N t) : iv_I D M1 N1 ic Ln Dn G := by
  unfold iv_I
  rw [hN 3 (by omega) (by omega), hN 4 (by omega) (by omega), hN 5 (by omega) (by omega), hN 6 (by omega) (by omega)]
  refine ⟨?_, fun j hj => by rw [hN (10 + j) (by omega) (by omega)]; exact h.2 j hj⟩
  obtain ⟨⟨oo, fl, fd, TT, w1, w2, w3, w4, w5, w6, w7, w8, w9⟩, hr⟩ := h
  refine ⟨oo, fl, fd, TT, iv_at hO hF w1 (hT 3 (by omega) (by omega)), iv_at hO hF w2 (hT 4 (by omega) (by omega)), w3, iv_at hO hF w4 (hT 5 (by omega) (by omega)), iv_at hO hF w5 (hT 6 (by omega) (by omega)), fun j hj => ?_, w7, w8, w9⟩
  have h6 := w6 j hj
  rw [← hr j hj] at h6 ⊢
  exact iv_at hO hF h6 (hT (10 + j) (by omega) (by omega))
theorem iv_K.fr {lf kc ka : Nat} {pr : Int32} {f4 : Nat → Int32} (h : iv_K D M N lf kc ka pr f4) (hO : iv_O D M N o) (hF : mw_fr (iv_F T N) M M1) (hT : ∀ t : Nat, 30 ≤ t → t ≤ 31 → ¬ T t) (hN : ∀ t : Nat, 30 ≤ t → t ≤ 31 → N1 t = N t) : iv_K D M1 N1 lf kc ka pr f4 := by
  unfold iv_K
  rw [hN 30 (by omega) (by omega), hN 31 (by omega) (by omega)]
  exact ⟨iv_at hO hF h.1 (hT 30 (by omega) (by omega)), iv_at hO hF h.2 (hT 31 (by omega) (by omega))⟩
theorem iv_E.fr {mk : Nat} {es : List Nat} {EF : Nat → Nat → Int32} {ent : Nat → Nat} (h : iv_E D M N mk es EF ent) (hO : iv_O D M N o) (hF : mw_fr (iv_F T N) M M1) (z1 : M1 (D.2 200 0) = none) (hk : ∀ t : Nat, T t → iv_kd M (N t)) (hT : ∀ t : Nat, 32 ≤ t → t ≤ 34 → ¬ T t) (hN : ∀ t : Nat, 32 ≤ t → t ≤ 34 → N1 t = N t) : iv_E D M1 N1 mk es EF ent := by
  unfold iv_E
  rw [hN 32 (by omega) (by omega), hN 33 (by omega) (by omega), hN 34 (by omega) (by omega)]
  exact ⟨⟨iv_at hO hF h.1.1 (hT 32 (by omega) (by omega)), iv_al hO hF z1 h.1.2.1 (hT 33 (by omega) (by omega)) (hT 34 (by omega) (by omega)), fun e he => iv_en (h.1.2.2 e he) hF hk⟩, fun e he => iv_en (h.2 e he) hF hk⟩
theorem iv_C.fr {EF CF : Nat → Nat → Int32} {ent ca ce : Nat → Nat} {ns : Nat} (h : iv_C M EF CF ent ca ce ns) (hF : mw_fr (iv_F T N) M M1) (hk : ∀ t : Nat, T t → iv_kd M (N t)) : iv_C M1 EF CF ent ca ce ns := fun n h1 h2 => iv_ct (h n h1 h2) hF hk
theorem iv_mp {f g : Nat → Nat} {n : Nat} (h : ∀ a : Nat, a < n → f a = g a) : (List.range n).map f = (List.range n).map g := List.map_congr_left (fun a ha => h a (List.mem_range.mp ha))
theorem iv_A.fr {na : Nat} {AI AS AG : Nat → Int32} {fk km : Nat → Nat} {ss : Nat → List Nat} {ca : Nat → Nat} (h : iv_A D M N na AI AS AG fk km ss ca) (hO : iv_O D M N o) (hF : mw_fr (iv_F T N) M M1) (z1 : M1 (D.2 200 0) = none) (hT : ∀ t : Nat, 35 ≤ t ∧ t ≤ 36 ∨ 100 ≤ t ∧ t < 130 → ¬ T t) (hN : ∀ t : Nat, 35 ≤ t ∧ t ≤ 36 ∨ 100 ≤ t ∧ t < 130 → N1 t = N t) (h3 : na ≤ 3) : iv_A D M1 N1 na AI AS AG fk km ss ca := by
  unfold iv_A
  rw [hN 35 (by omega), hN 36 (by omega), iv_mp (g := fun a => N (100 + a)) (fun a ha => hN (100 + a) (by omega))]
  refine ⟨iv_al hO hF z1 h.1 (hT 35 (by omega)) (hT 36 (by omega)), fun a ha => ?_⟩
  rw [hN (100 + a) (by omega), hN (110 + a) (by omega), hN (120 + a) (by omega)]
  exact ⟨iv_at hO hF (h.2 a ha).1 (hT (100 + a) (by omega)), iv_al hO hF z1 (h.2 a ha).2 (hT (110 + a) (by omega)) (hT (120 + a) (by omega))⟩
theorem iv_W.fr {na nw : Nat} {wa : Nat → Nat} {WS : Nat → Int32} {told : Nat → Bool} {wf wm : Nat → Nat} {wg : Nat → Int32} {ts : Nat → List Nat} {ca : Nat → Nat} (h : iv_W D M N na nw wa WS told wf wm wg ts ca) (hO : iv_O D M N o) (hF : mw_fr (iv_F T N) M M1) (z1 : M1 (D.2 200 0) = none) (hT : ∀ t : Nat, 37 ≤ t ∧ t ≤ 38 ∨ 130 ≤ t ∧ t < 170 → ¬ T t) (hN : ∀ t : Nat, 37 ≤ t ∧ t ≤ 38 ∨ 130 ≤ t ∧ t < 170 ∨ 100 ≤ t ∧ t < 100 + na → N1 t = N t) (h4 : nw ≤ 4) : iv_W D M1 N1 na nw wa WS told wf wm wg ts ca := by
  unfold iv_W
  rw [hN 37 (by omega), hN 38 (by omega), iv_mp (g := fun w => N (130 + w)) (fun w hw => hN (130 + w) (by omega))]
  refine ⟨iv_al hO hF z1 h.1 (hT 37 (by omega)) (hT 38 (by omega)), fun w hw => ?_⟩
  obtain ⟨h1, h2, h3, h5⟩ := h.2 w hw
  rw [hN (130 + w) (by omega), hN (140 + w) (by omega), hN (150 + w) (by omega), hN (160 + w) (by omega), hN (100 + wa w) (by omega)]
  exact ⟨h1, iv_at hO hF h2 (hT (130 + w) (by omega)), iv_at hO hF h3 (hT (140 + w) (by omega)), iv_al hO hF z1 h5 (hT (150 + w) (by omega)) (hT (160 + w) (by omega))⟩
theorem iv_L.fr {ls : List Nat} {lk lm : Nat} {lg : Int32} {ca : Nat → Nat} (h : iv_L D M N ls lk lm lg ca) (hO : iv_O D M N o) (hF : mw_fr (iv_F T N) M M1) (z1 : M1 (D.2 200 0) = none) (hT : ∀ t : Nat, 40 ≤ t → t ≤ 42 → ¬ T t) (hN : ∀ t : Nat, 40 ≤ t → t ≤ 42 → N1 t = N t) : iv_L D M1 N1 ls lk lm lg ca := by
  unfold iv_L
  rw [hN 40 (by omega) (by omega), hN 41 (by omega) (by omega), hN 42 (by omega) (by omega)]
  exact ⟨iv_at hO hF h.1 (hT 40 (by omega) (by omega)), iv_al hO hF z1 h.2 (hT 41 (by omega) (by omega)) (hT 42 (by omega) (by omega))⟩
theorem iv_U.fr (h : iv_U D M N) (hO : iv_O D M N o) (hF : mw_fr (iv_F T N) M M1) (z1 : M1 (D.2 200 0) = none) (hT : ∀ t : Nat, 43 ≤ t → t ≤ 45 → ¬ T t) (hN : ∀ t : Nat, 43 ≤ t → t ≤ 45 → N1 t = N t) : iv_U D M1 N1 := by
  unfold iv_U
  rw [hN 43 (by omega) (by omega), hN 44 (by omega) (by omega), hN 45 (by omega) (by omega)]
  obtain ⟨u1, u2, u3, L0, h1, h2⟩ := h
  exact ⟨u1, u2, u3, L0, iv_at hO hF h1 (hT 43 (by omega) (by omega)), iv_al hO hF z1 h2 (hT 44 (by omega) (by omega)) (hT 45 (by omega) (by omega))⟩
theorem iv_N.fr (h : iv_N D M N) (hO : iv_O D M N o) (hF : mw_fr (iv_F T N) M M1) (z1 : M1 (D.2 200 0) = none) (hT : ∀ t : Nat, 46 ≤ t → t ≤ 47 → ¬ T t) (hN : ∀ t : Nat, 46 ≤ t → t ≤ 47 → N1 t = N t) : iv_N D M1 N1 := by
  unfold iv_N
  rw [hN 46 (by omega) (by omega), hN 47 (by omega) (by omega)]
  obtain ⟨L0, h2⟩ := h
  exact ⟨L0, iv_al hO hF z1 h2 (hT 46 (by omega) (by omega)) (hT 47 (by omega) (by omega))⟩
theorem iv_D.fr (h : iv_D M N) (hO : iv_O D M N o) (hF : mw_fr (iv_F T N) M M1) (hT : ¬ T 50) (hN : N1 50 = N 50) : iv_D M1 N1 := by
  unfold iv_D
  rw [hN]
  obtain ⟨b, pl, er, v3, v4, v5, v6, v7, v8, w⟩ := h
  exact ⟨b, pl, er, v3, v4, v5, v6, v7, v8, iv_at hO hF w hT⟩
theorem iv_T.fr {ws : Int32} {LW : List Nat} (h : iv_T D M N ws LW) (hO : iv_O D M N o) (hF : mw_fr (iv_F T N) M M1) (hT : ∀ t : Nat, 51 ≤ t → t ≤ 53 → ¬ T t) (hN : ∀ t : Nat, 51 ≤ t → t ≤ 53 → N1 t = N t) : iv_T D M1 N1 ws LW := by
  unfold iv_T
  rw [hN 51 (by omega) (by omega), hN 52 (by omega) (by omega), hN 53 (by omega) (by omega)]
  obtain ⟨h1, f, h2, h3, h4⟩ := h
  exact ⟨iv_at hO hF h1 (hT 51 (by omega) (by omega)), f, iv_at hO hF h2 (hT 52 (by omega) (by omega)), iv_at hO hF h3 (hT 53 (by omega) (by omega)), h4⟩
def iv_R (D : va_G) (M : mw_M) (N : Nat → Nat) (V : Nat → Int32) (A : Nat → Nat → Int32) (S : Nat → Int64) : Prop := mq_R D M (N 199) (fun k => N (200 + k)) V A S
theorem iv_R.fr {V : Nat → Int32} {A : Nat → Nat → Int32} {S : Nat → Int64} (h : iv_R D M N V A S) (hO : iv_O D M N o) (hF : mw_fr (iv_F T N) M M1) (hT : ∀ t : Nat, 199 ≤ t → ¬ T t) (hN : ∀ t : Nat, 199 ≤ t → N1 t = N t) : iv_R D M1 N1 V A S := by
  unfold iv_R
  rw [hN 199 (by omega), show (fun k => N1 (200 + k)) = fun k => N (200 + k) from funext (fun k => hN (200 + k) (by omega))]
  exact mq_R.fr h hF (hO.np (iv_nn h.m) (hT 199 (by omega))) (fun k hk => by
    obtain ⟨y, hy⟩ := mq_R.na h k hk
    exact hO.np (iv_nn hy) (hT (200 + k) (by omega)))
theorem iv_P {q : Nat} (h : mq_P (N 199) (fun k => N (200 + k)) q) : iv_F (fun t => 199 ≤ t) N q := h.elim (fun e => ⟨199, Nat.le_refl _, e⟩) (fun ⟨k, _, e⟩ => ⟨200 + k, by show 199 ≤ 200 + k; omega, e⟩)
end IVF
