/-! helpers for the calls -/
theorem iv.m {D : va_G} {x mm j : Nat} {M : mw_M} (h : iv D x mm j M) : ∃ fs, M mm = some (.inr (13, fs)) := by
  obtain ⟨N, o, V, A, S, h⟩ := h
  obtain ⟨k, ic, Ln, Dn, G, lf, cl, kc, ka, pr, f4, g4, gm, mk, ent, ns, ca, ce, CF, na, fk, km, nw, wa, told, wf, wm, wg, ts, ls, lk, lm, ws, LW, e0, e1, hO, hX, hB, hI, hK, hE, hC, hA, hW, hL, hU, hN, hD, hT, hR, hp⟩ := h
  rw [← e1]
  exact ⟨_, hR.m⟩
theorem iv_same {l : Launch} {D : va_G} {z x mm j : Nat} {yx : MethodName} {bx : ByteArray} {nx : Nat} {rx : Option FieldType} {ym : MethodName} {bm : ByteArray} {nm : Nat} {rm : Option FieldType} {As : List Value} {M : mw_M} {r : Int32} {fr lo mc ms fr2 lo2 : Nat} (h : iv D x mm j M) (hC : mw_C l yx bx nx rx fr lo mc ms D z M (.ref x :: As) (fun v M' => v = some (.int r) ∧ M' = M)) (hC2 : mw_C l ym bm nm rm fr2 lo2 0 0 D z M (.ref mm :: As) (fun v M' => v = some (.int r) ∧ M' = M)) (g1 : fr + 1 ≤ 12) (g2 : 8 + (nx + 11) + lo ≤ 454) (g3 : mc ≤ 50) (g4 : ms ≤ 1500) (g5 : fr2 + 1 ≤ 12) (g6 : 8 + (nm + 11) + lo2 ≤ 454) : iv_go l D z x mm yx bx nx rx ym bm nm rm As M (iv D x mm (j + 1)) := by
  obtain ⟨fs, w⟩ := h.m
  refine ⟨fr, lo, mc, ms, _, g1, g2, g3, g4, hC, fun v M1 hp _ => ?_⟩
  obtain ⟨rfl, hq⟩ := hp
  subst hq
  refine ⟨r, fs, fr2, lo2, _, rfl, w, g5, g6, hC2, fun v2 M2 hp2 _ => ?_⟩
  obtain ⟨rfl, hq⟩ := hp2
  subst hq
  exact ⟨rfl, h.skip⟩
theorem iv_rng {i : Int32} {lo hi : Nat} (hlo : lo < 2 ^ 31) (hhi : hi + 1 < 2 ^ 31) : (i < nI lo ∨ nI hi < i) ∨ ∃ q : Nat, lo ≤ q ∧ q ≤ hi ∧ i = nI q := by
  by_cases h1 : i < nI lo
  · exact Or.inl (Or.inl h1)
  · by_cases h2 : nI hi < i
    · exact Or.inl (Or.inr h2)
    · rw [Int32.lt_iff_toInt_lt, nI_toInt hlo] at h1
      rw [Int32.lt_iff_toInt_lt, nI_toInt (by omega)] at h2
      obtain ⟨q, hq, rfl⟩ := mi_nat (i := i) (k := hi + 1) hhi (by rw [Int32.lt_iff_toInt_lt]; show ¬ i.toInt < 0; omega) (by rw [Int32.le_iff_toInt_le, nI_toInt hhi]; omega)
      rw [nI_toInt (by omega)] at h1
      exact Or.inr ⟨q, by omega, by omega, rfl⟩
theorem iv_hs {k : Nat} (i : Int32) : xi_has k i = false ∨ ∃ q : Nat, q < k ∧ i = nI q := by
  cases h : xi_has k i with
  | false => exact Or.inl rfl
  | true => exact Or.inr (xi_has_of h)
section MQU
variable {D : va_G} {M M1 : mw_M} {mm : Nat} {ra : Nat → Nat} {V V1 : Nat → Int32} {A : Nat → Nat → Int32} {S : Nat → Int64}
theorem mq_R.nV (h : mq_R D M mm ra V A S) (w : M1 mm = some (.inr (13, mo_l (mq_v ra V1)))) (hF : mw_fr (fun q => q = mm) M M1) : mq_R D M1 mm ra V1 A S :=
  ⟨w, fun k hk h13 => hF.at (h.2.1 k hk h13) (h.ne k hk), hF.at h.2.2.1 (h.ne 13 rfl), h.2.2.2⟩
theorem mq_R.nA {k : Nat} {g : Nat → Int32} (h : mq_R D M mm ra V A S) (hk : mq_isA k = true) (h13 : k ≠ 13) (w : M1 mm = some (.inr (13, mo_l (mq_v ra V1)))) (w2 : M1 (ra k) = some (.inl (D.1 (mq_ty k), mq_len k, .inl g))) (hF : mw_fr (fun q => q = mm ∨ q = ra k) M M1) : mq_R D M1 mm ra V1 (va_up A k g) S := by
  refine ⟨w, fun i hi hi13 => ?_, hF.at h.2.2.1 (fun q => q.elim (fun e => h.ne 13 rfl e) (fun e => h.2.2.2 13 k rfl hk (Ne.symm h13) e)), h.2.2.2⟩
  by_cases e : i = k
  · subst e
    rw [va_up_self]
    exact w2
  · rw [va_up_ne _ _ e]
    exact hF.at (h.2.1 i hi hi13) (fun q => q.elim (fun e => h.ne i hi e) (fun e2 => h.2.2.2 i k hi hk e e2))
theorem mw_frP {P : Nat → Prop} (hF : mw_fr P M M1) (h : ∀ q : Nat, P q → q = mm ∨ ∃ k : Nat, mq_isA k = true ∧ q = ra k) : mw_fr (mq_P mm ra) M M1 := hF.mono h
theorem mq_EF_c {A A1 : Nat → Nat → Int32} (h17 : A1 17 = A 17) (h18 : A1 18 = A 18) (h19 : A1 19 = A 19) (h20 : A1 20 = A 20) (h21 : A1 21 = A 21) : mq_EF A1 = mq_EF A := by
  funext e i
  unfold mq_EF
  rw [h17, h18, h19, h20, h21]
theorem mq_es_c {A A1 : Nat → Nat → Int32} (h16 : A1 16 = A 16) : mq_es A1 = mq_es A := by
  funext n
  unfold mq_es
  have e : mq_th A1 = mq_th A := by
    funext e
    unfold mq_th
    rw [h16]
  rw [e]
theorem mq_ssE {A A1 : Nat → Nat → Int32} (h26 : A1 26 = A 26) : mq_ss A1 = mq_ss A := by
  funext a n
  unfold mq_ss
  have e : mq_k A1 a = mq_k A a := by
    funext e
    unfold mq_k
    rw [h26]
  have e2 : mq_sr A1 a = mq_sr A a := by
    funext e
    unfold mq_sr
    rw [h26]
  rw [e, e2]
theorem iv_p8.c {A A1 CF : Nat → Nat → Int32} {ce : Nat → Nat} {ns mk cl na : Nat} {fk km : Nat → Nat} (h : iv_p8 A CF ce ns mk cl na fk km) (h26 : A1 26 = A 26) (h27 : A1 27 = A 27) (h28 : A1 28 = A 28) (h29 : A1 29 = A 29) (h30 : A1 30 = A 30) (h31 : A1 31 = A 31) : iv_p8 A1 CF ce ns mk cl na fk km := by
  intro a ha
  obtain ⟨h1, h2, h3, h4, h5, h6, h7, h8⟩ := h a ha
  rw [mq_ssE h26, h26, h30, h31]
  refine ⟨?_, h2, h3, h4, h5, h6, h7, h8⟩
  unfold ag_ok
  rw [h26, h27, h28, h29]
  exact h1
end MQU
theorem al_at.row {D : va_G} {M : mw_M} {a r : Nat} {L : List Nat} (h : al_at D M a r L) : r = D.2 200 0 ∨ M r ≠ none := by
  obtain ⟨-, cap, mo, h⟩ := h
  exact h.2.2.2.imp (fun q => q.1) (fun q => iv_nn q.2)
theorem iv_O.row {D : va_G} {M M1 : mw_M} {N o : Nat → Nat} {T : Nat → Prop} {a b r1 : Nat} {L : List Nat} (h : iv_O D M N o) (hF : mw_fr (iv_F T N) M M1) (ha : al_at D M1 a r1 L) (hr : r1 = N b ∨ M r1 = none) : iv_O D M1 (va_up N b r1) (fun q => if M q = none then b else o q) := by
  refine h.fr hF ha.1 (fun t => ?_) (fun q hq => if_neg hq)
  by_cases e : t = b
  · subst e
    rw [va_up_self]
    rcases hr with e1 | e1
    · exact Or.inl e1
    · exact Or.inr (ha.row.imp id (fun q => ⟨e1, q, if_pos e1⟩))
  · exact Or.inl (va_up_ne _ _ e)
theorem ux_s (f : Nat → Int32) (i : Nat) (v : Int32) : upd f i v i = v := if_pos rfl
theorem ux_n (f : Nat → Int32) {i j : Nat} (v : Int32) (h : j ≠ i) : upd f i v j = f j := if_neg h
theorem pt_p3 (word : Int32) : ∀ (n : Nat) (f : Nat → Int32) (k : Nat), iv_p3 f k → iv_p3 (pt_f word n f k) (k + n)
  | 0, f, k => fun h => h
  | n + 1, f, k => fun h => by
    have h2 := pt_p3 word n (upd f k (nI (pt_n word n))) (k + 1) (fun q hq => by
      by_cases e : q = k
      · exact ⟨pt_n word n, pt_lt word n, by rw [e]; exact ux_s _ _ _⟩
      · rw [ux_n _ _ e]
        exact h q (by omega))
    rw [show k + (n + 1) = k + 1 + n by omega]
    exact h2
theorem iv_p3.g {f : Nat → Int32} {k : Nat} (h : iv_p3 f k) : ∃ g : Nat → Nat, ∀ j : Nat, j < k → f j = nI (g j) ∧ g j < 256 := ⟨fun j => (f j).toNatClampNeg, fun j hj => by
  obtain ⟨b, hb, e⟩ := h j hj
  show f j = nI (f j).toNatClampNeg ∧ (f j).toNatClampNeg < 256
  rw [e, nI_clamp (by omega)]
  exact ⟨rfl, hb⟩⟩
