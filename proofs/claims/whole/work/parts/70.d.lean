/-! more helpers -/
theorem iv_O.ne {D : va_G} {M : mw_M} {N o : Nat → Nat} {s t : Nat} {e : va_E} (h : iv_O D M N o) (w : M (N s) = some e) (hst : s ≠ t) : N s ≠ N t := fun q => hst (h.inj (iv_nn w) q)
theorem iv_O.rr {D : va_G} {M : mw_M} {N o : Nat → Nat} {s t : Nat} (h : iv_O D M N o) (hst : s ≠ t) : N s = N t → N s = D.2 200 0 := fun q => (h.2 s).elim id (fun e => absurd (h.inj e.2 q) hst)
theorem iv_O.na {D : va_G} {M : mw_M} {N o : Nat → Nat} {s t r : Nat} {L : List Nat} (h : iv_O D M N o) (w : al_at D M (N s) r L) (hst : s ≠ t) : N s ≠ N t := by
  obtain ⟨mo, w⟩ := w.cell
  exact h.ne w hst
theorem iv_rg {n q : Nat} (f : Nat → Nat) (h : q < n) : ((List.range n).map f)[q]? = some (f q) := by
  rw [List.getElem?_map, List.getElem?_range h]
  rfl
theorem iv_rl (n : Nat) (f : Nat → Nat) : ((List.range n).map f).length = n := by rw [List.length_map, List.length_range]
theorem ss_in {A CF : Nat → Nat → Int32} {ce : Nat → Nat} {ns a mk n : Nat} (h : ag_ok A CF ce ns a mk) (hns : ns < 2 ^ 30) (hn : n ∈ mq_ss A a mk) : 0 < n ∧ n ≤ ns := by
  unfold mq_ss at hn
  obtain ⟨e, he, rfl⟩ := List.mem_map.mp hn
  have he2 := List.mem_filter.mp he
  have hk : A 26 (60 * a + e) ≠ 0 := fun q => by
    have h3 := he2.2
    unfold mq_k at h3
    rw [decide_eq_true q] at h3
    cases h3
  obtain ⟨h1, h2, -⟩ := sr_of h hns (List.mem_range.mp he2.1) hk
  exact ⟨h1, h2⟩
theorem iv_resp {A CF : Nat → Nat → Int32} {ce : Nat → Nat} {ns a mk : Nat} (h : ag_ok A CF ce ns a mk) (hns : ns < 2 ^ 30) (h12 : (mq_ss A a mk).length ≤ 12) (sel clk : Int32) : ∃ L : List Nat, mq_rs A clk a sel mk = L ∧ L.length ≤ 12 ∧ (mq_ss A a mk).filter (fl_p (mq_EF A) CF ce sel clk) = L.map (mq_sr A a) ∧ fr_or (mq_EF A) ce (L.map (mq_sr A a)) = mf_or A L ∧ ∀ i n : Nat, (L.map (mq_sr A a))[i]? = some n → ∃ e : Nat, L[i]? = some e ∧ e < mk ∧ (0 < n ∧ n ≤ ns) ∧ A 26 (60 * a + e) = nI n ∧ ce n = e ∧ CF n 2 = A 27 (60 * a + e) ∧ CF n 3 = A 28 (60 * a + e) ∧ CF n 4 = A 29 (60 * a + e) := by
  have hf := sr_filter h hns rfl sel clk mk (Nat.le_refl _)
  refine ⟨_, rfl, ?_, hf, sr_or h hns rfl _ (fun e he => mq_rs_in he), fun i n hn => ?_⟩
  · have h1 := List.length_filter_le (fl_p (mq_EF A) CF ce sel clk) (mq_ss A a mk)
    rw [hf, List.length_map] at h1
    omega
  · rw [List.getElem?_map] at hn
    cases he : (mq_rs A clk a sel mk)[i]? with
    | none => rw [he] at hn; cases hn
    | some e =>
      rw [he] at hn
      cases hn
      obtain ⟨g1, g2⟩ := mq_rs_in (List.mem_of_getElem? he)
      obtain ⟨c1, c2, c3, c4, c5, c6, c7⟩ := sr_of h hns g1 g2
      exact ⟨e, rfl, g1, ⟨c1, c2⟩, c3, c4, c5, c6, c7⟩
theorem iv_lc {D : va_G} {M : mw_M} {a r n : Nat} {f : Nat → Nat} (h : al_at D M a r ((List.range n).map f)) : ∃ mo : Int32, M a = some (.inr (4, [.ref r, .int (nI n), .int mo])) := by
  obtain ⟨mo, w⟩ := h.cell
  rw [iv_rl] at w
  exact ⟨mo, w⟩
theorem iv_A.cs {D : va_G} {M : mw_M} {N : Nat → Nat} {na : Nat} {AI AS AG AI1 AS1 AG1 : Nat → Int32} {fk km : Nat → Nat} {ss ss1 : Nat → List Nat} {ca ca1 : Nat → Nat} (h : iv_A D M N na AI AS AG fk km ss ca) (h1 : ∀ a : Nat, a < na → AI1 a = AI a ∧ AS1 a = AS a ∧ AG1 a = AG a ∧ (ss1 a).map ca1 = (ss a).map ca) : iv_A D M N na AI1 AS1 AG1 fk km ss1 ca1 := ⟨h.1, fun a ha => by
  obtain ⟨e1, e2, e3, e4⟩ := h1 a ha
  rw [e1, e2, e3, e4]
  exact h.2 a ha⟩
theorem er_ne {L : List Nat} {i e : Nat} : L.Nodup → L[i]? = some e → L.eraseIdx i = L.filter (fun x => !decide (x = e)) := by
  induction L generalizing i with
  | nil => exact fun _ h => by cases h
  | cons y L ih =>
    intro hd h
    have hd2 := List.nodup_cons.mp hd
    cases i with
    | zero =>
      have hy : y = e := Option.some.inj h
      show L = (y :: L).filter _
      rw [List.filter_cons_of_neg (by rw [decide_eq_true hy]; decide)]
      exact (List.filter_eq_self.mpr (fun x hx => by
        rw [decide_eq_false (fun q => hd2.1 (by rw [hy, ← q]; exact hx))]
        rfl)).symm
    | succ i =>
      have h2 : L[i]? = some e := h
      have hy : y ≠ e := fun q => hd2.1 (by rw [q]; exact List.mem_of_getElem? h2)
      show y :: L.eraseIdx i = _
      rw [List.filter_cons_of_pos (by rw [decide_eq_false hy]; decide), ih hd2.2 h2]
theorem mq_es_nd (A : Nat → Nat → Int32) (n : Nat) : (mq_es A n).Nodup := List.Pairwise.filter _ List.nodup_range
theorem mq_es_rm {A A1 : Nat → Nat → Int32} {e0 n i : Nat} (h : A1 16 = upd (A 16) e0 (nI 0)) (hi : (mq_es A n)[i]? = some e0) : (mq_es A n).eraseIdx i = mq_es A1 n := by
  rw [er_ne (mq_es_nd A n) hi]
  unfold mq_es
  rw [List.filter_filter]
  congr 1
  funext e
  unfold mq_th
  rw [h]
  by_cases q : e = e0
  · rw [q, ux_s, decide_eq_true rfl]
    rfl
  · rw [ux_n _ _ q, decide_eq_false q]
    rfl
theorem mq_es_in {A : Nat → Nat → Int32} {n e : Nat} : e ∈ mq_es A n ↔ e < n ∧ mq_th A e = true := by
  unfold mq_es
  rw [List.mem_filter, List.mem_range]
theorem mq_es_add {A A1 : Nat → Nat → Int32} {n : Nat} (h : A1 16 = upd (A 16) n (nI 1)) : mq_es A1 (n + 1) = mq_es A n ++ [n] := by
  unfold mq_es
  rw [List.range_succ, List.filter_append]
  have h1 : (List.range n).filter (mq_th A1) = (List.range n).filter (mq_th A) := List.filter_congr (fun e he => by
    unfold mq_th
    rw [h, ux_n _ _ (by have := List.mem_range.mp he; omega)])
  rw [h1, List.filter_cons_of_pos (by unfold mq_th; rw [h, ux_s]; decide)]
  rfl
theorem mq_EF_add {A A1 : Nat → Nat → Int32} {n i0 j0 : Nat} {s0 t0 f0 : Int32} (h17 : A1 17 = upd (A 17) n (nI i0)) (h18 : A1 18 = upd (A 18) n (nI j0)) (h19 : A1 19 = upd (A 19) n s0) (h20 : A1 20 = upd (A 20) n t0) (h21 : A1 21 = upd (A 21) n f0) : mq_EF A1 = va_up (mq_EF A) n (fun j => if j = 0 then nI n else if j = 1 then nI i0 else if j = 2 then nI j0 else if j = 3 then s0 else if j = 4 then t0 else f0) := by
  funext e
  by_cases q : e = n
  · subst q
    rw [va_up_self]
    funext j
    unfold mq_EF
    rw [h17, h18, h19, h20, h21, ux_s, ux_s, ux_s, ux_s, ux_s]
  · rw [va_up_ne _ _ q]
    funext j
    unfold mq_EF
    rw [h17, h18, h19, h20, h21, ux_n _ _ q, ux_n _ _ q, ux_n _ _ q, ux_n _ _ q, ux_n _ _ q]
theorem mq_ssZ {A : Nat → Nat → Int32} {a n : Nat} (h : A 26 (60 * a + n) = 0) : mq_ss A a (n + 1) = mq_ss A a n := by
  unfold mq_ss
  rw [List.range_succ, List.filter_append, List.filter_cons_of_neg (by unfold mq_k; rw [decide_eq_true h]; decide), List.filter_nil, List.append_nil]
theorem ct_c {M : mw_M} {EF EF1 CF CF1 : Nat → Nat → Int32} {ent ent1 ca ca1 ce ce1 : Nat → Nat} {n : Nat} (h : ct_is M EF CF ent ca ce n) (h1 : ca1 n = ca n) (h2 : ce1 n = ce n) (h3 : CF1 n = CF n) (h4 : EF1 (ce n) = EF (ce n)) (h5 : ent1 (ce n) = ent (ce n)) : ct_is M EF1 CF1 ent1 ca1 ce1 n := by
  unfold ct_is
  rw [h1, h2, h3, h4, h5]
  exact h
