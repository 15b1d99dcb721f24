/-! poll's and sync's mathematics -/
theorem iv_news {A : Nat → Nat → Int32} {q a ns wf wm fk km : Nat} {told : Bool} {wg : Int32} {ts L : List Nat} (hns : ns < 2 ^ 30) (y2 : wm ≤ 4) (y3 : wf + wm < 2 ^ 20) (y4 : ∀ n : Nat, n ∈ ts → 0 < n ∧ n ≤ ns) (y5 : told = false → A 36 q = -1) (y6 : told = true → A 36 q = nI ts.length ∧ ts.length ≤ 12 ∧ (∀ i n : Nat, ts[i]? = some n → A 37 (12 * q + i) = nI n) ∧ A 38 q = nI wm ∧ (∀ p : Nat, p < wm → A 39 (4 * q + p) = nI (wf + p)) ∧ A 40 q = wg ∧ (ts = [] → wf = 0 ∧ wm = 0)) (hL12 : L.length ≤ 12) (hLi : ∀ i n : Nat, (L.map (mq_sr A a))[i]? = some n → ∃ e : Nat, L[i]? = some e ∧ (0 < n ∧ n ≤ ns) ∧ A 26 (60 * a + e) = nI n) (g6 : km ≤ 4) (g7 : fk + km < 2 ^ 20) (g8 : ∀ p : Nat, p < km → A 30 (4 * a + p) = nI (fk + p)) (hkm : L ≠ [] → 0 < km) : (told = true ∧ (ts = L.map (mq_sr A a) ∧ nI wf = (if L.length = 0 then nI 0 else nI fk) ∧ nI (wf + wm) = (if L.length = 0 then nI 0 else nI (fk + km)) ∧ wg = (mf_or A L &&& A 32 a))) ↔ nw_same A q a L (if L.length = 0 then 0 else km) := by
  constructor
  · rintro ⟨ht, e1, e2, e3, e4⟩
    obtain ⟨d1, d2, d3, d4, d5, d6, d7⟩ := y6 ht
    have hlen : ts.length = L.length := by rw [e1, List.length_map]
    refine ⟨⟨by rw [d1, hlen], ?_, by rw [d6, e4]⟩, fun i e he => ?_, fun p hp => ?_⟩
    · by_cases h0 : L.length = 0
      · rw [if_pos h0] at e2 e3 ⊢
        have h1 := (nI_eq (by omega) (by omega)).mp e3
        rw [d4, show wm = 0 by omega]
      · rw [if_neg h0] at e2 e3 ⊢
        have h1 := (nI_eq (by omega) (by omega)).mp e2
        have h2 := (nI_eq (by omega) (by omega)).mp e3
        rw [d4, show wm = km by omega]
    · have h1 : (L.map (mq_sr A a))[i]? = some (mq_sr A a e) := by
        rw [List.getElem?_map, he]
        rfl
      obtain ⟨e5, h2, -, h4⟩ := hLi i _ h1
      rw [he] at h2
      cases h2
      rw [d3 i _ (by rw [e1]; exact h1), h4]
    · by_cases h0 : L.length = 0
      · rw [if_pos h0] at hp
        exact absurd hp (Nat.not_lt_zero _)
      · rw [if_neg h0] at e2 e3 hp
        have h1 := (nI_eq (by omega) (by omega)).mp e2
        have h2 := (nI_eq (by omega) (by omega)).mp e3
        rw [d5 p (by omega), g8 p hp, h1]
  · rintro ⟨⟨s1, s2, s3⟩, s4, s5⟩
    have ht : told = true := by
      cases h : told with
      | true => rfl
      | false => exact absurd ((y5 h).symm.trans s1) (nI_nm1 (by omega))
    obtain ⟨d1, d2, d3, d4, d5, d6, d7⟩ := y6 ht
    have hlen : ts.length = L.length := (nI_eq (by omega) (by omega)).mp (d1.symm.trans s1)
    have hts : ts = L.map (mq_sr A a) := by
      apply List.ext_getElem?
      intro i
      cases h1 : ts[i]? with
      | none =>
        have h2 := List.getElem?_eq_none_iff.mp h1
        exact (List.getElem?_eq_none_iff.mpr (by rw [List.length_map]; omega)).symm
      | some n =>
        have h2 := (List.getElem?_eq_some_iff.mp h1).1
        obtain ⟨e, he⟩ : ∃ e : Nat, L[i]? = some e := ⟨_, List.getElem?_eq_getElem (by omega)⟩
        have h3 : (L.map (mq_sr A a))[i]? = some (mq_sr A a e) := by
          rw [List.getElem?_map, he]
          rfl
        obtain ⟨e5, h4, h5, h6⟩ := hLi i _ h3
        rw [he] at h4
        cases h4
        have h7 := (d3 i n h1).symm.trans ((s4 i _ he).trans h6)
        have h8 := y4 n (List.mem_of_getElem? h1)
        rw [h3, (nI_eq (by omega) (by omega)).mp h7]
    refine ⟨ht, hts, ?_⟩
    by_cases h0 : L.length = 0
    · rw [if_pos h0, if_pos h0]
      obtain ⟨k1, k2⟩ := d7 (List.eq_nil_of_length_eq_zero (hlen.trans h0))
      rw [k1, k2]
      exact ⟨rfl, rfl, d6.symm.trans s3⟩
    · rw [if_neg h0] at s2 s5
      rw [if_neg h0, if_neg h0]
      have k0 : 0 < km := hkm (fun h => h0 (by rw [h]; rfl))
      have k1 := (nI_eq (by omega) (by omega)).mp (d4.symm.trans s2)
      have k2 := (d5 0 (by omega)).symm.trans ((s5 0 k0).trans (g8 0 k0))
      have k3 := (nI_eq (by omega) (by omega)).mp k2
      rw [show wf = fk by omega, k1]
      exact ⟨rfl, rfl, d6.symm.trans s3⟩
theorem rn_fc {ent : Nat → Bool} {f f1 : Nat → Option Nat} : ∀ (es : List Nat) (x : Nat × List Nat), (∀ e : Nat, e ∈ es → f e = f1 e) → es.foldl (rn_st ent f) x = es.foldl (rn_st ent f1) x
  | [], x, _ => rfl
  | e :: es, x, h => by
    rw [List.foldl_cons, List.foldl_cons]
    have h1 : rn_st ent f x e = rn_st ent f1 x e := by
      unfold rn_st
      rw [h e List.mem_cons_self]
    rw [h1]
    exact rn_fc es _ (fun e9 h9 => h e9 (List.mem_cons_of_mem _ h9))
theorem rn_goc {ent : Nat → Bool} {f f1 : Nat → Option Nat} {es : List Nat} {ns : Nat} (h : ∀ e : Nat, e ∈ es → f e = f1 e) : rn_go ent f es ns = rn_go ent f1 es ns := rn_fc es _ h
theorem rn_Nc {ent : Nat → Bool} {f f1 : Nat → Option Nat} {es : List Nat} (h : ∀ e : Nat, e ∈ es → f e = f1 e) : rn_N ent f es = rn_N ent f1 es := List.filter_congr (fun e he => by rw [h e he])
theorem fr_n {A : Nat → Nat → Int32} {clk : Int32} {a e : Nat} : (mq_fr A clk a e).isNone = mq_lk A clk a e := by
  unfold mq_fr
  cases mq_lk A clk a e with
  | true => rfl
  | false => rfl
theorem rn_Nl {ent : Nat → Bool} {A : Nat → Nat → Int32} {clk : Int32} {a : Nat} {es : List Nat} : (rn_N ent (mq_fr A clk a) es).length = es.countP (fun e => ent e && mq_lk A clk a e) := by
  unfold rn_N
  rw [List.countP_eq_length_filter]
  congr 2
  funext e
  rw [fr_n]
theorem iv_W.cs {D : va_G} {M : mw_M} {N : Nat → Nat} {na nw : Nat} {wa : Nat → Nat} {WS : Nat → Int32} {told : Nat → Bool} {wf wm : Nat → Nat} {wg : Nat → Int32} {ts : Nat → List Nat} {ca ca1 : Nat → Nat} (h : iv_W D M N na nw wa WS told wf wm wg ts ca) (h1 : ∀ w : Nat, w < nw → (ts w).map ca1 = (ts w).map ca) : iv_W D M N na nw wa WS told wf wm wg ts ca1 := ⟨h.1, fun w hw => by
  rw [h1 w hw]
  exact h.2 w hw⟩
theorem iv_L.cs {D : va_G} {M : mw_M} {N : Nat → Nat} {ls : List Nat} {lk lm : Nat} {lg : Int32} {ca ca1 : Nat → Nat} (h : iv_L D M N ls lk lm lg ca) (h1 : ls.map ca1 = ls.map ca) : iv_L D M N ls lk lm lg ca1 := ⟨h.1, by rw [h1]; exact h.2⟩
