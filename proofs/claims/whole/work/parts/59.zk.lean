/-! what an agent keeps: the class's serial numbers and the reference's rows -/
def mq_sr (A : Nat → Nat → Int32) (a e : Nat) : Nat := (A 26 (60 * a + e)).toNatClampNeg
def mq_k (A : Nat → Nat → Int32) (a e : Nat) : Bool := !decide (A 26 (60 * a + e) = 0)
def mq_ss (A : Nat → Nat → Int32) (a n : Nat) : List Nat := ((List.range n).filter (mq_k A a)).map (mq_sr A a)
def ag_ok (A : Nat → Nat → Int32) (CF : Nat → Nat → Int32) (ce : Nat → Nat) (ns a mk : Nat) : Prop := ∀ e : Nat, e < mk → A 26 (60 * a + e) ≠ 0 → ∃ n : Nat, 0 < n ∧ n ≤ ns ∧ A 26 (60 * a + e) = nI n ∧ ce n = e ∧ CF n 2 = A 27 (60 * a + e) ∧ CF n 3 = A 28 (60 * a + e) ∧ CF n 4 = A 29 (60 * a + e)
theorem sr_of {A CF : Nat → Nat → Int32} {ce : Nat → Nat} {ns a mk e : Nat} (h : ag_ok A CF ce ns a mk) (hns : ns < 2 ^ 30) (he : e < mk) (hk : A 26 (60 * a + e) ≠ 0) : 0 < mq_sr A a e ∧ mq_sr A a e ≤ ns ∧ A 26 (60 * a + e) = nI (mq_sr A a e) ∧ ce (mq_sr A a e) = e ∧ CF (mq_sr A a e) 2 = A 27 (60 * a + e) ∧ CF (mq_sr A a e) 3 = A 28 (60 * a + e) ∧ CF (mq_sr A a e) 4 = A 29 (60 * a + e) := by
  obtain ⟨n, h1, h2, h3, h4⟩ := h e he hk
  have e1 : mq_sr A a e = n := by
    unfold mq_sr
    rw [h3, nI_clamp (by omega)]
  rw [e1]
  exact ⟨h1, h2, h3, h4⟩
theorem sr_filter {A CF EF : Nat → Nat → Int32} {ce : Nat → Nat} {ns a mk : Nat} (h : ag_ok A CF ce ns a mk) (hns : ns < 2 ^ 30) (hEF : EF = mq_EF A) (sel clk : Int32) : ∀ n : Nat, n ≤ mk → (mq_ss A a n).filter (fl_p EF CF ce sel clk) = (mq_rs A clk a sel n).map (mq_sr A a) := by
  intro n
  induction n with
  | zero => exact fun _ => rfl
  | succ n ih =>
    intro hn
    have ih := ih (by omega)
    have e0 : mq_ss A a (n + 1) = mq_ss A a n ++ (if mq_k A a n = true then [mq_sr A a n] else []) := by
      unfold mq_ss
      rw [List.range_succ, List.filter_append, List.map_append]
      congr 1
      by_cases hk : mq_k A a n = true
      · rw [List.filter_cons_of_pos hk, if_pos hk]
        rfl
      · rw [List.filter_cons_of_neg hk, if_neg hk]
        rfl
    rw [e0, List.filter_append, ih]
    by_cases hk : mq_k A a n = true
    · rw [if_pos hk]
      have hk0 : A 26 (60 * a + n) ≠ 0 := by
        unfold mq_k at hk
        intro q
        rw [decide_eq_true q] at hk
        cases hk
      obtain ⟨p1, p2, p3, p4, p5, p6, p7⟩ := sr_of h hns (by omega) hk0
      have hpos : 0 < A 26 (60 * a + n) := by
        rw [p3, Int32.lt_iff_toInt_lt, nI_toInt (by omega), Int32.toInt_zero]
        omega
      have hf : fl_p EF CF ce sel clk (mq_sr A a n) = mq_p A clk a sel n := by
        unfold fl_p mq_p
        rw [p4, p7, hEF, decide_eq_true hpos]
        rfl
      by_cases hp : mq_p A clk a sel n = true
      · rw [mq_rs_y hp, List.map_append, List.filter_cons_of_pos (by rw [hf]; exact hp)]
        rfl
      · rw [mq_rs_n (Bool.of_not_eq_true hp), List.filter_cons_of_neg (by rw [hf]; exact hp)]
        exact List.append_nil _
    · rw [if_neg hk]
      have hk0 : A 26 (60 * a + n) = 0 := by
        refine Classical.byContradiction (fun q => hk ?_)
        unfold mq_k
        rw [decide_eq_false q]
        rfl
      have hp : mq_p A clk a sel n = false := by
        unfold mq_p
        rw [hk0]
        rfl
      rw [mq_rs_n hp]
      exact List.append_nil _
theorem sr_or {A CF EF : Nat → Nat → Int32} {ce : Nat → Nat} {ns a mk : Nat} (h : ag_ok A CF ce ns a mk) (hns : ns < 2 ^ 30) (hEF : EF = mq_EF A) (L : List Nat) (hL : ∀ e : Nat, e ∈ L → e < mk ∧ A 26 (60 * a + e) ≠ 0) : fr_or EF ce (L.map (mq_sr A a)) = mf_or A L := by
  unfold fr_or mf_or
  rw [List.foldl_map]
  have key : ∀ (L : List Nat) (u : Int32), (∀ e : Nat, e ∈ L → e < mk ∧ A 26 (60 * a + e) ≠ 0) → L.foldl (fun u e => u ||| EF (ce (mq_sr A a e)) 5) u = L.foldl (fun u e => u ||| A 21 e) u := by
    intro L
    induction L with
    | nil => exact fun _ _ => rfl
    | cons e L ih =>
      intro u hL
      obtain ⟨p1, p2, p3, p4, -⟩ := sr_of h hns (hL e List.mem_cons_self).1 (hL e List.mem_cons_self).2
      show List.foldl _ (u ||| EF (ce (mq_sr A a e)) 5) L = List.foldl _ (u ||| A 21 e) L
      rw [p4, hEF]
      rw [hEF] at ih
      exact ih _ (fun e' he' => hL e' (List.mem_cons_of_mem _ he'))
  exact key L _ hL
theorem mq_rs_in {A : Nat → Nat → Int32} {clk : Int32} {a : Nat} {sel : Int32} {n e : Nat} (h : e ∈ mq_rs A clk a sel n) : e < n ∧ A 26 (60 * a + e) ≠ 0 := by
  have h2 := List.mem_filter.mp h
  refine ⟨List.mem_range.mp h2.1, fun q => ?_⟩
  have h3 := h2.2
  unfold mq_p at h3
  rw [q] at h3
  cases h3
/-- the kept certificate of an entry that still serves -/
theorem sr_find {A CF EF : Nat → Nat → Int32} {ce : Nat → Nat} {ns a mk e : Nat} (h : ag_ok A CF ce ns a mk) (hns : ns < 2 ^ 30) (hmk : mk ≤ 60) (hEF : EF = mq_EF A) (clk : Int32) (he : e < mk) : (mq_ss A a mk).find? (fh_p EF CF ce (EF e 0) clk) = if mq_lk A clk a e = true then none else some (mq_sr A a e) := by
  have hq : ∀ e' : Nat, e' < mk → A 26 (60 * a + e') ≠ 0 → fh_p EF CF ce (EF e 0) clk (mq_sr A a e') = (decide (e' = e) && !mq_lk A clk a e') := by
    intro e' he' hk
    obtain ⟨p1, p2, p3, p4, p5, p6, p7⟩ := sr_of h hns he' hk
    unfold fh_p mq_lk
    rw [p4, p6, p7, hEF, decide_eq_false hk, Bool.false_or]
    have e1 : (mq_EF A e' 0 = mq_EF A e 0) ↔ e' = e := by
      show nI e' = nI e ↔ _
      exact nI_eq (by omega) (by omega)
    rw [decide_eq_decide.mpr e1]
    congr 1
    by_cases hc : nI 2 * clk < A 28 (60 * a + e') + A 29 (60 * a + e')
    · rw [decide_eq_true hc, decide_eq_false (Int32.not_le.mpr hc)]
      rfl
    · rw [decide_eq_false hc, decide_eq_true (Int32.not_lt.mp hc)]
      rfl
  have hin : ∀ n : Nat, n ∈ mq_ss A a mk → ∃ e' : Nat, e' < mk ∧ A 26 (60 * a + e') ≠ 0 ∧ n = mq_sr A a e' := by
    intro n hn
    obtain ⟨e', h1, h2⟩ := List.mem_map.mp hn
    have h3 := List.mem_filter.mp h1
    refine ⟨e', List.mem_range.mp h3.1, fun q => ?_, h2.symm⟩
    have h4 := h3.2
    unfold mq_k at h4
    rw [decide_eq_true q] at h4
    cases h4
  by_cases hl : mq_lk A clk a e = true
  · rw [if_pos hl, List.find?_eq_none]
    intro n hn
    obtain ⟨e', h1, h2, h3⟩ := hin n hn
    rw [h3, hq e' h1 h2]
    by_cases e9 : e' = e
    · rw [e9, hl, decide_eq_true rfl]
      decide
    · rw [decide_eq_false e9]
      exact Bool.false_ne_true
  · rw [if_neg hl]
    have hk : A 26 (60 * a + e) ≠ 0 := by
      intro q
      apply hl
      unfold mq_lk
      rw [decide_eq_true q]
      rfl
    have hmem : mq_sr A a e ∈ mq_ss A a mk := by
      refine List.mem_map.mpr ⟨e, List.mem_filter.mpr ⟨List.mem_range.mpr he, ?_⟩, rfl⟩
      unfold mq_k
      rw [decide_eq_false hk]
      rfl
    have hok : fh_p EF CF ce (EF e 0) clk (mq_sr A a e) = true := by
      rw [hq e he hk, decide_eq_true rfl, Bool.of_not_eq_true hl]
      rfl
    cases hf : (mq_ss A a mk).find? (fh_p EF CF ce (EF e 0) clk) with
    | none => exact absurd hok (List.find?_eq_none.mp hf _ hmem)
    | some n =>
      obtain ⟨e', h1, h2, h3⟩ := hin n (List.mem_of_find?_eq_some hf)
      have h4 := List.find?_some hf
      rw [h3, hq e' h1 h2, Bool.and_eq_true] at h4
      rw [h3, of_decide_eq_true h4.1]
