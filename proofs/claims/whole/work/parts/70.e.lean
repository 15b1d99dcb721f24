/-! helpers for the last calls -/
theorem iv_fst (f : Nat → Int32) (v : Int32) (n : Nat) : ∃ q : Nat, (∀ i : Nat, i < q → f i ≠ v) ∧ (q = n ∨ (q < n ∧ f q = v)) := by
  induction n with
  | zero => exact ⟨0, fun i hi => absurd hi (Nat.not_lt_zero _), Or.inl rfl⟩
  | succ n ih =>
    obtain ⟨q, h1, h2⟩ := ih
    rcases h2 with h2 | ⟨h2, h3⟩
    · by_cases h : f q = v
      · exact ⟨q, h1, Or.inr ⟨by omega, h⟩⟩
      · exact ⟨q + 1, fun i hi => by
          by_cases e : i = q
          · rw [e]
            exact h
          · exact h1 i (by omega), Or.inl (by omega)⟩
    · exact ⟨q, h1, Or.inr ⟨by omega, h3⟩⟩
theorem mq_ssL {A A1 : Nat → Nat → Int32} {a mk : Nat} (h : ∀ e : Nat, e < mk → A1 26 (60 * a + e) = A 26 (60 * a + e)) : mq_ss A1 a mk = mq_ss A a mk := by
  unfold mq_ss
  have e1 : (List.range mk).filter (mq_k A1 a) = (List.range mk).filter (mq_k A a) := List.filter_congr (fun e he => by
    unfold mq_k
    rw [h e (List.mem_range.mp he)])
  rw [e1]
  exact List.map_congr_left (fun e he => by
    unfold mq_sr
    rw [h e (List.mem_range.mp (List.mem_filter.mp he).1)])
theorem mq_ssN {A : Nat → Nat → Int32} {a mk : Nat} (h : ∀ e : Nat, e < mk → A 26 (60 * a + e) = 0) : mq_ss A a mk = [] := by
  unfold mq_ss
  have e1 : (List.range mk).filter (mq_k A a) = [] := List.filter_eq_nil_iff.mpr (fun e he => by
    unfold mq_k
    rw [decide_eq_true (h e (List.mem_range.mp he))]
    decide)
  rw [e1]
  rfl
theorem iv_W.mono {D : va_G} {M : mw_M} {N : Nat → Nat} {na na1 nw : Nat} {wa : Nat → Nat} {WS : Nat → Int32} {told : Nat → Bool} {wf wm : Nat → Nat} {wg : Nat → Int32} {ts : Nat → List Nat} {ca : Nat → Nat} (h : iv_W D M N na nw wa WS told wf wm wg ts ca) (hn : na ≤ na1) : iv_W D M N na1 nw wa WS told wf wm wg ts ca := ⟨h.1, fun w hw => ⟨Nat.lt_of_lt_of_le (h.2 w hw).1 hn, (h.2 w hw).2⟩⟩
theorem iv_wr3 {Ln Dn : Nat → Nat} {G : Nat → Nat → Nat} {i0 j0 : Nat} {s0 t0 f0 : Int32} (h : ¬ en_wr Ln Dn G i0 j0 s0 t0 f0) : ∃ t : Nat, t < 2 ^ 20 ∧ t0 = nI t := by
  rcases iv_rng (i := t0) (lo := 1) (hi := 64) (by decide) (by decide) with hm | ⟨q, hq1, hq2, hq⟩
  · refine absurd (Or.inr (Or.inr (Or.inr (Or.inl ?_)))) h
    unfold mo_out
    rcases hm with hm | hm
    · rw [decide_eq_true hm]
      rfl
    · rw [decide_eq_true hm, Bool.or_true]
  · exact ⟨q, by omega, hq⟩
