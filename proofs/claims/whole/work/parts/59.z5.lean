/-! the class's four last keys and all keys of the reference -/
def kr_ok (kc lf cl : Nat) (g4 g : Nat → Nat) : Prop := 1 ≤ kc ∧ (∀ k : Nat, k < kc → kc ≤ k + 4 → g4 (k % 4) = g k) ∧ (∀ j k : Nat, j ≤ k → k < kc → g j ≤ g k) ∧ (∀ k : Nat, k < kc → g k ≤ cl) ∧ (∀ k : Nat, k + 4 < kc → g k + lf ≤ cl)
theorem kr_good {kc lf cl : Nat} {g4 g : Nat → Nat} (h : kr_ok kc lf cl g4 g) (key : Int32) : ky_good kc lf g4 key cl = mo_good kc lf g key cl := by
  unfold ky_good mo_good
  by_cases h0 : 0 ≤ key.toInt
  · by_cases h1 : key.toInt < (kc : Int)
    · rw [decide_eq_true h0, decide_eq_true h1, Bool.true_and, Bool.true_and, Bool.true_and]
      by_cases h2 : (kc : Int) - 4 ≤ key.toInt
      · rw [decide_eq_true h2, Bool.true_and, h.2.1 key.toInt.toNat (by omega) (by omega)]
      · rw [decide_eq_false h2, Bool.false_and]
        have := h.2.2.2.2 key.toInt.toNat (by omega)
        exact (decide_eq_false (by omega)).symm
    · rw [decide_eq_false h1, Bool.and_false, Bool.false_and, Bool.false_and, Bool.false_and]
  · rw [decide_eq_false h0, Bool.false_and, Bool.false_and, Bool.false_and, Bool.false_and]
theorem kr_ff (kc lf cl : Nat) (g4 : Nat → Nat) : ∀ d i : Nat, i + d = kc → i ≤ ky_ff kc lf g4 cl d i ∧ ky_ff kc lf g4 cl d i ≤ kc ∧ (∀ j : Nat, i ≤ j → j < ky_ff kc lf g4 cl d i → ky_good kc lf g4 (nI j) cl = false) ∧ (ky_ff kc lf g4 cl d i < kc → ky_good kc lf g4 (nI (ky_ff kc lf g4 cl d i)) cl = true) := by
  intro d
  induction d with
  | zero =>
    intro i hi
    refine ⟨Nat.le_refl _, ?_, fun j h1 h2 => ?_, fun h1 => ?_⟩
    · show i ≤ kc
      omega
    · have : j < i := h2
      omega
    · have : i < kc := h1
      omega
  | succ d ih =>
    intro i hi
    by_cases hg : ky_good kc lf g4 (nI i) cl = true
    · rw [ky_ff_y hg]
      exact ⟨Nat.le_refl _, by omega, fun j h1 h2 => absurd h2 (by omega), fun _ => hg⟩
    · rw [ky_ff_n (Bool.of_not_eq_true hg)]
      obtain ⟨a1, a2, a3, a4⟩ := ih (i + 1) (by omega)
      refine ⟨by omega, a2, fun j h1 h2 => ?_, a4⟩
      by_cases e : j = i
      · rw [e]
        exact Bool.of_not_eq_true hg
      · exact a3 j (by omega) h2
theorem kr_first {kc lf cl : Nat} {g4 g : Nat → Nat} (h : kr_ok kc lf cl g4 g) (hk : kc < 2 ^ 20) : ky_first kc lf g4 cl ≤ kc ∧ kc ≤ ky_first kc lf g4 cl + 4 ∧ ∀ k : Nat, k < kc → (mo_good kc lf g (nI k) cl = true ↔ ky_first kc lf g4 cl ≤ k) := by
  obtain ⟨a1, a2, a3, a4⟩ := kr_ff kc lf cl g4 (kc - (kc - 4)) (kc - 4) (by omega)
  have e : ky_first kc lf g4 cl = ky_ff kc lf g4 cl (kc - (kc - 4)) (kc - 4) := rfl
  rw [← e] at a1 a2 a3 a4
  refine ⟨a2, by omega, fun k hkk => ⟨fun hm => ?_, fun hf => ?_⟩⟩
  · refine Classical.byContradiction (fun hn => ?_)
    by_cases h4 : kc ≤ k + 4
    · have := a3 k (by omega) (by omega)
      rw [kr_good h, hm] at this
      cases this
    · have h5 := h.2.2.2.2 k (by omega)
      rw [mo_goodN (by omega), Bool.and_eq_true] at hm
      have := of_decide_eq_true hm.2
      omega
  · have h1 := a4 (by omega)
    rw [kr_good h, mo_goodN (by omega), Bool.and_eq_true] at h1
    have h2 := of_decide_eq_true h1.2
    have h3 := h.2.2.1 _ k hf hkk
    rw [mo_goodN (by omega), Bool.and_eq_true]
    exact ⟨decide_eq_true hkk, decide_eq_true (by omega)⟩
theorem kr_cnt {kc lf cl : Nat} {g4 g : Nat → Nat} (h : kr_ok kc lf cl g4 g) (hk : kc < 2 ^ 20) : ∀ i : Nat, i ≤ kc → mo_cnt kc lf g cl i = i - ky_first kc lf g4 cl := by
  intro i
  induction i with
  | zero => exact fun _ => (Nat.zero_sub _).symm
  | succ i ih =>
    intro hi
    have h1 := (kr_first h hk).2.2 i (by omega)
    by_cases hg : mo_good kc lf g (nI i) cl = true
    · rw [mo_cnt_t hg, ih (by omega)]
      have := h1.mp hg
      omega
    · rw [mo_cnt_f (Bool.of_not_eq_true hg), ih (by omega)]
      have : ¬ ky_first kc lf g4 cl ≤ i := fun q => hg (h1.mpr q)
      omega
theorem kr_may {kc lf cl : Nat} {g4 g : Nat → Nat} (h : kr_ok kc lf cl g4 g) (hk : kc < 2 ^ 20) (pr : Int32) : (!ky_good kc lf g4 pr cl && decide (kc < ky_first kc lf g4 cl + 4)) = (!mo_good kc lf g pr cl && decide (mo_cnt kc lf g cl kc < 4)) := by
  rw [kr_good h, kr_cnt h hk kc (Nat.le_refl _)]
  congr 1
  have := kr_first h hk
  exact decide_eq_decide.mpr (by omega)
theorem kr_make {kc lf cl : Nat} {g4 g : Nat → Nat} (h : kr_ok kc lf cl g4 g) (hk : kc < 2 ^ 20) (hm : kc < ky_first kc lf g4 cl + 4) : kr_ok (kc + 1) lf cl (fun j => if j = kc % 4 then cl else g4 j) (fun j => if j = kc then cl else g j) := by
  obtain ⟨b1, b2, b3⟩ := kr_first h hk
  obtain ⟨a1, a2, a3, a4, a5⟩ := h
  refine ⟨by omega, fun k h1 h2 => ?_, fun j k h1 h2 => ?_, fun k h1 => ?_, fun k h1 => ?_⟩
  · show (if k % 4 = kc % 4 then cl else g4 (k % 4)) = (if k = kc then cl else g k)
    by_cases e : k = kc
    · rw [if_pos (by rw [e]), if_pos e]
    · rw [if_neg (by omega), if_neg e]
      exact a2 k (by omega) (by omega)
  · show (if j = kc then cl else g j) ≤ (if k = kc then cl else g k)
    by_cases e : k = kc
    · rw [if_pos e]
      by_cases e2 : j = kc
      · rw [if_pos e2]
        exact Nat.le_refl _
      · rw [if_neg e2]
        exact a4 j (by omega)
    · rw [if_neg e, if_neg (by omega)]
      exact a3 j k h1 (by omega)
  · show (if k = kc then cl else g k) ≤ cl
    by_cases e : k = kc
    · rw [if_pos e]
      exact Nat.le_refl _
    · rw [if_neg e]
      exact a4 k (by omega)
  · show (if k = kc then cl else g k) + lf ≤ cl
    rw [if_neg (by omega)]
    by_cases e : k + 4 < kc
    · exact a5 k e
    · refine Classical.byContradiction (fun hn => ?_)
      have := (b3 k (by omega)).mp (by
        rw [mo_goodN (by omega), Bool.and_eq_true]
        exact ⟨decide_eq_true (by omega), decide_eq_true (by omega)⟩)
      omega
theorem kr_tick {kc lf cl n : Nat} {g4 g : Nat → Nat} (h : kr_ok kc lf cl g4 g) : kr_ok kc lf (cl + n) g4 g :=
  ⟨h.1, h.2.1, h.2.2.1, fun k hk => Nat.le_trans (h.2.2.2.1 k hk) (Nat.le_add_right _ _), fun k hk => Nat.le_trans (h.2.2.2.2 k hk) (Nat.le_add_right _ _)⟩
