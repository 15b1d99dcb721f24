/-! what a method leaves as it was -/
def mw_fr (P : Nat → Prop) (M M' : mw_M) : Prop := ∀ (q : Nat) (e : va_E), ¬ P q → M q = some e → M' q = some e
theorem mw_fr.rf {P : Nat → Prop} {M : mw_M} : mw_fr P M M := fun _ _ _ h => h
theorem mw_fr.up {P : Nat → Prop} {M M1 : mw_M} {a : Nat} {x : Option va_E} (h : mw_fr P M M1) (ha : P a) : mw_fr P M (va_up M1 a x) := fun q e hq hm => by
  rw [va_up_ne _ _ (fun z => hq (by rw [z]; exact ha))]
  exact h q e hq hm
theorem mw_fr.new {P : Nat → Prop} {M M1 : mw_M} {a : Nat} {x : Option va_E} (h : mw_fr P M M1) (ha : M1 a = none) : mw_fr P M (va_up M1 a x) := fun q e hq hm => by
  have h1 := h q e hq hm
  rw [va_up_ne _ _ (mw_neN h1 ha)]
  exact h1
theorem mw_fr.trans {P : Nat → Prop} {M M1 M2 : mw_M} (h : mw_fr P M M1) (h2 : mw_fr P M1 M2) : mw_fr P M M2 := fun q e hq hm => h2 q e hq (h q e hq hm)
theorem mw_fr.mono {P P' : Nat → Prop} {M M1 : mw_M} (h : mw_fr P M M1) (hp : ∀ q, P q → P' q) : mw_fr P' M M1 := fun q e hq hm => h q e (fun z => hq (hp q z)) hm
theorem mw_fr.at {P : Nat → Prop} {M M1 : mw_M} {a : Nat} {e : va_E} (h : mw_fr P M M1) (ha : M a = some e) (hp : ¬ P a) : M1 a = some e := h a e hp ha
/-- a whole number that is neither negative nor beyond k -/
theorem mi_in {i : Int32} {k n : Nat} (hk : k ≤ n) (hn : n < 2 ^ 31) (h1 : ¬ i < 0) (h2 : ¬ nI k ≤ i) : vp_in i n := by
  obtain ⟨j, hj, rfl⟩ := nI_of h1
  rw [nI_leI (by omega) hj] at h2
  exact vp_in_nI (by omega) hn
theorem mi_nat {i : Int32} {k : Nat} (hk : k < 2 ^ 31) (h1 : ¬ i < 0) (h2 : ¬ nI k ≤ i) : ∃ j : Nat, j < k ∧ i = nI j := by
  obtain ⟨j, hj, rfl⟩ := nI_of h1
  rw [nI_leI (by omega) hj] at h2
  exact ⟨j, by omega, rfl⟩
theorem mi_pos (j : Nat) (h : j < 2 ^ 31) : ¬ nI j < 0 := nI_pos h
