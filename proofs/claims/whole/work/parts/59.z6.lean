/-! texts: the first place at which one is no ID, for the class and for the reference -/
def nc_d (c : Nat) : Bool := decide (97 ≤ c ∧ c ≤ 122 ∨ 48 ≤ c ∧ c ≤ 57 ∨ c = 46 ∨ c = 45 ∨ c = 95)
def nc_s (c : Nat) : Bool := decide (97 ≤ c ∧ c ≤ 122 ∨ 48 ≤ c ∧ c ≤ 57 ∨ c = 46 ∨ c = 45 ∨ c = 95 ∨ 65 ≤ c ∧ c ≤ 90)
def ie_ch (i : Nat) : Nat := if i = 0 then 115 else if i = 1 then 112 else if i = 2 then 105 else if i = 3 then 102 else if i = 4 then 102 else if i = 5 then 101 else if i = 6 then 58 else 47
def ie_sc (g : Nat → Nat) (a n : Nat) : Nat → Nat → Option Nat
  | 0, _ => none
  | d + 1, i => if n ≤ i ∨ g (a + i) ≠ ie_ch i then some i else ie_sc g a n d (i + 1)
def ie_dm (g : Nat → Nat) : Nat → Nat → Nat
  | 0, p => p
  | d + 1, p => if nc_d (g p) = true then ie_dm g d (p + 1) else p
def ie_sg (g : Nat → Nat) : Nat → Nat → Nat
  | 0, p => p
  | d + 1, p => if nc_s (g p) = true then ie_sg g d (p + 1) else p
def ie_bad (g : Nat → Nat) (e p : Nat) : Bool := decide (ie_sg g (e - p) p = p) || (decide (ie_sg g (e - p) p = p + 1) && decide (g p = 46)) || (decide (ie_sg g (e - p) p = p + 2) && decide (g p = 46) && decide (g (p + 1) = 46))
def ie_pe (g : Nat → Nat) (e : Nat) : Nat → Nat → Option Nat
  | 0, _ => none
  | d + 1, p => if p < e then (if g p ≠ 47 then some p else if ie_bad g e (p + 1) = true then some (p + 1) else ie_pe g e d (ie_sg g (e - (p + 1)) (p + 1))) else none
def ie_de (g : Nat → Nat) (s0 e : Nat) : Nat := ie_dm g (min e (s0 + 12) - s0) s0
def ie_by (g : Nat → Nat) (a n : Nat) : Nat := match ie_sc g a n 9 0 with
  | some i => i
  | none => if ie_de g (a + 9) (a + n) = a + 9 then 9 else match ie_pe g (a + n) (a + n) (ie_de g (a + 9) (a + n)) with
    | some p => p - a
    | none => n + 1
def ie_err (g : Nat → Nat) (a n : Nat) : Option Nat := if n < (if 40 < n ∧ 40 < ie_by g a n then 40 else ie_by g a n) then none else some (if 40 < n ∧ 40 < ie_by g a n then 40 else ie_by g a n)
theorem ie_ch_lt (i : Nat) : ie_ch i < 128 := by
  unfold ie_ch
  repeat' split
  all_goals decide
theorem ie_sc_y {g : Nat → Nat} {a n d i : Nat} (h : n ≤ i ∨ g (a + i) ≠ ie_ch i) : ie_sc g a n (d + 1) i = some i := if_pos h
theorem ie_sc_n {g : Nat → Nat} {a n d i : Nat} (h : i < n) (h2 : g (a + i) = ie_ch i) : ie_sc g a n (d + 1) i = ie_sc g a n d (i + 1) := if_neg (fun q => q.elim (fun q => by omega) (fun q => q h2))
theorem ie_dm_y {g : Nat → Nat} {d p : Nat} (h : nc_d (g p) = true) : ie_dm g (d + 1) p = ie_dm g d (p + 1) := if_pos h
theorem ie_dm_n {g : Nat → Nat} {d p : Nat} (h : nc_d (g p) = false) : ie_dm g (d + 1) p = p := if_neg (by rw [h]; decide)
theorem ie_sg_y {g : Nat → Nat} {d p : Nat} (h : nc_s (g p) = true) : ie_sg g (d + 1) p = ie_sg g d (p + 1) := if_pos h
theorem ie_sg_n {g : Nat → Nat} {d p : Nat} (h : nc_s (g p) = false) : ie_sg g (d + 1) p = p := if_neg (by rw [h]; decide)
theorem ie_dm_le (g : Nat → Nat) : ∀ d p : Nat, p ≤ ie_dm g d p ∧ ie_dm g d p ≤ p + d
  | 0, p => ⟨Nat.le_refl _, Nat.le_refl _⟩
  | d + 1, p => by
    have := ie_dm_le g d (p + 1)
    unfold ie_dm
    split <;> omega
theorem ie_sg_le (g : Nat → Nat) : ∀ d p : Nat, p ≤ ie_sg g d p ∧ ie_sg g d p ≤ p + d
  | 0, p => ⟨Nat.le_refl _, Nat.le_refl _⟩
  | d + 1, p => by
    have := ie_sg_le g d (p + 1)
    unfold ie_sg
    split <;> omega
theorem ie_sg_in (g : Nat → Nat) : ∀ d p j : Nat, p ≤ j → j < ie_sg g d p → nc_s (g j) = true
  | 0, p, j => fun h1 h2 => absurd (show j < p from h2) (by omega)
  | d + 1, p, j => fun h1 h2 => by
    by_cases h : nc_s (g p) = true
    · rw [ie_sg_y h] at h2
      by_cases e : j = p
      · rw [e]
        exact h
      · exact ie_sg_in g d (p + 1) j (by omega) h2
    · rw [ie_sg_n (Bool.of_not_eq_true h)] at h2
      omega
theorem ie_sg_end (g : Nat → Nat) : ∀ d p : Nat, ie_sg g d p = p + d ∨ nc_s (g (ie_sg g d p)) = false
  | 0, p => Or.inl rfl
  | d + 1, p => by
    by_cases h : nc_s (g p) = true
    · rw [ie_sg_y h]
      exact (ie_sg_end g d (p + 1)).imp (fun q => by omega) id
    · rw [ie_sg_n (Bool.of_not_eq_true h)]
      exact Or.inr (Bool.of_not_eq_true h)
theorem ie_de_le {g : Nat → Nat} {s0 e : Nat} (h : s0 ≤ e) : s0 ≤ ie_de g s0 e ∧ ie_de g s0 e ≤ e ∧ ie_de g s0 e ≤ s0 + 12 := by
  have := ie_dm_le g (min e (s0 + 12) - s0) s0
  unfold ie_de
  omega
theorem ie_pe_off {g : Nat → Nat} {e d p : Nat} (h : e ≤ p) : ie_pe g e d p = none := by
  cases d with
  | zero => rfl
  | succ d => exact if_neg (by omega)
theorem ie_pe_1 {g : Nat → Nat} {e d p : Nat} (h : p < e) (h2 : g p ≠ 47) : ie_pe g e (d + 1) p = some p := (if_pos h).trans (if_pos h2)
theorem ie_pe_2 {g : Nat → Nat} {e d p : Nat} (h : p < e) (h2 : g p = 47) (h3 : ie_bad g e (p + 1) = true) : ie_pe g e (d + 1) p = some (p + 1) := (if_pos h).trans ((if_neg (fun q => q h2)).trans (if_pos h3))
theorem ie_pe_3 {g : Nat → Nat} {e d p : Nat} (h : p < e) (h2 : g p = 47) (h3 : ie_bad g e (p + 1) = false) : ie_pe g e (d + 1) p = ie_pe g e d (ie_sg g (e - (p + 1)) (p + 1)) := (if_pos h).trans ((if_neg (fun q => q h2)).trans (if_neg (by rw [h3]; decide)))
theorem ie_pe_le {g : Nat → Nat} {e : Nat} : ∀ d p q : Nat, ie_pe g e d p = some q → p ≤ q ∧ q ≤ e
  | 0, p, q => fun h => by cases h
  | d + 1, p, q => fun h => by
    by_cases h0 : p < e
    · by_cases h1 : g p ≠ 47
      · rw [ie_pe_1 h0 h1] at h
        cases h
        omega
      · have h1 : g p = 47 := Classical.byContradiction h1
        by_cases h2 : ie_bad g e (p + 1) = true
        · rw [ie_pe_2 h0 h1 h2] at h
          cases h
          omega
        · rw [ie_pe_3 h0 h1 (Bool.of_not_eq_true h2)] at h
          have a := ie_pe_le d _ q h
          have b := ie_sg_le g (e - (p + 1)) (p + 1)
          omega
    · rw [ie_pe_off (by omega)] at h
      cases h
theorem ie_sc_lt {g : Nat → Nat} {a n : Nat} : ∀ d i q : Nat, ie_sc g a n d i = some q → i ≤ q ∧ q < i + d
  | 0, i, q => fun h => by cases h
  | d + 1, i, q => fun h => by
    by_cases h0 : n ≤ i ∨ g (a + i) ≠ ie_ch i
    · rw [ie_sc_y h0] at h
      cases h
      omega
    · rw [show ie_sc g a n (d + 1) i = ie_sc g a n d (i + 1) from if_neg h0] at h
      have := ie_sc_lt d (i + 1) q h
      omega
theorem ie_sc_all {g : Nat → Nat} {a n : Nat} : ∀ d i : Nat, ie_sc g a n d i = none → ∀ j : Nat, i ≤ j → j < i + d → j < n ∧ g (a + j) = ie_ch j
  | 0, i => fun _ j h1 h2 => by omega
  | d + 1, i => fun h j h1 h2 => by
    by_cases h0 : n ≤ i ∨ g (a + i) ≠ ie_ch i
    · rw [ie_sc_y h0] at h
      cases h
    · rw [show ie_sc g a n (d + 1) i = ie_sc g a n d (i + 1) from if_neg h0] at h
      by_cases e : j = i
      · rw [e]
        exact ⟨Nat.lt_of_not_le (fun q => h0 (Or.inl q)), Classical.byContradiction (fun q => h0 (Or.inr q))⟩
      · exact ie_sc_all d (i + 1) h j (by omega) (by omega)
theorem ie_sc_len {g : Nat → Nat} {a n : Nat} (h : ie_sc g a n 9 0 = none) : 9 ≤ n := by
  have := (ie_sc_all 9 0 h 8 (by omega) (by omega)).1
  omega
/-- what an ID is: its scheme stands, its domain ends behind the tenth sign, no longer than 40 -/
theorem ie_ok {g : Nat → Nat} {a n : Nat} (h : ie_err g a n = none) : ie_sc g a n 9 0 = none ∧ n ≤ 40 ∧ 9 ≤ n ∧ a + 9 < ie_de g (a + 9) (a + n) := by
  unfold ie_err at h
  by_cases h1 : n < (if 40 < n ∧ 40 < ie_by g a n then 40 else ie_by g a n)
  · by_cases h2 : 40 < n ∧ 40 < ie_by g a n
    · rw [if_pos h2] at h1
      omega
    · rw [if_neg h2] at h1
      cases hs : ie_sc g a n 9 0 with
      | some i =>
        have hb : ie_by g a n = i := by unfold ie_by; rw [hs]
        rw [hb] at h1
        have hq := ie_sc_lt 9 0 i hs
        exfalso
        have key : ∀ d j : Nat, ie_sc g a n d j = some i → j ≤ n → i ≤ n := by
          intro d
          induction d with
          | zero => exact fun j h _ => by cases h
          | succ d ih =>
            intro j hj hn
            by_cases h0 : n ≤ j ∨ g (a + j) ≠ ie_ch j
            · rw [ie_sc_y h0] at hj
              cases hj
              exact hn
            · rw [show ie_sc g a n (d + 1) j = ie_sc g a n d (j + 1) from if_neg h0] at hj
              exact ih (j + 1) hj (Nat.lt_of_not_le (fun q => h0 (Or.inl q)))
        have := key 9 0 hs (Nat.zero_le _)
        omega
      | none =>
        have h9 := ie_sc_len hs
        have hd := ie_de_le (g := g) (s0 := a + 9) (e := a + n) (by omega)
        refine ⟨rfl, ?_, h9, ?_⟩
        · refine Classical.byContradiction (fun q => h2 ⟨by omega, by omega⟩)
        · refine Nat.lt_of_le_of_ne hd.1 (fun q => ?_)
          have hb : ie_by g a n = 9 := by unfold ie_by; rw [hs]; exact if_pos q.symm
          omega
  · rw [if_neg h1] at h
    cases h
