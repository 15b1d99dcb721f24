/-! powers and secret exponents -/
def pw_n (m : Nat) : Nat → Nat → Nat → Nat → Nat
  | 0, _, _, r => r
  | d + 1, e, q, r => pw_n m d (e / 2) (q * q % m) (if e % 2 = 1 then r * q % m else r)
theorem pw_0 (m : Nat) : ∀ d q r : Nat, pw_n m d 0 q r = r
  | 0, _, _ => rfl
  | d + 1, q, r => pw_0 m d (q * q % m) r
theorem pw_fuel (m : Nat) : ∀ d k e q r : Nat, e < 2 ^ d → pw_n m (d + k) e q r = pw_n m d e q r := by
  intro d
  induction d with
  | zero =>
    intro k e q r h
    have : e = 0 := by omega
    subst this
    rw [pw_0, pw_0]
  | succ d ih =>
    intro k e q r h
    rw [Nat.succ_add]
    show pw_n m (d + k) (e / 2) (q * q % m) _ = pw_n m d (e / 2) (q * q % m) _
    exact ih k (e / 2) _ _ (by rw [Nat.pow_succ] at h; omega)
theorem pw_lt {m : Nat} (hm : 1 < m) : ∀ d e q r : Nat, r < m → pw_n m d e q r < m
  | 0, _, _, r => fun h => h
  | d + 1, e, q, r => fun h => by
    refine pw_lt hm d (e / 2) (q * q % m) _ ?_
    split
    · exact Nat.mod_lt _ (by omega)
    · exact h
def sk_m (k : Nat) : Nat := if k % 4 = 0 then 1071514531 else if k % 4 = 1 then 1070271221 else if k % 4 = 2 then 1069289951 else 1067328611
def sk_f (k : Nat) : Nat := if k % 4 = 0 then 32719 else if k % 4 = 1 then 32713 else if k % 4 = 2 then 32693 else 32653
def sk_s (k : Nat) : Nat := if k % 4 = 0 then 278664713 else if k % 4 = 1 then 526488929 else if k % 4 = 2 then 399288977 else 940729625
def sk_phi (k : Nat) : Nat := (sk_f k - 1) * (sk_m k / sk_f k - 1)
/-- how many times phi is added -/
def sk_t (k : Nat) : Nat := (65537 * sk_s k - 1) / sk_phi k
theorem sk_at (k : Nat) : 65537 * sk_s k = 1 + sk_t k * sk_phi k ∧ 1 ≤ sk_t k ∧ sk_t k < 65537 ∧ sk_s k < 2 ^ 30 ∧ sk_phi k < 2 ^ 31 := by
  have h : ∀ j : Nat, j < 4 → 65537 * sk_s j = 1 + sk_t j * sk_phi j ∧ 1 ≤ sk_t j ∧ sk_t j < 65537 ∧ sk_s j < 2 ^ 30 ∧ sk_phi j < 2 ^ 31 := by decide
  have e : ∀ j : Nat, sk_s (j % 4) = sk_s j ∧ sk_t (j % 4) = sk_t j ∧ sk_phi (j % 4) = sk_phi j := fun j => by
    unfold sk_t sk_phi sk_s sk_m sk_f
    rw [Nat.mod_mod]
    exact ⟨rfl, rfl, rfl⟩
  have := h (k % 4) (Nat.mod_lt _ (by decide))
  rw [(e k).1, (e k).2.1, (e k).2.2] at this
  exact this
theorem sk_no {k j : Nat} (h1 : 1 ≤ j) (h2 : j < sk_t k) : (1 + j * sk_phi k) % 65537 ≠ 0 := by
  have key : ∀ i : Nat, i < 4 → ∃ c u : Nat, c * sk_phi i = 1 + 65537 * u := by
    intro i hi
    rcases (show i = 0 ∨ i = 1 ∨ i = 2 ∨ i = 3 by omega) with rfl | rfl | rfl | rfl
    · exact ⟨48492, 792784351, by decide⟩
    · exact ⟨33296, 543716863, by decide⟩
    · exact ⟨41063, 669935575, by decide⟩
    · exact ⟨7770, 126533647, by decide⟩
  have e : sk_phi (k % 4) = sk_phi k := by
    unfold sk_phi sk_m sk_f
    rw [Nat.mod_mod]
  obtain ⟨c, u, hc⟩ := key (k % 4) (Nat.mod_lt _ (by decide))
  rw [e] at hc
  obtain ⟨h3, -, h4, -, -⟩ := sk_at k
  intro hz
  obtain ⟨t, ht⟩ := Nat.dvd_of_mod_eq_zero hz
  -- (T - j) * phi = 65537 * (s - t)
  obtain ⟨w, hw⟩ : ∃ w, sk_t k = j + w := ⟨sk_t k - j, by omega⟩
  rw [hw, Nat.add_mul] at h3
  have h5 : w * sk_phi k = 65537 * sk_s k - 65537 * t := by omega
  have h6 : w * sk_phi k = 65537 * (sk_s k - t) := by rw [Nat.mul_sub]; exact h5
  have h7 : w * (c * sk_phi k) = 65537 * ((sk_s k - t) * c) := by
    rw [Nat.mul_comm c, ← Nat.mul_assoc, h6, Nat.mul_assoc]
  rw [hc, Nat.mul_add, Nat.mul_one, Nat.mul_left_comm] at h7
  have h8 : w % 65537 = 0 := by
    have := congrArg (· % 65537) h7
    simp only [Nat.mul_mod_right, Nat.add_mul_mod_self_left] at this
    exact this
  omega
theorem sk_yes (k : Nat) : (1 + sk_t k * sk_phi k) % 65537 = 0 ∧ (1 + sk_t k * sk_phi k) / 65537 = sk_s k := by
  rw [← (sk_at k).1]
  exact ⟨Nat.mul_mod_right _ _, Nat.mul_div_cancel_left _ (by decide)⟩
theorem sk_lt (k : Nat) : 1 < sk_m k ∧ sk_m k < 2 ^ 30 ∧ 1 < sk_f k ∧ sk_f k < 2 ^ 15 := by
  unfold sk_m sk_f
  repeat' split
  all_goals decide
