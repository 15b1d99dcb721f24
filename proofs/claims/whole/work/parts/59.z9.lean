/-! the reference's whole state: numbers V, rows A, the long row S; its addresses ra never change -/
def mq_isA (k : Nat) : Bool := (k == 2) || (k == 5) || (k == 6) || (k == 7) || (k == 10) || (k == 13) || (k == 16) || (k == 17) || (k == 18) || (k == 19) || (k == 20) || (k == 21) || (k == 24) || (k == 25) || (k == 26) || (k == 27) || (k == 28) || (k == 29) || (k == 30) || (k == 31) || (k == 32) || (k == 34) || (k == 35) || (k == 36) || (k == 37) || (k == 38) || (k == 39) || (k == 40) || (k == 42) || (k == 44) || (k == 47) || (k == 49)
def mq_len (k : Nat) : Nat := if k = 2 then 100 else if k = 5 then 480 else if k = 6 then 12 else if k = 7 then 12 else if k = 10 then 600 else if k = 13 then 4 else if k = 16 then 60 else if k = 17 then 60 else if k = 18 then 60 else if k = 19 then 60 else if k = 20 then 60 else if k = 21 then 60 else if k = 24 then 3 else if k = 25 then 3 else if k = 26 then 180 else if k = 27 then 180 else if k = 28 then 180 else if k = 29 then 180 else if k = 30 then 12 else if k = 31 then 3 else if k = 32 then 3 else if k = 34 then 4 else if k = 35 then 4 else if k = 36 then 4 else if k = 37 then 48 else if k = 38 then 4 else if k = 39 then 16 else if k = 40 then 4 else if k = 42 then 60 else if k = 44 then 4 else if k = 47 then 12 else 100
def mq_ty (k : Nat) : Nat := if k = 16 then 102 else 100
def mq_v (ra : Nat → Nat) (V : Nat → Int32) (k : Nat) : Value := if mq_isA k = true then .ref (ra k) else .int (V k)
def mq_R (D : va_G) (M : mw_M) (mm : Nat) (ra : Nat → Nat) (V : Nat → Int32) (A : Nat → Nat → Int32) (S : Nat → Int64) : Prop :=
  M mm = some (.inr (13, mo_l (mq_v ra V))) ∧ (∀ k : Nat, mq_isA k = true → k ≠ 13 → M (ra k) = some (.inl (D.1 (mq_ty k), mq_len k, .inl (A k)))) ∧ M (ra 13) = some (.inl (D.1 101, 4, .inr (.inl S))) ∧ ∀ i j : Nat, mq_isA i = true → mq_isA j = true → i ≠ j → ra i ≠ ra j
def mq_P (mm : Nat) (ra : Nat → Nat) (q : Nat) : Prop := q = mm ∨ ∃ k : Nat, mq_isA k = true ∧ q = ra k
theorem mq_vi {ra : Nat → Nat} {V : Nat → Int32} {k : Nat} {x : Int32} (h : mq_isA k = false) (hv : V k = x) : mq_v ra V k = .int x := by
  unfold mq_v
  rw [if_neg (by rw [h]; decide), hv]
theorem mq_va {ra : Nat → Nat} {V : Nat → Int32} {k : Nat} (h : mq_isA k = true) : mq_v ra V k = .ref (ra k) := if_pos h
theorem mq_vu {ra : Nat → Nat} {V : Nat → Int32} {k : Nat} {x : Int32} (h : mq_isA k = false) : va_up (mq_v ra V) k (.int x) = mq_v ra (va_up V k x) := by
  funext j
  by_cases e : j = k
  · subst e
    rw [va_up_self]
    exact (mq_vi h (va_up_self _ _ _)).symm
  · rw [va_up_ne _ _ e]
    unfold mq_v
    rw [va_up_ne _ _ e]
theorem mq_vs {V V1 : Nat → Int32} {k : Nat} {x : Int32} (h : V1 = va_up V k x) : V1 k = x := by rw [h]; exact va_up_self _ _ _
theorem mq_vn {V V1 : Nat → Int32} {k j : Nat} {x y : Int32} (h : V1 = va_up V k x) (hj : V j = y) (hn : j ≠ k) : V1 j = y := by rw [h, va_up_ne _ _ hn]; exact hj
theorem mq_as {A A1 : Nat → Nat → Int32} {k : Nat} {x : Nat → Int32} (h : A1 = va_up A k x) : A1 k = x := by rw [h]; exact va_up_self _ _ _
theorem mq_an {A A1 : Nat → Nat → Int32} {k j : Nat} {x y : Nat → Int32} (h : A1 = va_up A k x) (hj : A j = y) (hn : j ≠ k) : A1 j = y := by rw [h, va_up_ne _ _ hn]; exact hj
section MQ
variable {D : va_G} {M M1 : mw_M} {mm : Nat} {ra : Nat → Nat} {V V1 : Nat → Int32} {A : Nat → Nat → Int32} {S : Nat → Int64}
theorem mq_R.m (h : mq_R D M mm ra V A S) : M mm = some (.inr (13, mo_l (mq_v ra V))) := h.1
theorem mq_R.w (h : mq_R D M mm ra V A S) (k : Nat) (hk : mq_isA k = true) (h13 : k ≠ 13) : M (ra k) = some (.inl (D.1 (mq_ty k), mq_len k, .inl (A k))) := h.2.1 k hk h13
theorem mq_R.na (h : mq_R D M mm ra V A S) (k : Nat) (hk : mq_isA k = true) : ∃ y, M (ra k) = some (.inl y) := by
  by_cases e : k = 13
  · exact ⟨_, by rw [e]; exact h.2.2.1⟩
  · exact ⟨_, h.2.1 k hk e⟩
theorem mq_R.ne (h : mq_R D M mm ra V A S) (k : Nat) (hk : mq_isA k = true) : ra k ≠ mm := fun q => by
  obtain ⟨y, hy⟩ := h.na k hk
  rw [q, h.1] at hy
  cases hy
theorem mq_R.setV (h : mq_R D M mm ra V A S) (hM1 : M1 = va_up M mm (some (.inr (13, mo_l (mq_v ra V1))))) : mq_R D M1 mm ra V1 A S :=
  ⟨mw_us hM1, fun k hk h13 => mw_uu hM1 (h.2.1 k hk h13) (h.ne k hk), mw_uu hM1 h.2.2.1 (h.ne 13 rfl), h.2.2.2⟩
theorem mq_R.setA (h : mq_R D M mm ra V A S) (k : Nat) {g : Nat → Int32} {A1 : Nat → Nat → Int32} (hk : mq_isA k = true) (h13 : k ≠ 13) (hM1 : M1 = va_up M (ra k) (some (.inl (D.1 (mq_ty k), mq_len k, .inl g)))) (hA1 : A1 = va_up A k g) : mq_R D M1 mm ra V A1 S := by
  refine ⟨mw_uu hM1 h.1 (h.ne k hk).symm, fun j hj hj13 => ?_, mw_uu hM1 h.2.2.1 (h.2.2.2 13 k rfl hk (Ne.symm h13)), h.2.2.2⟩
  rw [hA1]
  by_cases e : j = k
  · subst e
    rw [va_up_self]
    exact mw_us hM1
  · rw [va_up_ne _ _ e]
    exact mw_uu hM1 (h.2.1 j hj hj13) (h.2.2.2 j k hj hk e)
theorem mq_R.setS (h : mq_R D M mm ra V A S) {S1 : Nat → Int64} (hM1 : M1 = va_up M (ra 13) (some (.inl (D.1 101, 4, .inr (.inl S1))))) : mq_R D M1 mm ra V A S1 :=
  ⟨mw_uu hM1 h.1 (h.ne 13 rfl).symm, fun j hj hj13 => mw_uu hM1 (h.2.1 j hj hj13) (h.2.2.2 j 13 hj rfl hj13), mw_us hM1, h.2.2.2⟩
theorem mq_R.fr {P : Nat → Prop} (h : mq_R D M mm ra V A S) (hF : mw_fr P M M1) (hm : ¬ P mm) (ha : ∀ k : Nat, mq_isA k = true → ¬ P (ra k)) : mq_R D M1 mm ra V A S :=
  ⟨hF.at h.1 hm, fun k hk h13 => hF.at (h.2.1 k hk h13) (ha k hk), hF.at h.2.2.1 (ha 13 rfl), h.2.2.2⟩
theorem mq_Pa {k : Nat} (hk : mq_isA k = true) : mq_P mm ra (ra k) := Or.inr ⟨k, hk, rfl⟩
end MQ
