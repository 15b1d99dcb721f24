/-! what a method leaves as it was: cells outside P stay, and no cell goes -/
def mw_fr (P : Nat → Prop) (M M' : mw_M) : Prop := (∀ (q : Nat) (e : va_E), ¬ P q → M q = some e → M' q = some e) ∧ ∀ q : Nat, M q ≠ none → M' q ≠ none
theorem mw_fr.rf {P : Nat → Prop} {M : mw_M} : mw_fr P M M := ⟨fun _ _ _ h => h, fun _ h => h⟩
theorem mw_dom {M : mw_M} {a q : Nat} {x : va_E} (h : M q ≠ none) : va_up M a (some x) q ≠ none := by
  by_cases e : q = a
  · subst e
    rw [va_up_self]
    exact fun z => by cases z
  · rw [va_up_ne _ _ e]
    exact h
theorem mw_fr.up {P : Nat → Prop} {M M1 : mw_M} {a : Nat} {x : va_E} (h : mw_fr P M M1) (ha : P a) : mw_fr P M (va_up M1 a (some x)) := ⟨fun q e hq hm => by
  rw [va_up_ne _ _ (fun z => hq (by rw [z]; exact ha))]
  exact h.1 q e hq hm, fun q hq => mw_dom (h.2 q hq)⟩
theorem mw_fr.new {P : Nat → Prop} {M M1 : mw_M} {a : Nat} {x : va_E} (h : mw_fr P M M1) (ha : M1 a = none) : mw_fr P M (va_up M1 a (some x)) := ⟨fun q e hq hm => by
  have h1 := h.1 q e hq hm
  rw [va_up_ne _ _ (mw_neN h1 ha)]
  exact h1, fun q hq => mw_dom (h.2 q hq)⟩
theorem mw_fr.trans {P : Nat → Prop} {M M1 M2 : mw_M} (h : mw_fr P M M1) (h2 : mw_fr P M1 M2) : mw_fr P M M2 := ⟨fun q e hq hm => h2.1 q e hq (h.1 q e hq hm), fun q hq => h2.2 q (h.2 q hq)⟩
theorem mw_fr.mono {P P' : Nat → Prop} {M M1 : mw_M} (h : mw_fr P M M1) (hp : ∀ q, P q → P' q) : mw_fr P' M M1 := ⟨fun q e hq hm => h.1 q e (fun z => hq (hp q z)) hm, h.2⟩
theorem mw_fr.at {P : Nat → Prop} {M M1 : mw_M} {a : Nat} {e : va_E} (h : mw_fr P M M1) (ha : M a = some e) (hp : ¬ P a) : M1 a = some e := h.1 a e hp ha
/-- different addresses, each with a cell -/
def mn_l (L : List Nat) (M : mw_M) : Prop := L.Nodup ∧ ∀ a ∈ L, M a ≠ none
theorem mn_new {L : List Nat} {M : mw_M} {q : Nat} {e : va_E} (h : mn_l L M) (hq : M q = none) : mn_l (q :: L) (va_up M q (some e)) :=
  ⟨List.nodup_cons.mpr ⟨fun z => h.2 q z hq, h.1⟩, fun a ha => by
    rcases List.mem_cons.mp ha with rfl | ha
    · rw [va_up_self]
      exact fun z => by cases z
    · exact mw_dom (h.2 a ha)⟩
theorem mn_up {L : List Nat} {M : mw_M} {a : Nat} {x : va_E} (h : mn_l L M) : mn_l L (va_up M a (some x)) := ⟨h.1, fun q hq => mw_dom (h.2 q hq)⟩
theorem mn_fr {L : List Nat} {P : Nat → Prop} {M M1 : mw_M} (h : mn_l L M) (hf : mw_fr P M M1) : mn_l L M1 := ⟨h.1, fun q hq => hf.2 q (h.2 q hq)⟩
theorem mn_ne {L : List Nat} {M : mw_M} (h : mn_l L M) (i j : Nat) {a b : Nat} (hi : L[i]? = some a) (hj : L[j]? = some b) (hij : i ≠ j) : a ≠ b := fun q => by
  subst q
  have h1 := (List.getElem?_eq_some_iff.mp hi).1
  exact hij ((List.getElem?_inj h1 h.1).mp (hi.trans hj.symm))
theorem mn_out {pre L0 : List Nat} {M : mw_M} {q : Nat} (h : mn_l (pre ++ L0) M) (i : Nat) (hq : pre[i]? = some q) : q ∉ L0 := fun z => (List.nodup_append.mp h.1).2.2 q (List.mem_of_getElem? hq) q z rfl
theorem mn_in {L : List Nat} {q : Nat} (i : Nat) (hq : L[i]? = some q) : ¬ q ∉ L := fun h => h (List.mem_of_getElem? hq)
theorem mn_suf {pre L0 : List Nat} (q : Nat) (h : q ∉ pre ++ L0) : q ∉ L0 := fun z => h (List.mem_append_right pre z)
theorem mn_tail {pre L0 : List Nat} {M : mw_M} (h : mn_l (pre ++ L0) M) : mn_l L0 M := ⟨(List.nodup_append.mp h.1).2.1, fun a ha => h.2 a (List.mem_append_right pre ha)⟩
/-- a whole number that is neither negative nor beyond k -/
theorem mi_in {i : Int32} {k n : Nat} (hk : k ≤ n) (hn : n < 2 ^ 31) (h1 : ¬ i < 0) (h2 : ¬ nI k ≤ i) : vp_in i n := by
  obtain ⟨j, hj, rfl⟩ := nI_of h1
  rw [nI_leI (by omega) hj] at h2
  exact vp_in_nI (by omega) hn
theorem mi_nat {i : Int32} {k : Nat} (hk : k < 2 ^ 31) (h1 : ¬ i < 0) (h2 : ¬ nI k ≤ i) : ∃ j : Nat, j < k ∧ i = nI j := by
  obtain ⟨j, hj, rfl⟩ := nI_of h1
  rw [nI_leI (by omega) hj] at h2
  exact ⟨j, by omega, rfl⟩
theorem mw_us {M M1 : mw_M} {a : Nat} {y : va_E} (hE : M1 = va_up M a (some y)) : M1 a = some y := by rw [hE]; exact va_up_self _ _ _
theorem mw_uu {M M1 : mw_M} {a b : Nat} {x y : va_E} (hE : M1 = va_up M a (some y)) (h : M b = some x) (hn : b ≠ a) : M1 b = some x := by rw [hE, va_up_ne _ _ hn]; exact h
theorem mw_un {M M1 : mw_M} {a b : Nat} {x y : va_E} (hE : M1 = va_up M a (some y)) (hq : M a = none) (h : M b = some x) : M1 b = some x := mw_uu hE h (mw_neN h hq)
theorem mw_fu {P : Nat → Prop} {M0 M M1 : mw_M} {a : Nat} {y : va_E} (hE : M1 = va_up M a (some y)) (h : mw_fr P M0 M) (ha : P a) : mw_fr P M0 M1 := by rw [hE]; exact h.up ha
theorem mw_fn {P : Nat → Prop} {M0 M M1 : mw_M} {a : Nat} {y : va_E} (hE : M1 = va_up M a (some y)) (hq : M a = none) (h : mw_fr P M0 M) : mw_fr P M0 M1 := by rw [hE]; exact h.new hq
theorem mn_uu {L : List Nat} {M M1 : mw_M} {a : Nat} {y : va_E} (hE : M1 = va_up M a (some y)) (h : mn_l L M) : mn_l L M1 := by rw [hE]; exact mn_up h
theorem mn_nn {L : List Nat} {M M1 : mw_M} {a : Nat} {y : va_E} (hE : M1 = va_up M a (some y)) (hq : M a = none) (h : mn_l L M) : mn_l (a :: L) M1 := by rw [hE]; exact mn_new h hq
