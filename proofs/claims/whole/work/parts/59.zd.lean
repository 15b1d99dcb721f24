/-! renewing: the list of serial numbers that an agent keeps behind a sync -/
def rn_st (ent : Nat → Bool) (f : Nat → Option Nat) (x : Nat × List Nat) (e : Nat) : Nat × List Nat := if ent e = true then (match f e with | some n => (x.1, x.2 ++ [n]) | none => (x.1 + 1, x.2 ++ [x.1 + 1])) else x
def rn_go (ent : Nat → Bool) (f : Nat → Option Nat) (es : List Nat) (ns : Nat) : Nat × List Nat := es.foldl (rn_st ent f) (ns, [])
/-- the entries that get a new certificate, in their order -/
def rn_N (ent : Nat → Bool) (f : Nat → Option Nat) (es : List Nat) : List Nat := es.filter (fun e => ent e && (f e).isNone)
theorem rn_go_s (ent : Nat → Bool) (f : Nat → Option Nat) (es : List Nat) (ns e : Nat) : rn_go ent f (es ++ [e]) ns = rn_st ent f (rn_go ent f es ns) e := by
  unfold rn_go
  rw [List.foldl_append]
  rfl
theorem rn_N_y {ent : Nat → Bool} {f : Nat → Option Nat} {es : List Nat} {e : Nat} (h : ent e = true) (h2 : f e = none) : rn_N ent f (es ++ [e]) = rn_N ent f es ++ [e] := by
  unfold rn_N
  rw [List.filter_append, List.filter_cons_of_pos (by rw [h, h2]; rfl)]
  rfl
theorem rn_N_n {ent : Nat → Bool} {f : Nat → Option Nat} {es : List Nat} {e : Nat} (h : ent e = false ∨ ∃ n, f e = some n) : rn_N ent f (es ++ [e]) = rn_N ent f es := by
  unfold rn_N
  rw [List.filter_append, List.filter_cons_of_neg (by
    rcases h with h | ⟨n, h⟩
    · rw [h]
      exact Bool.false_ne_true
    · rw [h]
      cases ent e <;> exact Bool.false_ne_true)]
  exact List.append_nil _
theorem rn_1s (ent : Nat → Bool) (f : Nat → Option Nat) (ns : Nat) (es : List Nat) (e : Nat) (ih : (rn_go ent f es ns).1 = ns + (rn_N ent f es).length ∧ (rn_go ent f es ns).2.length ≤ es.length) : (rn_go ent f (es ++ [e]) ns).1 = ns + (rn_N ent f (es ++ [e])).length ∧ (rn_go ent f (es ++ [e]) ns).2.length ≤ (es ++ [e]).length := by
  rw [rn_go_s]
  unfold rn_st
  by_cases h : ent e = true
  · rw [if_pos h]
    cases h2 : f e with
    | none =>
      rw [rn_N_y h h2]
      show (rn_go ent f es ns).1 + 1 = _ ∧ ((rn_go ent f es ns).2 ++ [_]).length ≤ _
      rw [List.length_append, List.length_append, List.length_append, ih.1]
      exact ⟨rfl, Nat.add_le_add_right ih.2 _⟩
    | some n =>
      rw [rn_N_n (Or.inr ⟨n, h2⟩)]
      show (rn_go ent f es ns).1 = _ ∧ ((rn_go ent f es ns).2 ++ [_]).length ≤ _
      rw [List.length_append, List.length_append, ih.1]
      exact ⟨rfl, Nat.add_le_add_right ih.2 _⟩
  · rw [if_neg h, rn_N_n (Or.inl (Bool.of_not_eq_true h)), List.length_append]
    exact ⟨ih.1, Nat.le_trans ih.2 (Nat.le_add_right _ _)⟩
theorem rn_1 (ent : Nat → Bool) (f : Nat → Option Nat) (ns : Nat) (es : List Nat) : (rn_go ent f es ns).1 = ns + (rn_N ent f es).length ∧ (rn_go ent f es ns).2.length ≤ es.length := by
  have key : ∀ i : Nat, i ≤ es.length → (rn_go ent f (es.take i) ns).1 = ns + (rn_N ent f (es.take i)).length ∧ (rn_go ent f (es.take i) ns).2.length ≤ (es.take i).length := by
    intro i
    induction i with
    | zero => exact fun _ => ⟨rfl, Nat.le_refl _⟩
    | succ i ih =>
      intro hi
      obtain ⟨e, he⟩ : ∃ e, es[i]? = some e := ⟨_, List.getElem?_eq_getElem (by omega)⟩
      rw [ls_take he]
      exact rn_1s ent f ns (es.take i) e (ih (by omega))
  have := key es.length (Nat.le_refl _)
  rw [List.take_length] at this
  exact this
theorem rn_y {ent : Nat → Bool} {f : Nat → Option Nat} {es : List Nat} {ns e i : Nat} (he : es[i]? = some e) (h : ent e = true) (h2 : f e = none) : rn_go ent f (es.take (i + 1)) ns = ((rn_go ent f (es.take i) ns).1 + 1, (rn_go ent f (es.take i) ns).2 ++ [(rn_go ent f (es.take i) ns).1 + 1]) := by
  rw [ls_take he, rn_go_s]
  unfold rn_st
  rw [if_pos h, h2]
theorem rn_k {ent : Nat → Bool} {f : Nat → Option Nat} {es : List Nat} {ns e i n : Nat} (he : es[i]? = some e) (h : ent e = true) (h2 : f e = some n) : rn_go ent f (es.take (i + 1)) ns = ((rn_go ent f (es.take i) ns).1, (rn_go ent f (es.take i) ns).2 ++ [n]) := by
  rw [ls_take he, rn_go_s]
  unfold rn_st
  rw [if_pos h, h2]
theorem rn_n {ent : Nat → Bool} {f : Nat → Option Nat} {es : List Nat} {ns e i : Nat} (he : es[i]? = some e) (h : ent e = false) : rn_go ent f (es.take (i + 1)) ns = rn_go ent f (es.take i) ns := by
  rw [ls_take he, rn_go_s]
  unfold rn_st
  rw [if_neg (by rw [h]; decide)]
