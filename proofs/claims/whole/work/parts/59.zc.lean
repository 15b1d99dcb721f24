/-! what is written: rows of bytes by a list -/
def by_l (f : Nat → Int32) (L : List Nat) : Prop := ∀ j c : Nat, L[j]? = some c → f j = nI c
theorem by_nil (f : Nat → Int32) : by_l f [] := fun j c h => by
  rw [List.getElem?_nil] at h
  cases h
theorem by_snoc {f : Nat → Int32} {L : List Nat} (h : by_l f L) (c : Nat) : by_l (upd f L.length (nI c)) (L ++ [c]) := fun j d hj => by
  unfold upd
  by_cases e : j = L.length
  · rw [if_pos e]
    rw [e, List.getElem?_concat_length] at hj
    cases hj
    rfl
  · rw [if_neg e]
    have hl : j < L.length := by
      have := (List.getElem?_eq_some_iff.mp hj).1
      rw [List.length_append, List.length_singleton] at this
      omega
    rw [List.getElem?_append_left hl] at hj
    exact h j d hj
theorem by_set {f : Nat → Int32} {L : List Nat} (h : by_l f L) (i c : Nat) : by_l (upd f i (nI c)) (L.set i c) := fun j d hj => by
  unfold upd
  by_cases e : j = i
  · rw [if_pos e]
    subst e
    rw [List.getElem?_set] at hj
    rw [if_pos rfl] at hj
    split at hj
    · cases hj
      rfl
    · cases hj
  · rw [if_neg e]
    rw [List.getElem?_set, if_neg (Ne.symm e)] at hj
    exact h j d hj
/-- the bytes of a number, and how many -/
def nm_s (v : Nat) : Nat := if v < 128 then 1 else if v < 32768 then 2 else if v < 8388608 then 3 else 4
def nm_b (v : Nat) : Nat → List Nat
  | 0 => []
  | i + 1 => (v / 2 ^ (8 * i) % 256) :: nm_b v i
def nm_l (v : Nat) : List Nat := 2 :: nm_s v :: nm_b v (nm_s v)
theorem nm_b_len (v : Nat) : ∀ i : Nat, (nm_b v i).length = i
  | 0 => rfl
  | i + 1 => by
    show (nm_b v i).length + 1 = _
    rw [nm_b_len v i]
theorem nm_s_le (v : Nat) : 1 ≤ nm_s v ∧ nm_s v ≤ 4 := by
  unfold nm_s
  repeat' split
  all_goals decide
theorem nm_l_len (v : Nat) : (nm_l v).length ≤ 6 ∧ (nm_l v).length = 2 + nm_s v := by
  have := nm_s_le v
  show (nm_b v (nm_s v)).length + 1 + 1 ≤ 6 ∧ (nm_b v (nm_s v)).length + 1 + 1 = 2 + nm_s v
  rw [nm_b_len]
  omega
theorem nm_b_lt (v : Nat) : ∀ (i c : Nat), c ∈ nm_b v i → c < 256
  | 0, c => fun h => absurd h List.not_mem_nil
  | i + 1, c => fun h => by
    rcases List.mem_cons.mp h with rfl | h
    · exact Nat.mod_lt _ (by decide)
    · exact nm_b_lt v i c h
theorem nm_l_lt {v c : Nat} (h : c ∈ nm_l v) : c < 256 := by
  have h4 := nm_s_le v
  rcases List.mem_cons.mp h with rfl | h
  · decide
  · rcases List.mem_cons.mp h with rfl | h
    · omega
    · exact nm_b_lt v _ c h
/-- the class's loop for the size: one more while more is there -/
theorem nm_s_1 {v : Nat} (h : v / 2 ^ 7 = 0) : nm_s v = 1 := by
  unfold nm_s
  rw [if_pos (by omega)]
theorem nm_s_2 {v : Nat} (h1 : v / 2 ^ 7 ≠ 0) (h : v / 2 ^ 15 = 0) : nm_s v = 2 := by
  unfold nm_s
  rw [if_neg (by omega), if_pos (by omega)]
theorem nm_s_3 {v : Nat} (h1 : v / 2 ^ 15 ≠ 0) (h : v / 2 ^ 23 = 0) : nm_s v = 3 := by
  unfold nm_s
  rw [if_neg (by omega), if_neg (by omega), if_pos (by omega)]
theorem nm_s_4 {v : Nat} (h1 : v / 2 ^ 23 ≠ 0) : nm_s v = 4 := by
  unfold nm_s
  rw [if_neg (by omega), if_neg (by omega), if_neg (by omega)]
/-- the whole certificate: serial, key, start, end; the ID's text -/
def ec_0 (q1 q2 q3 q4 : Nat) (tx : List Nat) : List Nat := [48, 0, 48, 0] ++ nm_l q1 ++ nm_l q2 ++ nm_l q3 ++ nm_l q4 ++ [134] ++ [tx.length] ++ tx ++ [3, 2, 7, 128]
def ec_1 (q1 q2 q3 q4 : Nat) (tx : List Nat) : List Nat := (ec_0 q1 q2 q3 q4 tx).set 3 ((ec_0 q1 q2 q3 q4 tx).length - 4)
def ec_sum (L : List Nat) : Nat := (L.drop 2).foldl (fun h b => (h * 257 + b + 1) % 1000000007) 1
def ec_sig (q1 q2 q3 q4 : Nat) (tx : List Nat) : Nat := pw_n (sk_m q2) 31 (sk_s q2) (ec_sum (ec_1 q1 q2 q3 q4 tx) % sk_m q2) 1
def ec_2 (q1 q2 q3 q4 : Nat) (tx : List Nat) : List Nat := ec_1 q1 q2 q3 q4 tx ++ nm_l (ec_sig q1 q2 q3 q4 tx)
def ec_3 (q1 q2 q3 q4 : Nat) (tx : List Nat) : List Nat := (ec_2 q1 q2 q3 q4 tx).set 1 ((ec_2 q1 q2 q3 q4 tx).length - 2)
theorem ec_0_len {q1 q2 q3 q4 : Nat} {tx : List Nat} (h : tx.length ≤ 40) : (ec_0 q1 q2 q3 q4 tx).length ≤ 74 ∧ 10 ≤ (ec_0 q1 q2 q3 q4 tx).length := by
  have h1 := nm_l_len q1
  have h2 := nm_l_len q2
  have h3 := nm_l_len q3
  have h4 := nm_l_len q4
  unfold ec_0
  simp only [List.length_append, List.length_cons, List.length_nil]
  omega
