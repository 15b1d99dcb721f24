/-! reach: the class's rounds and the reference's come to one set -/
def ru_le (a c : Int32) : Prop := a ||| c = c
theorem ru_rf (a : Int32) : ru_le a a := Int32.or_self
theorem ru_tr {a b c : Int32} (h1 : ru_le a b) (h2 : ru_le b c) : ru_le a c := by
  unfold ru_le at *
  rw [← h2, ← Int32.or_assoc, h1]
theorem ru_an {a b : Int32} (h1 : ru_le a b) (h2 : ru_le b a) : a = b := by
  unfold ru_le at *
  rw [← h2, Int32.or_comm, h1]
theorem ru_l (a b : Int32) : ru_le a (a ||| b) := by
  unfold ru_le
  rw [← Int32.or_assoc, Int32.or_self]
theorem ru_r (a b : Int32) : ru_le b (a ||| b) := by
  rw [Int32.or_comm]
  exact ru_l b a
theorem ru_or {a b c : Int32} (h1 : ru_le a c) (h2 : ru_le b c) : ru_le (a ||| b) c := by
  unfold ru_le at *
  rw [Int32.or_assoc, h2, h1]
theorem ru_and1 {x y : Int32} (h : x &&& nI 1 = nI 1) : (x ||| y) &&& nI 1 = nI 1 := by
  have h' := congrArg Int32.toBitVec h
  apply Int32.toBitVec_inj.mp
  rw [Int32.toBitVec_and] at h' ⊢
  rw [Int32.toBitVec_or]
  generalize x.toBitVec = a at h' ⊢
  generalize y.toBitVec = b
  generalize (nI 1).toBitVec = c at h' ⊢
  have h2 : ∀ i : Nat, (hi : i < 32) → (a &&& c)[i] = c[i] := fun i hi => by rw [h']
  apply BitVec.eq_of_getElem_eq
  intro i hi
  have h3 := h2 i hi
  rw [BitVec.getElem_and] at h3 ⊢
  rw [BitVec.getElem_or]
  generalize a[i] = a0 at h3 ⊢
  generalize b[i] = b0
  generalize c[i] = c0 at h3 ⊢
  revert h3
  revert a0 b0 c0
  decide
theorem ru_bit {w w' p : Int32} (h : ru_le w w') (hw : (w >>> (p &&& 31)) &&& nI 1 = nI 1) : (w' >>> (p &&& 31)) &&& nI 1 = nI 1 := by
  unfold ru_le at h
  rw [← h, Int32.shiftRight_or]
  exact ru_and1 hw
section RU
variable (b : Nat → Int32) (f : Int32 → Nat → Bool)
def ru_st (w : Int32) (e : Nat) : Int32 := if f w e = true then w ||| b e else w
def ru_ps (es : List Nat) (w : Int32) : Int32 := es.foldl (ru_st b f) w
def ru_it (es : List Nat) : Nat → Int32 → Int32
  | 0, w => w
  | n + 1, w => ru_ps b f es (ru_it es n w)
def ru_cl (es : List Nat) (w : Int32) : Prop := ∀ e : Nat, e ∈ es → f w e = true → ru_le (b e) w
variable {b f}
theorem ru_st_in (w : Int32) (e : Nat) : ru_le w (ru_st b f w e) := by
  unfold ru_st
  by_cases h : f w e = true
  · rw [if_pos h]
    exact ru_l _ _
  · rw [if_neg h]
    exact ru_rf _
theorem ru_ps_in (es : List Nat) (w : Int32) : ru_le w (ru_ps b f es w) := by
  induction es generalizing w with
  | nil => exact ru_rf _
  | cons e es ih => exact ru_tr (ru_st_in w e) (ih _)
theorem ru_ps_le {es : List Nat} {w c : Int32} (hm : ∀ (w w' : Int32) (e : Nat), ru_le w w' → f w e = true → f w' e = true) (hc : ru_cl b f es c) (h : ru_le w c) : ru_le (ru_ps b f es w) c := by
  induction es generalizing w with
  | nil => exact h
  | cons e es ih =>
    refine ih (fun e' he' => hc e' (List.mem_cons_of_mem _ he')) ?_
    unfold ru_st
    by_cases hf : f w e = true
    · rw [if_pos hf]
      exact ru_or h (hc e List.mem_cons_self (hm _ _ _ h hf))
    · rw [if_neg hf]
      exact h
theorem ru_ps_fix {es : List Nat} {w : Int32} (h : ru_ps b f es w = w) : ru_cl b f es w := by
  induction es with
  | nil => exact fun e he => absurd he List.not_mem_nil
  | cons e es ih =>
    have h1 : ru_ps b f es (ru_st b f w e) = w := h
    have h2 : ru_st b f w e = w := ru_an (by
      have := ru_ps_in (b := b) (f := f) es (ru_st b f w e)
      rw [h1] at this
      exact this) (ru_st_in w e)
    rw [h2] at h1
    intro e' he' hf
    rcases List.mem_cons.mp he' with rfl | he'
    · unfold ru_st at h2
      rw [if_pos hf] at h2
      unfold ru_le
      rw [Int32.or_comm]
      exact h2
    · exact ih h1 e' he' hf
theorem ru_cl_all {es : List Nat} {w : Int32} (h : ∀ e : Nat, e ∈ es → ru_le (b e) w) : ru_cl b f es w := fun e he _ => h e he
/-- how many are in already -/
def ru_mu (b : Nat → Int32) (es : List Nat) (w : Int32) : Nat := es.countP (fun e => decide (b e ||| w = w))
theorem ru_mu_le {es : List Nat} {w w' : Int32} (h : ru_le w w') : ru_mu b es w ≤ ru_mu b es w' :=
  List.countP_mono_left (fun e _ he => decide_eq_true (show b e ||| w' = w' from ru_tr (a := b e) (b := w) (show b e ||| w = w from of_decide_eq_true he) h))
theorem ru_mu_lt {es : List Nat} {w w' : Int32} {e : Nat} (h : ru_le w w') (he : e ∈ es) (h1 : ¬ ru_le (b e) w) (h2 : ru_le (b e) w') : ru_mu b es w < ru_mu b es w' := by
  obtain ⟨l1, l2, rfl⟩ := List.append_of_mem he
  unfold ru_mu
  rw [List.countP_append, List.countP_append, List.countP_cons, List.countP_cons]
  have a1 : (decide (b e ||| w = w)) = false := decide_eq_false h1
  have a2 : (decide (b e ||| w' = w')) = true := decide_eq_true h2
  rw [if_neg (by rw [a1]; decide), if_pos a2]
  have c1 := ru_mu_le (b := b) (es := l1) h
  have c2 := ru_mu_le (b := b) (es := l2) h
  unfold ru_mu at c1 c2
  omega
theorem ru_ps_mu {es : List Nat} {w : Int32} (hn : ru_ps b f es w ≠ w) : ru_mu b es w < ru_mu b es (ru_ps b f es w) := by
  have key : ∀ (es0 l : List Nat) (w : Int32), (∀ e : Nat, e ∈ l → e ∈ es0) → ru_ps b f l w ≠ w → ∃ e : Nat, e ∈ es0 ∧ ¬ ru_le (b e) w ∧ ru_le (b e) (ru_ps b f l w) := by
    intro es0 l
    induction l with
    | nil => exact fun w _ h => absurd rfl h
    | cons e l ih =>
      intro w hs h
      by_cases h2 : ru_st b f w e = w
      · have h3 : ru_ps b f (e :: l) w = ru_ps b f l w := by
          show ru_ps b f l (ru_st b f w e) = _
          rw [h2]
        rw [h3] at h ⊢
        exact ih w (fun e' he' => hs e' (List.mem_cons_of_mem _ he')) h
      · refine ⟨e, hs e List.mem_cons_self, fun q => h2 ?_, ?_⟩
        · unfold ru_st
          by_cases hf : f w e = true
          · rw [if_pos hf, Int32.or_comm]
            exact q
          · rw [if_neg hf]
        · have h4 : ru_le (b e) (ru_st b f w e) := by
            unfold ru_st at h2 ⊢
            by_cases hf : f w e = true
            · rw [if_pos hf]
              exact ru_r _ _
            · rw [if_neg hf] at h2
              exact absurd rfl h2
          exact ru_tr h4 (ru_ps_in l _)
  obtain ⟨e, h1, h2, h3⟩ := key es es w (fun _ h => h) hn
  exact ru_mu_lt (ru_ps_in es w) h1 h2 h3
theorem ru_it_mu (es : List Nat) (w : Int32) : ∀ n : Nat, ru_cl b f es (ru_it b f es n w) ∨ n ≤ ru_mu b es (ru_it b f es n w) := by
  intro n
  induction n with
  | zero => exact Or.inr (Nat.zero_le _)
  | succ n ih =>
    have hfix : ∀ v : Int32, ru_ps b f es v = v → ru_cl b f es (ru_ps b f es v) := fun v h => by
      rw [h]
      exact ru_ps_fix h
    by_cases h : ru_ps b f es (ru_it b f es n w) = ru_it b f es n w
    · exact Or.inl (hfix _ h)
    · rcases ih with ih | ih
      · refine absurd ?_ h
        have : ∀ (l : List Nat) (v : Int32), ru_cl b f l v → ru_ps b f l v = v := by
          intro l
          induction l with
          | nil => exact fun v _ => rfl
          | cons e l ih =>
            intro v hc
            have h2 : ru_st b f v e = v := by
              unfold ru_st
              by_cases hf : f v e = true
              · rw [if_pos hf, Int32.or_comm]
                exact hc e List.mem_cons_self hf
              · rw [if_neg hf]
            show ru_ps b f l (ru_st b f v e) = v
            rw [h2]
            exact ih v (fun e' he' => hc e' (List.mem_cons_of_mem _ he'))
        exact this es _ ih
      · exact Or.inr (Nat.lt_of_le_of_lt ih (ru_ps_mu h))
theorem ru_it_cl {es : List Nat} {w : Int32} {n : Nat} (hn : es.length ≤ n) : ru_cl b f es (ru_it b f es n w) := by
  rcases ru_it_mu (b := b) (f := f) es w n with h | h
  · exact h
  · have h1 : ru_mu b es (ru_it b f es n w) = es.length := Nat.le_antisymm List.countP_le_length (Nat.le_trans hn h)
    exact ru_cl_all (fun e he => show b e ||| _ = _ from of_decide_eq_true (List.countP_eq_length.mp h1 e he))
theorem ru_it_in (es : List Nat) (w : Int32) (n : Nat) : ru_le w (ru_it b f es n w) := by
  induction n with
  | zero => exact ru_rf _
  | succ n ih => exact ru_tr ih (ru_ps_in _ _)
theorem ru_it_le {es : List Nat} {w c : Int32} (hm : ∀ (w w' : Int32) (e : Nat), ru_le w w' → f w e = true → f w' e = true) (hc : ru_cl b f es c) (h : ru_le w c) (n : Nat) : ru_le (ru_it b f es n w) c := by
  induction n with
  | zero => exact h
  | succ n ih => exact ru_ps_le hm hc ih
end RU
/-- those under the server and selected first, then the children; or all of it in each round: the same set -/
theorem ru_same (b : Nat → Int32) (f1 : Nat → Bool) (f2 : Int32 → Nat → Bool) (hm : ∀ (w w' : Int32) (e : Nat), ru_le w w' → f2 w e = true → f2 w' e = true) (es : List Nat) (w0 : Int32) {n m : Nat} (hn : es.length ≤ n) (hm2 : es.length ≤ m) : ru_it b f2 es n (ru_ps b (fun _ e => f1 e) es w0) = ru_it b (fun w e => f1 e || f2 w e) es m w0 := by
  have hmf : ∀ (w w' : Int32) (e : Nat), ru_le w w' → (f1 e || f2 w e) = true → (f1 e || f2 w' e) = true := by
    intro w w' e h q
    rw [Bool.or_eq_true] at q ⊢
    exact q.imp id (hm w w' e h)
  have hm1 : ∀ (w w' : Int32) (e : Nat), ru_le w w' → f1 e = true → f1 e = true := fun _ _ _ _ q => q
  apply ru_an
  · have hR := ru_it_cl (b := b) (f := fun w e => f1 e || f2 w e) (w := w0) hm2
    refine ru_it_le hm (fun e he q => hR e he (by rw [Bool.or_eq_true]; exact Or.inr q)) ?_ n
    refine ru_ps_le hm1 (fun e he q => hR e he (by rw [Bool.or_eq_true]; exact Or.inl q)) ?_
    exact ru_it_in es w0 m
  · refine ru_it_le hmf (fun e he q => ?_) ?_ m
    · rcases Bool.or_eq_true _ _ |>.mp q with q | q
      · have : ∀ (l : List Nat) (w : Int32), e ∈ l → ru_le (b e) (ru_ps b (fun _ e => f1 e) l w) := by
          intro l
          induction l with
          | nil => exact fun w h => absurd h List.not_mem_nil
          | cons e' l ih =>
            intro w h
            rcases List.mem_cons.mp h with rfl | h
            · refine ru_tr ?_ (ru_ps_in l _)
              unfold ru_st
              rw [if_pos q]
              exact ru_r _ _
            · exact ih _ h
        exact ru_tr (this es w0 he) (ru_it_in _ _ _)
      · exact ru_it_cl hn e he q
    · exact ru_tr (ru_ps_in es w0) (ru_it_in _ _ _)
/-- the class's own words for it -/
def ru_b (EF : Nat → Nat → Int32) (e : Nat) : Int32 := nI 1 <<< (EF e 1 &&& 31)
def ru_f1 (EF : Nat → Nat → Int32) (sel : Int32) (e : Nat) : Bool := decide (EF e 2 = 0 ∧ EF e 3 &&& (sel ^^^ -1) = 0)
def ru_f2 (EF : Nat → Nat → Int32) (w : Int32) (e : Nat) : Bool := decide ((w >>> (EF e 2 &&& 31)) &&& nI 1 = nI 1)
theorem ru_f2m (EF : Nat → Nat → Int32) (w w' : Int32) (e : Nat) (h : ru_le w w') (q : ru_f2 EF w e = true) : ru_f2 EF w' e = true := decide_eq_true (ru_bit h (of_decide_eq_true q))
theorem ru_wc {EF E0 : Nat → Nat → Int32} {es : List Nat} (h : ∀ (i e : Nat), es[i]? = some e → E0 i = EF e) (w : Int32) : ∀ i : Nat, i ≤ es.length → wc_up E0 i w = ru_ps (ru_b EF) (ru_f2 EF) (es.take i) w := by
  intro i
  induction i with
  | zero => exact fun _ => rfl
  | succ i ih =>
    intro hi
    obtain ⟨e, he⟩ : ∃ e, es[i]? = some e := ⟨_, List.getElem?_eq_getElem (by omega)⟩
    show wc_step (E0 i) (wc_up E0 i w) = _
    rw [ih (by omega), ls_take he, h i e he]
    unfold ru_ps
    rw [List.foldl_append]
    generalize List.foldl (ru_st (ru_b EF) (ru_f2 EF)) w (es.take i) = u
    show wc_step (EF e) u = ru_st (ru_b EF) (ru_f2 EF) u e
    unfold wc_step ru_st ru_f2 ru_b
    by_cases hq : (u >>> (EF e 2 &&& 31)) &&& nI 1 = nI 1
    · rw [if_pos hq, if_pos (decide_eq_true hq)]
    · rw [if_neg hq, if_neg (fun q => hq (of_decide_eq_true q))]
theorem ru_rs {EF E0 : Nat → Nat → Int32} {es : List Nat} (h : ∀ (i e : Nat), es[i]? = some e → E0 i = EF e) (sel w : Int32) : ∀ i : Nat, i ≤ es.length → rs_up E0 sel i w = ru_ps (ru_b EF) (fun _ e => ru_f1 EF sel e) (es.take i) w := by
  intro i
  induction i with
  | zero => exact fun _ => rfl
  | succ i ih =>
    intro hi
    obtain ⟨e, he⟩ : ∃ e, es[i]? = some e := ⟨_, List.getElem?_eq_getElem (by omega)⟩
    show rs_step (E0 i) sel (rs_up E0 sel i w) = _
    rw [ih (by omega), ls_take he, h i e he]
    unfold ru_ps
    rw [List.foldl_append]
    generalize List.foldl (ru_st (ru_b EF) (fun _ e => ru_f1 EF sel e)) w (es.take i) = u
    show rs_step (EF e) sel u = ru_st (ru_b EF) (fun _ e => ru_f1 EF sel e) u e
    unfold rs_step ru_st ru_f1 ru_b
    by_cases hq : EF e 2 = 0 ∧ EF e 3 &&& (sel ^^^ -1) = 0
    · rw [if_pos hq, if_pos (decide_eq_true hq)]
    · rw [if_neg hq, if_neg (fun q => hq (of_decide_eq_true q))]
theorem ru_wi {EF E0 : Nat → Nat → Int32} {es : List Nat} (h : ∀ (i e : Nat), es[i]? = some e → E0 i = EF e) (w : Int32) : ∀ j : Nat, wi_up E0 es.length j w = ru_it (ru_b EF) (ru_f2 EF) es j w := by
  intro j
  induction j with
  | zero => rfl
  | succ j ih =>
    show wc_up E0 es.length (wi_up E0 es.length j w) = ru_ps _ _ _ (ru_it _ _ _ j w)
    rw [ih, ru_wc h _ es.length (Nat.le_refl _), List.take_length]
/-- the reference's rounds over the entries that are there -/
def ru_set (EF : Nat → Nat → Int32) (es : List Nat) (i sel : Int32) : Int32 := ru_it (ru_b EF) (fun w e => ru_f1 EF sel e || ru_f2 EF w e) es 13 (nI 1 <<< (i &&& 31))
theorem ru_reach {EF E0 : Nat → Nat → Int32} {es : List Nat} (h : ∀ (i e : Nat), es[i]? = some e → E0 i = EF e) (hk : es.length ≤ 13) (i sel : Int32) : es_reach E0 es.length i sel = ru_set EF es i sel := by
  unfold es_reach ru_set
  rw [ru_wi h, ru_rs h _ _ es.length (Nat.le_refl _), List.take_length]
  exact ru_same (ru_b EF) (ru_f1 EF sel) (ru_f2 EF) (ru_f2m EF) es _ (Nat.le_refl _) hk
