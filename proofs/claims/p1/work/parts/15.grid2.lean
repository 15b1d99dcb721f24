theorem mw_kept {D : va_G} {cl : List vw_C} {z : Nat} {M : mw_M} {H H1 : Heap} (h : mw_at D cl z M H) (hz : H.size ≤ H1.size) (hq : ∀ a : Nat, a < H.size → H1[a]? = H[a]?) : mw_at D cl z M H1 := by
  obtain ⟨h1, ws, hP, hD, hE⟩ := h
  exact ⟨Nat.le_trans h1 hz, ws, hP.kept (fun k q hk => hq q.1 ((hP k q hk).lt)), hD, hE⟩
theorem mw_add {D : va_G} {cl : List vw_C} {z a : Nat} {e : va_E} {M : mw_M} {H : Heap} (h : mw_at D cl z M H) (hn : M a = none) (ha : z ≤ a) (he : va_at D cl (a, e) H) : mw_at D cl z (va_up M a (some e)) H := by
  obtain ⟨h1, ws, hP, hD, hE⟩ := h
  have hD1 : va_D (mw_A z) (ws ++ [(a, e)]) := by
    refine va_D.app hD ⟨fun i j p q hi hj _ => ?_, fun k q hk => ?_⟩ (fun i j p q hi hj hpq => ?_)
    · have a1 := (List.getElem?_eq_some_iff.mp hi).1
      have a2 := (List.getElem?_eq_some_iff.mp hj).1
      have b1 : i < 1 := a1
      have b2 : j < 1 := a2
      omega
    · have b1 : k < 1 := (List.getElem?_eq_some_iff.mp hk).1
      rw [show k = 0 by omega] at hk
      cases hk
      exact ha
    · have b1 : j < 1 := (List.getElem?_eq_some_iff.mp hj).1
      rw [show j = 0 by omega] at hj
      cases hj
      have hm := (hE p.1 p.2).2 (List.mem_of_getElem? hi)
      have hp2 : p.1 = a := hpq
      rw [hp2, hn] at hm
      cases hm
  refine ⟨h1, ws ++ [(a, e)], hP.app (fun k q hk => ?_), hD1, mw_push hD1 hE⟩
  have b1 : k < 1 := (List.getElem?_eq_some_iff.mp hk).1
  rw [show k = 0 by omega] at hk
  cases hk
  exact he
def gm_Mr (M : mw_M) (q : Nat) (e : va_E) : Nat → mw_M
  | 0 => M
  | j + 1 => va_up (gm_Mr M q e j) (q + 1 + j) (some e)
theorem gm_Mr_out {M : mw_M} {q : Nat} {e : va_E} {a : Nat} : ∀ i, (∀ j, j < i → a ≠ q + 1 + j) → gm_Mr M q e i a = M a
  | 0, _ => rfl
  | i + 1, h => by
    show va_up (gm_Mr M q e i) (q + 1 + i) (some e) a = M a
    rw [va_up_ne _ _ (h i (Nat.lt_succ_self i))]
    exact gm_Mr_out i (fun j hj => h j (Nat.lt_succ_of_lt hj))
theorem gm_Mr_in {M : mw_M} {q : Nat} {e : va_E} : ∀ i j, j < i → gm_Mr M q e i (q + 1 + j) = some e
  | 0, _, h => absurd h (Nat.not_lt_zero _)
  | i + 1, j, h => by
    show va_up (gm_Mr M q e i) (q + 1 + i) (some e) (q + 1 + j) = some e
    by_cases hj : j = i
    · subst hj
      exact va_up_self _ _ _
    · rw [va_up_ne _ _ (by omega)]
      exact gm_Mr_in i j (by omega)
section GMM
variable {p : Program} {l : Launch} {e : Env} {R : Room} {s : State} {m : MethodId} {args : Array Value} {below : List Frame} {meth : Method} {c : Code} {H : Heap} {locs : List Loc} {cells slots : Nat} {Q : State → Prop} {cc : ByteArray} {pc nL : Nat} {ls : Array Slot} {rest : List Value} {D : va_G} {z : Nat} {M : mw_M} {own : String}
/-- new int[n][k]: q the outer array, q + 1 .. q + n its rows -/
theorem mw_multi (E : mw_E p m c cc nL s args D z own) (hM : mw_at D mg_cl z M H) (hS : va_S (mw_A z) s.heap H locs) {index : Nat} (hclink : (Cond.classLink own index "[[I").before args s = true) (harr : (Cond.arrayClass .int).before args s = true)
    (hdg : decode cc pc = .ok (.multianewarray index 2, 4)) {n k : Int32} {N K : Nat} (hN : n.toNatClampNeg = N) (hK : k.toNatClampNeg = K) (hn : ¬ n < 0) (hk : ¬ k < 0) (hb1 : N ≤ 65536) (hb2 : K ≤ 65536) (hcells : cells + (1 + N) ≤ R.cells) (hslots : slots + (N + N * K) ≤ R.slots)
    (kk : ∀ (q : Nat) (H1 : Heap) (locs1 : List Loc), (∀ j, j ≤ N → M (q + j) = none) → mw_at D mg_cl z (va_up (gm_Mr M q (.inl (D.1 100, K, .inl (fun _ => 0))) N) q (some (.inl (D.1 104, N, .inr (.inr (.inr (.inr (fun j => if j < N then some (q + 1 + j) else none)))))))) H1 → va_S (mw_A z) s.heap H1 locs1 →
      W p l e R s m args below meth c H1 locs1 (cells + 1 + N) (slots + N + N * K) Q (F0 m (pc + 4) ls (.ref q :: rest))) : W p l e R s m args below meth c H locs cells slots Q (F0 m pc ls (.int k :: .int n :: rest)) := by
  refine gm_W E.x E.b E.o hclink E.N.2.2.2.2.1 harr hdg hN hK hn hk hb1 hb2 hcells hslots fun H1 cA comp fA fC z1 o1 r1 q1 => ?_
  have eA : cA = D.1 104 := Option.some.inj (fA.symm.trans (E.K.2 4 _ rfl).2)
  have eC : comp = D.1 100 := Option.some.inj (fC.symm.trans (E.K.2 0 _ rfl).2)
  subst eA
  subst eC
  have hfresh : ∀ j, j ≤ N → M (H.size + j) = none := fun j _ => by
    cases h : M (H.size + j) with
    | none => rfl
    | some e' =>
      have := mw_lt hM h
      omega
  have hM1 : mw_at D mg_cl z M H1 := mw_kept hM (by omega) q1
  have hM2 : ∀ i, i ≤ N → mw_at D mg_cl z (gm_Mr M H.size (.inl (D.1 100, K, .inl (fun _ => 0))) i) H1 := by
    intro i
    induction i with
    | zero => intro _; exact hM1
    | succ i ih =>
      intro hi
      refine mw_add (ih (by omega)) ?_ (Nat.le_trans hM.1 (by omega)) ?_
      · rw [gm_Mr_out i (fun j hj => by omega), show H.size + 1 + i = H.size + (1 + i) by omega]
        exact hfresh _ (by omega)
      · exact r1 i (by omega)
  refine kk H.size H1 _ hfresh (mw_add (hM2 N (Nat.le_refl _)) ?_ hM.1 ?_) ⟨Nat.le_trans hS.1 (by omega), fun x h1 h2 => (q1 x (Nat.lt_of_lt_of_le h1 hS.1)).trans (hS.2.1 x h1 h2), fun x hx => ?_⟩
  · rw [gm_Mr_out N (fun j hj => by omega)]
    exact hfresh 0 (Nat.zero_le _)
  · show H1[H.size]? = some (vp_cell _ _)
    rw [o1, vp_cell_q]
    unfold gm_o
    congr 2
    funext j
    by_cases hj : j < N
    · rw [if_pos hj, if_pos hj]
      rfl
    · rw [if_neg hj, if_neg hj]
      rfl
  · rcases List.mem_append.mp hx with h | h
    · exact hS.2.2 x h
    · obtain ⟨j, -, rfl⟩ := List.mem_map.mp h
      exact hM.1
end GMM
theorem gm_keep {M : mw_M} {q N b : Nat} {e r o : va_E} (h : M b = some e) (hf : ∀ j, j ≤ N → M (q + j) = none) : va_up (gm_Mr M q r N) q (some o) b = some e := by
  have h0 : b ≠ q := mw_neN h (hf 0 (Nat.zero_le _))
  rw [va_up_ne _ _ h0, gm_Mr_out N (fun j hj => mw_neN h (by rw [Nat.add_assoc]; exact hf (1 + j) (by omega)))]
  exact h
theorem gm_dom {M : mw_M} {q N b : Nat} {r o : va_E} (h : M b ≠ none) (hf : ∀ j, j ≤ N → M (q + j) = none) : va_up (gm_Mr M q r N) q (some o) b ≠ none := by
  cases hb : M b with
  | none => exact absurd hb h
  | some e =>
    rw [gm_keep hb hf]
    exact fun z => by cases z
theorem gm_rows {M : mw_M} {q N j : Nat} {r o : va_E} (hj : j < N) : va_up (gm_Mr M q r N) q (some o) (q + 1 + j) = some r := by
  rw [va_up_ne _ _ (by omega)]
  exact gm_Mr_in N j hj
theorem gm_fr {P : Nat → Prop} {M0 M : mw_M} {q N : Nat} {r o : va_E} (h : mw_fr P M0 M) (hf : ∀ j, j ≤ N → M (q + j) = none) : mw_fr P M0 (va_up (gm_Mr M q r N) q (some o)) :=
  ⟨fun a e ha hm => gm_keep (h.1 a e ha hm) hf, fun a ha => gm_dom (h.2 a ha) hf⟩
theorem gm_mn {L : List Nat} {M : mw_M} {q N : Nat} {r o : va_E} (h : mn_l L M) (hf : ∀ j, j ≤ N → M (q + j) = none) : mn_l (q :: ((List.range N).map (fun j => q + 1 + j) ++ L)) (va_up (gm_Mr M q r N) q (some o)) := by
  have hrow : ∀ a ∈ (List.range N).map (fun j => q + 1 + j), ∃ j, j < N ∧ a = q + 1 + j := fun a ha => by
    obtain ⟨j, hj, rfl⟩ := List.mem_map.mp ha
    exact ⟨j, List.mem_range.mp hj, rfl⟩
  refine ⟨List.nodup_cons.mpr ⟨fun z => ?_, List.nodup_append.mpr ⟨?_, h.1, fun a ha b hb hab => ?_⟩⟩, fun a ha => ?_⟩
  · rcases List.mem_append.mp z with z | z
    · obtain ⟨j, -, hj⟩ := hrow q z
      omega
    · exact h.2 q z (hf 0 (Nat.zero_le _))
  · unfold List.Nodup
    rw [List.pairwise_map]
    refine (List.pairwise_lt_range).imp (fun hab => ?_)
    omega
  · obtain ⟨j, hj, rfl⟩ := hrow a ha
    subst hab
    exact h.2 _ hb (by rw [Nat.add_assoc]; exact hf (1 + j) (by omega))
  · rcases List.mem_cons.mp ha with rfl | ha
    · rw [va_up_self]
      exact fun z => by cases z
    · rcases List.mem_append.mp ha with ha | ha
      · obtain ⟨j, hj, rfl⟩ := hrow a ha
        rw [gm_rows hj]
        exact fun z => by cases z
      · exact gm_dom (h.2 a ha) hf
