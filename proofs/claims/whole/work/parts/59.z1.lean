/-! lists by what they hold: a list of addresses -/
def al_at (D : va_G) (M : mw_M) (a ar : Nat) (L : List Nat) : Prop := M (D.2 200 0) = none ∧ ∃ (cap : Nat) (mo : Int32), al_is D M a ar L.length cap mo (fun i => L[i]?)
def els_ok (M : mw_M) (L : List Nat) : Prop := ∀ y : Nat, y ∈ L → ∃ (ci : Nat) (vs : List Value) (rr : vw_C), M y = some (.inr (ci, vs)) ∧ mg_cl[ci]? = some rr ∧ (rr.1, "java/lang/Object") ∈ lw_cN ∧ ci ≠ 4
theorem mw_st0 {D : va_G} {z : Nat} {M : mw_M} {H : Heap} (hz : ¬ mw_A z (D.2 200 0)) (hM : mw_at D mg_cl z M H) : M (D.2 200 0) = none := by
  cases hc : M (D.2 200 0) with
  | none => rfl
  | some x => exact absurd rfl (mw_st hz hM hc)
theorem mw_sta {l : Launch} {y : MethodName} {cc : ByteArray} {n : Nat} {ret : Option FieldType} {fr lo mc ms : Nat} {D : va_G} {z : Nat} {M : mw_M} {av : List Value} {post : Option Value → mw_M → Prop} (h : M (D.2 200 0) = none → mw_C l y cc n ret fr lo mc ms D z M av post) : mw_C l y cc n ret fr lo mc ms D z M av (fun v M' => post v M' ∧ M' (D.2 200 0) = none) := by
  intro p e h1 h2 h3 s m args below h4 h5 hP h6
  obtain ⟨k, o, a1, a2, a3, ⟨⟨⟨v, M', b1, b2, b3⟩, b4⟩, b5⟩⟩ := h (mw_st0 (mw_stZ hP.2.2.2.1) hP.2.1) p e h1 h2 h3 s m args below h4 h5 hP h6
  exact ⟨k, o, a1, a2, a3, ⟨⟨⟨v, M', b1, ⟨b2, mw_st0 (mw_stZ b3.2.2.1) b3.1⟩, b3⟩, b4⟩, b5⟩⟩
theorem al_at.le {D : va_G} {M : mw_M} {a ar : Nat} {L : List Nat} (h : al_at D M a ar L) : L.length ≤ 15 := by
  obtain ⟨-, cap, mo, -, h1, -, h2⟩ := h
  rcases h2 with ⟨-, h2⟩ | ⟨h2, -⟩ <;> omega
theorem al_at.cell {D : va_G} {M : mw_M} {a ar : Nat} {L : List Nat} (h : al_at D M a ar L) : ∃ mo : Int32, M a = some (.inr (4, [.ref ar, .int (nI L.length), .int mo])) := by
  obtain ⟨-, cap, mo, h1, -⟩ := h
  exact ⟨mo, h1⟩
theorem al_at.nr {D : va_G} {M : mw_M} {a ar y : Nat} {L : List Nat} {ee : Nat × List Value} (h : al_at D M a ar L) (w : M y = some (.inr ee)) : y ≠ ar := fun q => by
  subst q
  obtain ⟨h0, cap, mo, -, -, -, h2⟩ := h
  rcases h2 with ⟨h2, -⟩ | ⟨-, h2⟩
  · rw [h2, h0] at w
    cases w
  · rw [h2] at w
    cases w
theorem al_at.fr {D : va_G} {P : Nat → Prop} {M M1 : mw_M} {a ar : Nat} {L : List Nat} (h : al_at D M a ar L) (z1 : M1 (D.2 200 0) = none) (hF : mw_fr P M M1) (h1 : ¬ P a) (h2 : M ar ≠ none → ¬ P ar) : al_at D M1 a ar L := by
  obtain ⟨h0, cap, mo, w, g1, g2, g3⟩ := h
  exact ⟨z1, cap, mo, hF.at w h1, g1, g2, g3.imp id (fun q => ⟨q.1, hF.at q.2 (h2 (by rw [q.2]; exact fun q => by cases q))⟩)⟩
theorem al_at.old {D : va_G} {M M1 : mw_M} {a ar : Nat} {L : List Nat} (h : al_at D M a ar L) (z1 : M1 (D.2 200 0) = none) (hF : mw_fr (fun q => M q = none) M M1) : al_at D M1 a ar L := by
  obtain ⟨-, cap, mo, h⟩ := h
  exact ⟨z1, cap, mo, h.old hF⟩
theorem els_ok.fr {P : Nat → Prop} {M M1 : mw_M} {L : List Nat} (h : els_ok M L) (hF : mw_fr P M M1) (hp : ∀ y : Nat, y ∈ L → ¬ P y) : els_ok M1 L := fun y hy => by
  obtain ⟨ci, vs, rr, w, h1⟩ := h y hy
  exact ⟨ci, vs, rr, hF.at w (hp y hy), h1⟩
theorem els_ok.el {M : mw_M} {L : List Nat} (h : els_ok M L) (k : Nat) : el_ok M (fun i => L[i]?) k := fun i _ y hy => by
  obtain ⟨ci, vs, rr, w, h1, h2, -⟩ := h y (List.mem_of_getElem? hy)
  exact ⟨ci, vs, rr, w, h1, h2⟩
theorem els_ok.na {M : mw_M} {L : List Nat} {a : Nat} {vs : List Value} (h : els_ok M L) (wa : M a = some (.inr (4, vs))) : ∀ j : Nat, L[j]? ≠ some a := fun j q => by
  obtain ⟨ci, vs, rr, w, h1, h2, h3⟩ := h a (List.mem_of_getElem? q)
  rw [wa] at w
  cases w
  exact h3 rfl
theorem la_app (L : List Nat) (y : Nat) : va_up (fun i => L[i]?) L.length (some y) = fun i => (L ++ [y])[i]? := by
  funext i
  unfold va_up
  by_cases h : i = L.length
  · rw [if_pos h, h]
    simp
  · rw [if_neg h]
    by_cases h2 : i < L.length
    · rw [List.getElem?_append_left h2]
    · show L[i]? = _
      rw [List.getElem?_eq_none (Nat.le_of_not_lt h2), List.getElem?_eq_none (by rw [List.length_append, List.length_singleton]; omega)]
theorem la_rm (L : List Nat) {i : Nat} (hi : i < L.length) : al_rm (fun i => L[i]?) i L.length = fun j => (L.eraseIdx i)[j]? := by
  funext j
  unfold al_rm
  rw [List.getElem?_eraseIdx]
  by_cases h1 : j + 1 < L.length
  · rw [if_pos h1]
  · rw [if_neg h1]
    by_cases h2 : j < i
    · omega
    · rw [if_neg h2, List.getElem?_eq_none (by omega)]
      by_cases h3 : j + 1 = L.length
      · rw [if_pos h3]
      · rw [if_neg h3]
        exact List.getElem?_eq_none (by omega)
section LA
variable (l : Launch) (D : va_G) (z : Nat) (M : mw_M) {a ar : Nat} {L : List Nat}
theorem la_size {k : Nat} (h : al_at D M a ar L) (hk : L.length = k) : mw_C l yy_AL_size bb_AL_size 1 (Option.some Jvm.ClassFile.FieldType.int) 0 0 0 0 D z M [.ref a] (fun v M' => v = some (.int (nI k)) ∧ M' = M) := by
  have := h.le
  subst hk
  obtain ⟨mo, w⟩ := h.cell
  exact cc_AL_size l D z M a ar L.length mo w (by omega)
theorem la_empty {k : Nat} (h : al_at D M a ar L) (hk : L.length = k) : mw_C l yy_AL_isEmpty bb_AL_isEmpty 1 (Option.some Jvm.ClassFile.FieldType.boolean) 0 0 0 0 D z M [.ref a] (fun v M' => v = some (.int (zI (decide (k = 0)))) ∧ M' = M) := by
  have := h.le
  subst hk
  obtain ⟨mo, w⟩ := h.cell
  refine mw_mono (fun v M' hp => ?_) (cc_AL_isEmpty l D z M a ar L.length mo w (by omega))
  refine ⟨hp.1.trans ?_, hp.2⟩
  by_cases h : L.length = 0
  · rw [if_pos h, zI_t (decide_eq_true h)]
  · rw [if_neg h, zI_f (decide_eq_false h)]
theorem la_get {i y : Nat} (h : al_at D M a ar L) (hi : L[i]? = some y) : mw_C l yy_AL_get bb_AL_get 2 (Option.some (Jvm.ClassFile.FieldType.object "java/lang/Object")) 2 43 0 0 D z M [.ref a, .int (nI i)] (fun v M' => v = some (.ref y) ∧ M' = M) := by
  obtain ⟨-, cap, mo, wa, hkc, hgz, hc⟩ := h
  have hil : i < L.length := (List.getElem?_eq_some_iff.mp hi).1
  rcases hc with ⟨-, rfl⟩ | ⟨hcap, wr⟩
  · omega
  · exact cc_AL_get l D z M a ar L.length cap mo (fun i => L[i]?) i y wa wr hkc (by omega) hil hi
theorem la_add {y ci : Nat} {rr : vw_C} {vs : List Value} (h : al_at D M a ar L) (hl : L.length < 15) (hel : els_ok M L) (wy : M y = some (.inr (ci, vs))) (hci : mg_cl[ci]? = some rr) (hcs : (rr.1, "java/lang/Object") ∈ lw_cN) (h4 : ci ≠ 4) : mw_C l yy_AL_add bb_AL_add 2 (Option.some Jvm.ClassFile.FieldType.boolean) 6 136 1 15 D z M [.ref a, .ref y] (fun v M' => v = some (.int 1) ∧ ∃ ar', al_at D M' a ar' (L ++ [y]) ∧ mw_fr (fun q => q = a ∨ q = ar) M M' ∧ (ar' = ar ∨ M ar' = none)) := by
  obtain ⟨-, cap, mo, h⟩ := h
  refine mw_mono (fun v M' hp => ?_) (mw_sta (fun _ => al_add l D z M h hl (hel.el 15) (hel.na h.1) wy hci hcs (mw_ne wy h.1 (fun q => by cases q; exact h4 rfl))))
  obtain ⟨⟨rfl, ar', cap', hal, hF, har⟩, z1⟩ := hp
  rw [la_app] at hal
  exact ⟨rfl, ar', ⟨z1, cap', _, by rw [List.length_append]; exact hal⟩, hF, har⟩
theorem la_clear (h : al_at D M a ar L) : mw_C l yy_AL_clear bb_AL_clear 4 (Option.none : Option Jvm.ClassFile.FieldType) 0 0 0 0 D z M [.ref a] (fun v M' => v = none ∧ al_at D M' a ar [] ∧ mw_fr (fun q => q = a ∨ q = ar) M M') := by
  obtain ⟨-, cap, mo, h⟩ := h
  refine mw_mono (fun v M' hp => ?_) (mw_sta (fun _ => al_clear l D z M h))
  obtain ⟨⟨rfl, hal, hF⟩, z1⟩ := hp
  rw [show (fun _ : Nat => (none : Option Nat)) = fun i => ([] : List Nat)[i]? from funext (fun i => List.getElem?_nil.symm)] at hal
  exact ⟨rfl, ⟨z1, cap, _, hal⟩, hF⟩
theorem la_remove {i x : Nat} (h : al_at D M a ar L) (hel : els_ok M L) (hi : L[i]? = some x) : mw_C l yy_AL_remove bb_AL_remove 4 (Option.some (Jvm.ClassFile.FieldType.object "java/lang/Object")) 2 49 0 0 D z M [.ref a, .int (nI i)] (fun v M' => v = some (.ref x) ∧ al_at D M' a ar (L.eraseIdx i) ∧ mw_fr (fun q => q = a ∨ q = ar) M M') := by
  obtain ⟨-, cap, mo, wa, hkc, hgz, hc⟩ := h
  have hil : i < L.length := (List.getElem?_eq_some_iff.mp hi).1
  rcases hc with ⟨-, rfl⟩ | ⟨hcap, wr⟩
  · omega
  · refine mw_mono (fun v M' hp => ?_) (mw_sta (fun _ => cc_AL_remove l D z M a ar L.length cap mo (fun i => L[i]?) i x wa wr hkc (by omega) hil (hel.el cap) (hel.na wa) hi))
    obtain ⟨⟨rfl, w1, w2, hF⟩, z1⟩ := hp
    rw [la_rm L hil] at w2
    have hlen : (L.eraseIdx i).length = L.length - 1 := List.length_eraseIdx_of_lt hil
    exact ⟨rfl, ⟨z1, cap, _, by rw [hlen]; exact w1, by omega, fun j hj => List.getElem?_eq_none hj, Or.inr ⟨hcap, w2⟩⟩, hF⟩
end LA
/-! certificates by their serial numbers -/
def ct_is (M : mw_M) (EF CF : Nat → Nat → Int32) (ent ca ce : Nat → Nat) (n : Nat) : Prop := M (ca n) = some (.inr (11, [.ref (ent (ce n)), .int (nI n), .int (CF n 2), .int (CF n 3), .int (CF n 4)])) ∧ M (ent (ce n)) = some (.inr (9, en_l (EF (ce n))))
theorem ct_els {M : mw_M} {EF CF : Nat → Nat → Int32} {ent ca ce : Nat → Nat} {ss : List Nat} (h : ∀ n : Nat, n ∈ ss → ct_is M EF CF ent ca ce n) : els_ok M (ss.map ca) := fun y hy => by
  obtain ⟨n, hn, rfl⟩ := List.mem_map.mp hy
  exact ⟨11, _, _, (h n hn).1, rfl, by decide +kernel, by decide⟩
theorem ct_is.fr {P : Nat → Prop} {M M1 : mw_M} {EF CF : Nat → Nat → Int32} {ent ca ce : Nat → Nat} {n : Nat} (h : ct_is M EF CF ent ca ce n) (hF : mw_fr P M M1) (hp : ∀ (q ci : Nat) (vs : List Value), M q = some (.inr (ci, vs)) → ci = 9 ∨ ci = 11 → ¬ P q) : ct_is M1 EF CF ent ca ce n :=
  ⟨hF.at h.1 (hp _ _ _ h.1 (Or.inr rfl)), hF.at h.2 (hp _ _ _ h.2 (Or.inl rfl))⟩
theorem ls_map {ss : List Nat} {ca : Nat → Nat} {i n : Nat} (h : ss[i]? = some n) : (ss.map ca)[i]? = some (ca n) := by
  rw [List.getElem?_map, h]
  rfl
theorem ls_drop {ss : List Nat} {i n : Nat} (h : ss[i]? = some n) : ss.drop i = n :: ss.drop (i + 1) := by
  obtain ⟨hi, h⟩ := List.getElem?_eq_some_iff.mp h
  rw [List.drop_eq_getElem_cons hi, h]
theorem ls_take {ss : List Nat} {i n : Nat} (h : ss[i]? = some n) : ss.take (i + 1) = ss.take i ++ [n] := by
  rw [List.take_add_one, h]
  rfl
theorem al_at.zr {D : va_G} {M : mw_M} {a ar : Nat} {L : List Nat} (h : al_at D M a ar L) (e : ar = D.2 200 0) : M ar = none := by rw [e]; exact h.1
theorem al_at.up {D : va_G} {M M1 : mw_M} {a ar d : Nat} {L : List Nat} {ee : Nat × List Value} {x : va_E} (h : al_at D M a ar L) (hM1 : M1 = va_up M d (some x)) (wd : M d = some (.inr ee)) (hda : d ≠ a) : al_at D M1 a ar L := by
  have hn := h.nr wd
  obtain ⟨h0, cap, mo, h⟩ := h
  refine ⟨?_, cap, mo, mw_uu hM1 h.1 (Ne.symm hda), h.2.1, h.2.2.1, h.2.2.2.imp id (fun q => ⟨q.1, mw_uu hM1 q.2 (Ne.symm hn)⟩)⟩
  rw [hM1, va_up_ne _ _ (fun q => by rw [← q, h0] at wd; cases wd)]
  exact h0
theorem al_at.new {D : va_G} {M M1 : mw_M} {a ar d : Nat} {L : List Nat} {x : va_E} (h : al_at D M a ar L) (hM1 : M1 = va_up M d (some x)) (hd : M d = none) (z1 : M1 (D.2 200 0) = none) : al_at D M1 a ar L := by
  obtain ⟨h0, cap, mo, h⟩ := h
  exact ⟨z1, cap, mo, mw_un hM1 hd h.1, h.2.1, h.2.2.1, h.2.2.2.imp id (fun q => ⟨q.1, mw_un hM1 hd q.2⟩)⟩
theorem ct_is.up {M M1 : mw_M} {EF CF : Nat → Nat → Int32} {ent ca ce : Nat → Nat} {n d ci : Nat} {vs : List Value} {x : va_E} (h : ct_is M EF CF ent ca ce n) (hM1 : M1 = va_up M d (some x)) (wd : M d = some (.inr (ci, vs))) (hc : ci ≠ 9 ∧ ci ≠ 11) : ct_is M1 EF CF ent ca ce n :=
  ⟨mw_uu hM1 h.1 (mw_ne h.1 wd (fun q => by cases q; exact hc.2 rfl)), mw_uu hM1 h.2 (mw_ne h.2 wd (fun q => by cases q; exact hc.1 rfl))⟩
theorem ct_is.new {M M1 : mw_M} {EF CF : Nat → Nat → Int32} {ent ca ce : Nat → Nat} {n d : Nat} {x : va_E} (h : ct_is M EF CF ent ca ce n) (hM1 : M1 = va_up M d (some x)) (hd : M d = none) : ct_is M1 EF CF ent ca ce n :=
  ⟨mw_un hM1 hd h.1, mw_un hM1 hd h.2⟩
theorem row_tr {P : Nat → Prop} {M M1 : mw_M} {c0 c1 c2 : Nat} (h : mw_fr P M M1) (h1 : c1 = c0 ∨ M c1 = none) (h2 : c2 = c1 ∨ M1 c2 = none) : c2 = c0 ∨ M c2 = none :=
  h2.elim (fun e => by rw [e]; exact h1) (fun y => Or.inr (Classical.byContradiction (fun n => h.2 _ n y)))
theorem row_new {D : va_G} {M : mw_M} {k kr c1 c2 : Nat} {L : List Nat} (h : al_at D M k kr L) (h2 : c2 = c1 ∨ M c2 = none) (hr : kr = c1 → kr = D.2 200 0) : kr = c2 → kr = D.2 200 0 := fun q => h2.elim (fun e => hr (q.trans e)) (fun y => by
  obtain ⟨-, cap, mo, -, -, -, g⟩ := h
  rcases g with ⟨g, -⟩ | ⟨-, g⟩
  · exact g
  · rw [← q, g] at y
    cases y)
theorem ls_fy {ss : List Nat} {i n : Nat} {p : Nat → Bool} (h : ss[i]? = some n) (hp : p n = true) : (ss.take (i + 1)).filter p = (ss.take i).filter p ++ [n] := by
  rw [ls_take h, List.filter_append, List.filter_cons_of_pos hp]
  rfl
theorem ls_fn {ss : List Nat} {i n : Nat} {p : Nat → Bool} (h : ss[i]? = some n) (hp : p n = false) : (ss.take (i + 1)).filter p = (ss.take i).filter p := by
  rw [ls_take h, List.filter_append, List.filter_cons_of_neg (by rw [hp]; decide)]
  exact List.append_nil _
theorem ls_fl {ss : List Nat} {i : Nat} {p : Nat → Bool} : ((ss.take i).filter p).length ≤ i :=
  Nat.le_trans (List.length_filter_le _ _) (by rw [List.length_take]; exact Nat.min_le_left _ _)
def fr_or (EF : Nat → Nat → Int32) (ce : Nat → Nat) (ss : List Nat) : Int32 := ss.foldl (fun u n => u ||| EF (ce n) 5) (nI 0)
theorem fr_or_s (EF : Nat → Nat → Int32) (ce : Nat → Nat) (ss : List Nat) (n : Nat) : fr_or EF ce (ss ++ [n]) = fr_or EF ce ss ||| EF (ce n) 5 := by
  unfold fr_or
  rw [List.foldl_append]
  rfl
def fl_p (EF CF : Nat → Nat → Int32) (ce : Nat → Nat) (sel clk : Int32) (n : Nat) : Bool := decide (EF (ce n) 3 &&& (sel ^^^ -1) = 0) && decide (clk < CF n 4)
def fh_p (EF CF : Nat → Nat → Int32) (ce : Nat → Nat) (n0 clk : Int32) (n : Nat) : Bool := decide (EF (ce n) 0 = n0) && decide (nI 2 * clk < CF n 3 + CF n 4)
theorem ls_find {ss : List Nat} {i n : Nat} {p : Nat → Bool} (h : ss[i]? = some n) (hp : p n = false) (hu : ss.find? p = (ss.drop i).find? p) : ss.find? p = (ss.drop (i + 1)).find? p := by
  rw [hu, ls_drop h, List.find?_cons, hp]
theorem ls_found {ss : List Nat} {i n : Nat} {p : Nat → Bool} (h : ss[i]? = some n) (hp : p n = true) (hu : ss.find? p = (ss.drop i).find? p) : ss.find? p = some n := by
  rw [hu, ls_drop h, List.find?_cons, hp]
theorem ls_none {ss : List Nat} {i : Nat} {p : Nat → Bool} (h : ss.length ≤ i) (hu : ss.find? p = (ss.drop i).find? p) : ss.find? p = none := by
  rw [hu, List.drop_eq_nil_of_le h]
  rfl
