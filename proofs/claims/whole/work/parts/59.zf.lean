/-! the entries by their numbers -/
def es_at (D : va_G) (M : mw_M) (d el er mk : Nat) (es : List Nat) (EF : Nat → Nat → Int32) (ent : Nat → Nat) : Prop := M d = some (.inr (3, [.ref el, .int (nI mk)])) ∧ al_at D M el er (es.map ent) ∧ ∀ e : Nat, e ∈ es → M (ent e) = some (.inr (9, en_l (EF e)))
theorem es_gd {es : List Nat} {i : Nat} (h : i < es.length) : es[i]? = some (es.getD i 0) := by
  rw [List.getD_eq_getElem?_getD, List.getElem?_eq_getElem h]
  rfl
theorem es_at.h {D : va_G} {M : mw_M} {d el er mk : Nat} {es : List Nat} {EF : Nat → Nat → Int32} {ent : Nat → Nat} (h : es_at D M d el er mk es EF ent) : ∃ (cap : Nat) (mo : Int32), M d = some (.inr (3, [.ref el, .int (nI mk)])) ∧ M el = some (.inr (4, [.ref er, .int (nI es.length), .int mo])) ∧ (0 < es.length → M er = some (.inl (D.1 103, cap, .inr (.inr (.inr (.inr (fun i => (es.map ent)[i]?))))))) ∧ es.length ≤ cap ∧ cap < 2 ^ 20 ∧ (∀ i : Nat, i < es.length → (fun i => (es.map ent)[i]?) i = some ((fun i => ent (es.getD i 0)) i)) ∧ (∀ i : Nat, i < es.length → M ((fun i => ent (es.getD i 0)) i) = some (.inr (9, en_l ((fun i => EF (es.getD i 0)) i)))) ∧ ∀ i : Nat, es.length ≤ i → (fun i => (es.map ent)[i]?) i = none := by
  obtain ⟨h1, ⟨-, cap, mo, a1, a2, a3, a4⟩, h3⟩ := h
  rw [List.length_map] at a1 a2 a3
  refine ⟨cap, mo, h1, a1, fun h0 => ?_, a2, ?_, fun i hi => ls_map (es_gd hi), fun i hi => h3 _ (List.mem_of_getElem? (es_gd hi)), a3⟩
  · rcases a4 with ⟨-, a4⟩ | ⟨-, a4⟩
    · omega
    · exact a4
  · rcases a4 with ⟨-, a4⟩ | ⟨a4, -⟩ <;> omega
theorem es_at.le {D : va_G} {M : mw_M} {d el er mk : Nat} {es : List Nat} {EF : Nat → Nat → Int32} {ent : Nat → Nat} (h : es_at D M d el er mk es EF ent) : es.length ≤ 15 := by
  have := h.2.1.le
  rw [List.length_map] at this
  exact this
theorem ce_size (l : Launch) (D : va_G) (z : Nat) (M : mw_M) {d el er mk : Nat} {es : List Nat} {EF : Nat → Nat → Int32} {ent : Nat → Nat} (h : es_at D M d el er mk es EF ent) : mw_C l yy_Es_size bb_Es_size 1 (Option.some Jvm.ClassFile.FieldType.int) 1 20 0 0 D z M [.ref d] (fun v M' => v = some (.int (nI es.length)) ∧ M' = M) := by
  have hl := h.le
  obtain ⟨cap, mo, h1, h2, -⟩ := h.h
  exact cc_Es_size l D z M d el er es.length mk mo h1 h2 (by omega)
theorem ce_at (l : Launch) (D : va_G) (z : Nat) (M : mw_M) {d el er mk i e : Nat} {es : List Nat} {EF : Nat → Nat → Int32} {ent : Nat → Nat} (h : es_at D M d el er mk es EF ent) (hi : es[i]? = some e) : mw_C l yy_Es_at bb_Es_at 2 (Option.some (Jvm.ClassFile.FieldType.object "IdentityIssuer$Entry")) 3 64 0 0 D z M [.ref d, .int (nI i)] (fun v M' => v = some (.ref (ent e)) ∧ M' = M) := by
  have hil : i < es.length := (List.getElem?_eq_some_iff.mp hi).1
  have he : es.getD i 0 = e := by rw [List.getD_eq_getElem?_getD, hi]; rfl
  obtain ⟨cap, mo, h1, h2, h3, h4, h5, h6, h7, -⟩ := h.h
  refine mw_mono (fun v M' hp => ?_) (cc_Es_at l D z M d el er es.length mk cap mo _ _ _ i h1 h2 h3 h4 h5 h6 h7 hil)
  rw [← he]
  exact hp
theorem ce_full (l : Launch) (D : va_G) (z : Nat) (M : mw_M) {d el er mk : Nat} {es : List Nat} {EF : Nat → Nat → Int32} {ent : Nat → Nat} (h : es_at D M d el er mk es EF ent) (hmk : mk < 2 ^ 31) : mw_C l yy_Es_isFull bb_Es_isFull 1 (Option.some Jvm.ClassFile.FieldType.boolean) 1 20 0 0 D z M [.ref d] (fun v M' => v = some (.int (zI (decide (60 ≤ mk) || decide (12 ≤ es.length)))) ∧ M' = M) := by
  have hl := h.le
  obtain ⟨cap, mo, h1, h2, -⟩ := h.h
  exact cc_Es_isFull l D z M d el er es.length mk mo h1 h2 (by omega) hmk
theorem ce_reach (l : Launch) (D : va_G) (z : Nat) (M : mw_M) {d el er mk x a_k : Nat} {a_i a_s a_f a_e a_g : Int32} {es : List Nat} {EF : Nat → Nat → Int32} {ent : Nat → Nat} (h : es_at D M d el er mk es EF ent) (hl : es.length ≤ 13) (wx : M x = some (.inr (10, [.int a_i, .ref a_k, .int a_s, .int a_f, .int a_e, .int a_g]))) : mw_C l yy_Es_reachOf bb_Es_reachOf 5 (Option.some Jvm.ClassFile.FieldType.int) 4 88 0 0 D z M [.ref d, .ref x] (fun v M' => v = some (.int (ru_set EF es a_i a_s)) ∧ M' = M) := by
  obtain ⟨cap, mo, h1, h2, h3, h4, h5, h6, h7, -⟩ := h.h
  refine mw_mono (fun v M' hp => ?_) (cc_Es_reachOf l D z M d el er es.length mk cap mo _ _ _ x a_k a_i a_s a_f a_e a_g h1 h2 h3 h4 h5 h6 h7 wx)
  rw [ru_reach (EF := EF) (fun i e he => by show EF (es.getD i 0) = EF e; rw [List.getD_eq_getElem?_getD, he]; rfl) hl] at hp
  exact hp
theorem es_els {D : va_G} {M : mw_M} {d el er mk : Nat} {es : List Nat} {EF : Nat → Nat → Int32} {ent : Nat → Nat} (h : es_at D M d el er mk es EF ent) : els_ok M (es.map ent) := fun y hy => by
  obtain ⟨n, hn, rfl⟩ := List.mem_map.mp hy
  exact ⟨9, _, _, h.2.2 n hn, rfl, by decide +kernel, by decide⟩
theorem es_at.fr {P : Nat → Prop} {D : va_G} {M M1 : mw_M} {d el er mk : Nat} {es : List Nat} {EF : Nat → Nat → Int32} {ent : Nat → Nat} (h : es_at D M d el er mk es EF ent) (z1 : M1 (D.2 200 0) = none) (hF : mw_fr P M M1) (h1 : ¬ P d) (h2 : ¬ P el) (h3 : M er ≠ none → ¬ P er) (h4 : ∀ e : Nat, e ∈ es → ¬ P (ent e)) : es_at D M1 d el er mk es EF ent :=
  ⟨hF.at h.1 h1, h.2.1.fr z1 hF h2 h3, fun e he => hF.at (h.2.2 e he) (h4 e he)⟩
theorem es_at.up {D : va_G} {M M1 : mw_M} {d el er mk a ci : Nat} {es : List Nat} {EF : Nat → Nat → Int32} {ent : Nat → Nat} {vs : List Value} {x : va_E} (h : es_at D M d el er mk es EF ent) (hM1 : M1 = va_up M a (some x)) (wa : M a = some (.inr (ci, vs))) (hc : ci ≠ 3 ∧ ci ≠ 4 ∧ ci ≠ 9) : es_at D M1 d el er mk es EF ent :=
  ⟨mw_uu hM1 h.1 (mw_ne h.1 wa (fun q => by cases q; exact hc.1 rfl)), h.2.1.up hM1 wa (mw_ne wa (h.2.1.cell).choose_spec (fun q => by cases q; exact hc.2.1 rfl)), fun e he => mw_uu hM1 (h.2.2 e he) (mw_ne (h.2.2 e he) wa (fun q => by cases q; exact hc.2.2 rfl))⟩
theorem es_at.new {D : va_G} {M M1 : mw_M} {d el er mk a : Nat} {es : List Nat} {EF : Nat → Nat → Int32} {ent : Nat → Nat} {x : va_E} (h : es_at D M d el er mk es EF ent) (hM1 : M1 = va_up M a (some x)) (ha : M a = none) (z1 : M1 (D.2 200 0) = none) : es_at D M1 d el er mk es EF ent :=
  ⟨mw_un hM1 ha h.1, h.2.1.new hM1 ha z1, fun e he => mw_un hM1 ha (h.2.2 e he)⟩
theorem es_at.keep {D : va_G} {M M1 : mw_M} {d el er mk a ar : Nat} {es L1 : List Nat} {EF : Nat → Nat → Int32} {ent : Nat → Nat} (h : es_at D M d el er mk es EF ent) (h1 : al_at D M a ar L1) (z1 : M1 (D.2 200 0) = none) (hF : mw_fr (fun q => q = a ∨ q = ar) M M1) (hea : el ≠ a) (hrr : er = ar → er = D.2 200 0) : es_at D M1 d el er mk es EF ent := by
  obtain ⟨mo, wa⟩ := h1.cell
  obtain ⟨mo2, we⟩ := h.2.1.cell
  exact h.fr z1 hF (fun q => q.elim (mw_ne h.1 wa (fun q => by cases q)) (h1.nr h.1)) (fun q => q.elim hea (h1.nr we)) (fun y q => q.elim (h.2.1.nr wa).symm (fun q => y (h.2.1.zr (hrr q)))) (fun e he q => q.elim (mw_ne (h.2.2 e he) wa (fun q => by cases q)) (h1.nr (h.2.2 e he)))
theorem es_at.keep1 {D : va_G} {M M1 : mw_M} {d el er mk b ci : Nat} {es : List Nat} {EF : Nat → Nat → Int32} {ent : Nat → Nat} {vs : List Value} (h : es_at D M d el er mk es EF ent) (z1 : M1 (D.2 200 0) = none) (hF : mw_fr (fun q => q = b) M M1) (wb : M b = some (.inr (ci, vs))) (hc : ci ≠ 3 ∧ ci ≠ 4 ∧ ci ≠ 9) : es_at D M1 d el er mk es EF ent := by
  obtain ⟨mo2, we⟩ := h.2.1.cell
  exact h.fr z1 hF (mw_ne h.1 wb (fun q => by cases q; exact hc.1 rfl)) (mw_ne we wb (fun q => by cases q; exact hc.2.1 rfl)) (fun _ => (h.2.1.nr wb).symm) (fun e he => mw_ne (h.2.2 e he) wb (fun q => by cases q; exact hc.2.2 rfl))
theorem ct_is.ext {M : mw_M} {EF CF CF1 : Nat → Nat → Int32} {ent ca ce ca1 ce1 : Nat → Nat} {n : Nat} (h : ct_is M EF CF ent ca ce n) (h1 : ca1 n = ca n) (h2 : ce1 n = ce n) (h3 : CF1 n = CF n) : ct_is M EF CF1 ent ca1 ce1 n := by
  unfold ct_is
  rw [h1, h2, h3]
  exact h
theorem rn_Nt_n {ent : Nat → Bool} {f : Nat → Option Nat} {es : List Nat} {i e : Nat} (he : es[i]? = some e) (h : ent e = false ∨ ∃ n, f e = some n) : rn_N ent f (es.take (i + 1)) = rn_N ent f (es.take i) := by
  rw [ls_take he]
  exact rn_N_n h
theorem rn_Nt_y {ent : Nat → Bool} {f : Nat → Option Nat} {es : List Nat} {i e : Nat} (he : es[i]? = some e) (h : ent e = true) (h2 : f e = none) : rn_N ent f (es.take (i + 1)) = rn_N ent f (es.take i) ++ [e] := by
  rw [ls_take he]
  exact rn_N_y h h2
