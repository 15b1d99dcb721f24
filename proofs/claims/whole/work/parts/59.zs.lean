/-! entries made and dropped; new agents and watchers -/
theorem ce_make (l : Launch) (D : va_G) (z : Nat) (M : mw_M) {d el er mk : Nat} {es : List Nat} {EF : Nat → Nat → Int32} {ent : Nat → Nat} (e_i e_p e_s e_t e_f : Int32) (h : es_at D M d el er mk es EF ent) (hlt : ∀ e : Nat, e ∈ es → e < mk) (hl : es.length < 15) : mw_C l yy_Es_make bb_Es_make 6 (Option.some Jvm.ClassFile.FieldType.int) 7 157 2 21 D z M [.ref d, .int e_i, .int e_p, .int e_s, .int e_t, .int e_f] (fun v M' => v = some (.int (nI mk)) ∧ ∃ q er', M q = none ∧ M' q = some (.inr (9, [.int (nI mk), .int e_i, .int e_p, .int e_s, .int e_t, .int e_f])) ∧ es_at D M' d el er' (mk + 1) (es ++ [mk]) (va_up EF mk (fun j => if j = 0 then nI mk else if j = 1 then e_i else if j = 2 then e_p else if j = 3 then e_s else if j = 4 then e_t else e_f)) (va_up ent mk q) ∧ mw_fr (fun q => q = d ∨ q = el ∨ q = er) M M' ∧ (er' = er ∨ M er' = none)) := by
  have hok := es_els h
  have hnr := h.2.1.nr h.1
  obtain ⟨h1, ⟨z0, cap, mo, hal⟩, h3⟩ := h
  refine mw_mono (fun v M' hp => ?_) (mw_sta (fun _ => cc_Es_make l D z M d el er (es.map ent).length mk cap mo _ e_i e_p e_s e_t e_f h1 hal (by rw [List.length_map]; exact hl) (hok.el 15) (hok.na hal.1) hnr))
  obtain ⟨⟨rfl, q, ar', cap', a1, a2, a3, a4, a5, a6⟩, z1⟩ := hp
  have emap : (es ++ [mk]).map (va_up ent mk q) = es.map ent ++ [q] := by
    rw [List.map_append]
    congr 1
    · exact List.map_congr_left (fun e he => va_up_ne _ _ (Nat.ne_of_lt (hlt e he)))
    · show [va_up ent mk q mk] = [q]
      rw [va_up_self]
  rw [la_app] at a4
  refine ⟨by rw [pk_sub (Nat.le_add_left 1 mk), Nat.add_sub_cancel], q, ar', a1, a2, ⟨a3, ⟨z1, cap', mo + nI 1, ?_⟩, fun e he => ?_⟩, a5, a6⟩
  · rw [emap, List.length_append]
    exact a4
  · rcases List.mem_append.mp he with he | he
    · have hne := Nat.ne_of_lt (hlt e he)
      rw [va_up_ne _ _ hne, va_up_ne _ _ hne]
      refine a5.at (h3 e he) (fun q => q.elim (mw_ne (h3 e he) h1 (fun q => by cases q)) (fun q => q.elim (mw_ne (h3 e he) hal.1 (fun q => by cases q)) (fun q => ?_)))
      have h9 : al_at D M el er (es.map ent) := ⟨z0, cap, mo, hal⟩
      exact h9.nr (h3 e he) q
    · rw [List.mem_singleton.mp he, va_up_self, va_up_self]
      exact a2
theorem ce_drop (l : Launch) (D : va_G) (z : Nat) (M : mw_M) {d el er mk : Nat} {es : List Nat} {EF : Nat → Nat → Int32} {ent : Nat → Nat} (n0 : Int32) (h : es_at D M d el er mk es EF ent) : mw_C l yy_Es_drop bb_Es_drop 3 (Option.some Jvm.ClassFile.FieldType.boolean) 3 72 0 0 D z M [.ref d, .int n0] (fun v M' => (∃ i e : Nat, es[i]? = some e ∧ (∀ j e' : Nat, j < i → es[j]? = some e' → EF e' 0 ≠ n0) ∧ EF e 0 = n0 ∧ v = some (.int 1) ∧ es_at D M' d el er mk (es.eraseIdx i) EF ent ∧ mw_fr (fun q => q = el ∨ q = er) M M') ∨ ((∀ e : Nat, e ∈ es → EF e 0 ≠ n0) ∧ v = some (.int 0) ∧ M' = M)) := by
  have h0 := h
  have hle := h.le
  obtain ⟨cap, mo, h1, h2, h3, h4, h5, h6, h7, h8⟩ := h.h
  have hgd : ∀ (i e : Nat), es[i]? = some e → es.getD i 0 = e := fun i e he => by rw [List.getD_eq_getElem?_getD, he]; rfl
  refine mw_mono (fun v M' hp => ?_) (mw_sta (fun _ => cc_Es_drop l D z M d el er es.length mk cap mo _ _ _ n0 h1 h2 h3 h4 h5 h6 h7 h8))
  obtain ⟨hp, z1⟩ := hp
  rcases hp with ⟨i, hi, a1, a2, rfl, a3, a4, a5⟩ | ⟨a1, rfl, rfl⟩
  · have hie := es_gd hi
    refine Or.inl ⟨i, es.getD i 0, hie, fun j e' hj he' => ?_, a2, rfl, ⟨?_, ?_, ?_⟩, a5⟩
    · rw [← hgd j e' he']
      exact a1 j hj
    · exact a5.at h1 (fun q => q.elim (mw_ne h1 h2 (fun q => by cases q)) (h0.2.1.nr h1))
    · have hlen : (es.eraseIdx i).length = es.length - 1 := List.length_eraseIdx_of_lt hi
      have e1 : ((es.eraseIdx i).map ent) = (es.map ent).eraseIdx i := by rw [List.eraseIdx_eq_take_drop_succ, List.eraseIdx_eq_take_drop_succ, List.map_append, List.map_take, List.map_drop]
      rw [e1]
      have hrm := la_rm (es.map ent) (i := i) (by rw [List.length_map]; exact hi)
      rw [List.length_map] at hrm
      have hl2 : ((es.map ent).eraseIdx i).length = es.length - 1 := by rw [List.length_eraseIdx_of_lt (by rw [List.length_map]; exact hi), List.length_map]
      obtain ⟨-, cap2, mo2, b1, b2, b3, b4⟩ := h0.2.1
      rw [hrm] at a4
      rcases b4 with ⟨b4, b5⟩ | ⟨b4, b5⟩
      · rw [List.length_map] at b2
        omega
      · have hcc : cap2 = cap := by
          have h9 := h3 (by omega)
          rw [b5] at h9
          have h9 := congrArg (fun p => p.2.1) (Sum.inl.inj (Option.some.inj h9))
          exact h9
        exact ⟨z1, cap, _, by rw [hl2]; exact a3, by omega, fun j hj => List.getElem?_eq_none hj, Or.inr ⟨by omega, a4⟩⟩
    · intro e he
      have hm := List.mem_of_mem_eraseIdx he
      exact a5.at (h0.2.2 e hm) (fun q => q.elim (mw_ne (h0.2.2 e hm) h2 (fun q => by cases q)) (h0.2.1.nr (h0.2.2 e hm)))
  · refine Or.inr ⟨fun e he => ?_, rfl, rfl⟩
    obtain ⟨j, hj⟩ := List.getElem?_of_mem he
    have hjl : j < es.length := (List.getElem?_eq_some_iff.mp hj).1
    have h9 := a1 j hjl
    rw [hgd j e hj] at h9
    exact h9
theorem al_nil {D : va_G} {M : mw_M} {q : Nat} {mo : Int32} (z0 : M (D.2 200 0) = none) (w : M q = some (.inr (4, [.ref (D.2 200 0), .int (nI 0), .int mo]))) : al_at D M q (D.2 200 0) [] := ⟨z0, 0, mo, w, Nat.le_refl _, fun _ _ => List.getElem?_nil, Or.inl ⟨rfl, rfl⟩⟩
theorem ag_new (l : Launch) (D : va_G) (z : Nat) (M : mw_M) {d : Nat} (i s0 : Int32) (wd : M d = some (.inr (10, [.int (0), .null, .int (0), .int (0), .int (0), .int (0)]))) : mw_C l yy_Ag_init bb_Ag_init 3 (Option.none : Option Jvm.ClassFile.FieldType) 4 80 1 3 D z M [.ref d, .int i, .int s0] (fun v M' => v = none ∧ ∃ q, M q = none ∧ M' d = some (.inr (10, [.int i, .ref q, .int s0, .int 0, .int 0, .int 0])) ∧ al_at D M' q (D.2 200 0) [] ∧ mw_fr (fun q => q = d) M M') := by
  refine mw_fin (fun L hL hi => ?_)
  refine mw_mono (fun v M' hp => ?_) (mw_sta (fun _ => cc_Ag_init l D z M d (L.erase d) i s0 (mn_all hL hi wd) wd))
  obtain ⟨⟨rfl, q, a1, a2, a3, a4⟩, z1⟩ := hp
  exact ⟨rfl, q, mn_q hL hi a3, a1, al_nil z1 a2, a4.all hL hi⟩
theorem wa_new (l : Launch) (D : va_G) (z : Nat) (M : mw_M) {d w_a : Nat} (w_s : Int32) (wd : M d = some (.inr (12, [.null, .int (0), .null, .int (0)]))) : mw_C l yy_Wa_init bb_Wa_init 3 (Option.none : Option Jvm.ClassFile.FieldType) 5 100 2 7 D z M [.ref d, .ref w_a, .int w_s] (fun v M' => v = none ∧ ∃ q r, M q = none ∧ M r = none ∧ M' d = some (.inr (12, [.ref w_a, .int w_s, .ref q, .int 0])) ∧ M' q = some (.inr (5, [.ref r, .int (0), .int (0), .int (0)])) ∧ al_at D M' r (D.2 200 0) [] ∧ mw_fr (fun q => q = d) M M') := by
  refine mw_fin (fun L hL hi => ?_)
  refine mw_mono (fun v M' hp => ?_) (mw_sta (fun _ => cc_Wa_init l D z M d w_a w_s (L.erase d) (mn_all hL hi wd) wd))
  obtain ⟨⟨rfl, q, r, a1, a2, a3, a4, a5⟩, z1⟩ := hp
  have h9 : M r = none := by
    cases hc : M r with
    | none => rfl
    | some e =>
      have h1 := (List.nodup_cons.mp a4.1).1
      have h2 : r ∈ L := (hi r).mpr (by rw [hc]; exact fun q => by cases q)
      by_cases hq : r = d
      · exact absurd (List.mem_cons_of_mem _ (List.mem_cons.mpr (Or.inl hq))) h1
      · exact absurd (List.mem_cons_of_mem _ (List.mem_cons_of_mem _ ((List.Nodup.mem_erase_iff hL).mpr ⟨hq, h2⟩))) h1
  exact ⟨rfl, q, r, mn_q hL hi ⟨(List.nodup_cons.mp a4.1).2, fun a ha => a4.2 a (List.mem_cons_of_mem _ ha)⟩, h9, a1, a2, al_nil z1 a3, a5.all hL hi⟩
