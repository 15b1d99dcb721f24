/-! contracts: the addresses of a map as a list; a weaker end; frames of 'these or new ones' -/
theorem mw_dm {D : va_G} {cl : List vw_C} {z : Nat} {M : mw_M} {H : Heap} (hM : mw_at D cl z M H) : ∃ L : List Nat, L.Nodup ∧ ∀ a : Nat, a ∈ L ↔ M a ≠ none := by
  obtain ⟨-, ws, -, hD, hE⟩ := hM
  refine ⟨ws.map Prod.fst, List.pairwise_iff_getElem.mpr (fun i j hi hj hij q => ?_), fun a => ⟨fun h => ?_, fun h => ?_⟩⟩
  · have hi' : i < ws.length := by simpa using hi
    have hj' : j < ws.length := by simpa using hj
    rw [List.getElem_map, List.getElem_map] at q
    have := hD.1 i j ws[i] ws[j] (List.getElem?_eq_getElem hi') (List.getElem?_eq_getElem hj') q
    omega
  · obtain ⟨⟨a', e⟩, hm, rfl⟩ := List.mem_map.mp h
    rw [(hE a' e).2 hm]
    exact fun q => by cases q
  · cases hc : M a with
    | none => exact absurd hc h
    | some e => exact List.mem_map.mpr ⟨(a, e), (hE a e).1 hc, rfl⟩
section FIN
variable {l : Launch} {y : MethodName} {cc : ByteArray} {n : Nat} {ret : Option FieldType} {fr lo mc ms : Nat} {D : va_G} {z : Nat} {M : mw_M} {av : List Value} {post post' : Option Value → mw_M → Prop}
theorem mw_fin (h : ∀ L : List Nat, L.Nodup → (∀ a : Nat, a ∈ L ↔ M a ≠ none) → mw_C l y cc n ret fr lo mc ms D z M av post) : mw_C l y cc n ret fr lo mc ms D z M av post := by
  intro p e h1 h2 h3 s m args below h4 h5 hP h6
  obtain ⟨L, hL1, hL2⟩ := mw_dm hP.2.1
  exact h L hL1 hL2 p e h1 h2 h3 s m args below h4 h5 hP h6
theorem mw_mono (hp : ∀ (v : Option Value) (M' : mw_M), post v M' → post' v M') (h : mw_C l y cc n ret fr lo mc ms D z M av post) : mw_C l y cc n ret fr lo mc ms D z M av post' := by
  intro p e h1 h2 h3 s m args below h4 h5 hP h6
  obtain ⟨k, o, a1, a2, a3, ⟨⟨⟨v, M', b1, b2, b3⟩, b4⟩, b5⟩⟩ := h p e h1 h2 h3 s m args below h4 h5 hP h6
  exact ⟨k, o, a1, a2, a3, ⟨⟨⟨v, M', b1, hp v M' b2, b3⟩, b4⟩, b5⟩⟩
end FIN
/-- all addresses but one, as a list -/
theorem mn_all {L : List Nat} {M : mw_M} {a : Nat} {e : va_E} (hL : L.Nodup) (hi : ∀ b : Nat, b ∈ L ↔ M b ≠ none) (wa : M a = some e) : mn_l (a :: L.erase a) M := by
  refine ⟨List.nodup_cons.mpr ⟨fun h => ?_, hL.erase a⟩, fun b hb => ?_⟩
  · exact (List.Nodup.mem_erase_iff hL).mp h |>.1 rfl
  · rcases List.mem_cons.mp hb with rfl | hb
    · rw [wa]
      exact fun q => by cases q
    · exact (hi b).mp (List.mem_of_mem_erase hb)
theorem mw_fr.all {L : List Nat} {M M1 : mw_M} {a : Nat} (hL : L.Nodup) (hi : ∀ b : Nat, b ∈ L ↔ M b ≠ none) (h : mw_fr (fun q => q ∉ L.erase a) M M1) : mw_fr (fun q => q = a) M M1 :=
  ⟨fun q e hq hm => h.1 q e (fun hn => hn ((List.Nodup.mem_erase_iff hL).mpr ⟨hq, (hi q).mpr (by rw [hm]; exact fun q => by cases q)⟩)) hm, h.2⟩
