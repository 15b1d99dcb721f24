/-! contracts: the addresses of a map as a list; a weaker end; frames of 'these or new ones' -/
theorem mw_dm {D : va_G} {cl : List vw_C} {z : Nat} {M : mw_M} {H : Heap} (hM : mw_at D cl z M H) : ∃ L : List Nat, L.Nodup ∧ ∀ a : Nat, a ∈ L ↔ M a ≠ none := by
  obtain ⟨-, ws, -, hD, hE⟩ := hM
  refine ⟨ws.map Prod.fst, List.pairwise_iff_getElem.mpr (fun i j hi hj hij q => ?_), fun a => ⟨fun h => ?_, fun h => ?_⟩⟩
  · have hi' : i < ws.length := by simpa using hi
    have hj' : j < ws.length := by simpa using hj
    rw [List.getElem_map, List.getElem_map] at q
    have := hD.1 i j ws[i] ws[j] (List.getElem?_eq_getElem hi') (List.getElem?_eq_getElem hj') q
    omega
  · obtain ⟨⟨a', e⟩, hm, rfl⟩ := List.mem_map.mp h
    rw [(hE a' e).2 hm]
    exact fun q => by cases q
  · cases hc : M a with
    | none => exact absurd hc h
    | some e => exact List.mem_map.mpr ⟨(a, e), (hE a e).1 hc, rfl⟩
section FIN
variable {l : Launch} {y : MethodName} {cc : ByteArray} {n : Nat} {ret : Option FieldType} {fr lo mc ms : Nat} {D : va_G} {z : Nat} {M : mw_M} {av : List Value} {post post' : Option Value → mw_M → Prop}
theorem mw_fin (h : ∀ L : List Nat, L.Nodup → (∀ a : Nat, a ∈ L ↔ M a ≠ none) → mw_C l y cc n ret fr lo mc ms D z M av post) : mw_C l y cc n ret fr lo mc ms D z M av post := by
  intro p e h1 h2 h3 s m args below h4 h5 hP h6
  obtain ⟨L, hL1, hL2⟩ := mw_dm hP.2.1
  exact h L hL1 hL2 p e h1 h2 h3 s m args below h4 h5 hP h6
theorem mw_mono (hp : ∀ (v : Option Value) (M' : mw_M), post v M' → post' v M') (h : mw_C l y cc n ret fr lo mc ms D z M av post) : mw_C l y cc n ret fr lo mc ms D z M av post' := by
  intro p e h1 h2 h3 s m args below h4 h5 hP h6
  obtain ⟨k, o, a1, a2, a3, ⟨⟨⟨v, M', b1, b2, b3⟩, b4⟩, b5⟩⟩ := h p e h1 h2 h3 s m args below h4 h5 hP h6
  exact ⟨k, o, a1, a2, a3, ⟨⟨⟨v, M', b1, hp v M' b2, b3⟩, b4⟩, b5⟩⟩
end FIN
/-- all addresses but one, as a list -/
theorem mn_all {L : List Nat} {M : mw_M} {a : Nat} {e : va_E} (hL : L.Nodup) (hi : ∀ b : Nat, b ∈ L ↔ M b ≠ none) (wa : M a = some e) : mn_l (a :: L.erase a) M := by
  refine ⟨List.nodup_cons.mpr ⟨fun h => ?_, hL.erase a⟩, fun b hb => ?_⟩
  · exact (List.Nodup.mem_erase_iff hL).mp h |>.1 rfl
  · rcases List.mem_cons.mp hb with rfl | hb
    · rw [wa]
      exact fun q => by cases q
    · exact (hi b).mp (List.mem_of_mem_erase hb)
theorem mw_fr.all {L : List Nat} {M M1 : mw_M} {a : Nat} (hL : L.Nodup) (hi : ∀ b : Nat, b ∈ L ↔ M b ≠ none) (h : mw_fr (fun q => q ∉ L.erase a) M M1) : mw_fr (fun q => q = a) M M1 :=
  ⟨fun q e hq hm => h.1 q e (fun hn => hn ((List.Nodup.mem_erase_iff hL).mpr ⟨hq, (hi q).mpr (by rw [hm]; exact fun q => by cases q)⟩)) hm, h.2⟩
/-- a contract in a larger room -/
theorem mw_room {l : Launch} {y : MethodName} {cc : ByteArray} {n : Nat} {ret : Option FieldType} {fr lo mc ms fr' lo' mc' ms' : Nat} {D : va_G} {z : Nat} {M : mw_M} {av : List Value} {post : Option Value → mw_M → Prop} (hf : fr ≤ fr') (hl : lo ≤ lo') (hc : mc ≤ mc') (hs : ms ≤ ms') (h : mw_C l y cc n ret fr lo mc ms D z M av post) : mw_C l y cc n ret fr' lo' mc' ms' D z M av post := by
  unfold mw_C Met at h
  have h1 := MetFree.respec (S' := headSpec (mw_w y cc n ret) { frames := fr', cells := mc', slots := ms', locals := lo' }) h (fun _ _ q => q) hf hl hc hs
  intro p e g1 g2 g3 s m args below g4 g5 hP g6
  obtain ⟨k, o, a1, a2, a3, b1, L, b2, b3⟩ := h1 p e g1 g2 g3 s m args below g4 g5 hP g6
  exact ⟨k, o, a1, a2, a3, b1, L, ⟨b2.1, b2.2.1, b2.2.2.mono hc hs⟩, b3⟩
/-- a list: its object, its places (behind its size nothing), how it may stand -/
def al_is (D : va_G) (M : mw_M) (a ar k cap : Nat) (mo : Int32) (g : Nat → Option Nat) : Prop :=
  M a = some (.inr (4, [.ref ar, .int (nI k), .int mo])) ∧ k ≤ cap ∧ (∀ i : Nat, k ≤ i → g i = none) ∧ ((ar = D.2 200 0 ∧ cap = 0) ∨ ((cap = 10 ∨ cap = 15) ∧ M ar = some (.inl (D.1 103, cap, .inr (.inr (.inr (.inr g)))))))
theorem mn_q {L : List Nat} {M M1 : mw_M} {a q : Nat} (hL : L.Nodup) (hi : ∀ b : Nat, b ∈ L ↔ M b ≠ none) (h : mn_l (q :: (a :: L.erase a)) M1) : M q = none := by
  cases hc : M q with
  | none => rfl
  | some e =>
    have h1 := (List.nodup_cons.mp h.1).1
    have h2 : q ∈ L := (hi q).mpr (by rw [hc]; exact fun q => by cases q)
    by_cases hq : q = a
    · exact absurd (List.mem_cons.mpr (Or.inl hq)) h1
    · exact absurd (List.mem_cons.mpr (Or.inr ((List.Nodup.mem_erase_iff hL).mpr ⟨hq, h2⟩))) h1
theorem mn_y {L : List Nat} {M : mw_M} {a y : Nat} {e : va_E} (hL : L.Nodup) (hi : ∀ b : Nat, b ∈ L ↔ M b ≠ none) (wy : M y = some e) (hya : y ≠ a) : y ∈ L.erase a :=
  (List.Nodup.mem_erase_iff hL).mpr ⟨hya, (hi y).mpr (by rw [wy]; exact fun q => by cases q)⟩
theorem al_cp {g : Nat → Option Nat} (h : ∀ i : Nat, 10 ≤ i → g i = none) : va_cpy g (fun _ => none) 0 0 10 = g := by
  funext j
  unfold va_cpy
  by_cases hj : j < 10
  · rw [if_pos ⟨Nat.zero_le _, by omega⟩]
    congr 1
    omega
  · rw [if_neg (by omega), h j (by omega)]
theorem al_add (l : Launch) (D : va_G) (z : Nat) (M : mw_M) {a ar k cap y ci : Nat} {mo : Int32} {g : Nat → Option Nat} {rr : vw_C} {vs : List Value} (h : al_is D M a ar k cap mo g) (hk : k < 15) (hel : el_ok M g 15) (hna : ∀ j : Nat, g j ≠ some a) (wy : M y = some (.inr (ci, vs))) (hci : mg_cl[ci]? = some rr) (hcs : (rr.1, "java/lang/Object") ∈ lw_cN) (hya : y ≠ a) : mw_C l yy_AL_add bb_AL_add 2 (Option.some Jvm.ClassFile.FieldType.boolean) 6 136 1 15 D z M [.ref a, .ref y] (fun v M' => v = some (.int 1) ∧ ∃ ar' cap', al_is D M' a ar' (k + 1) cap' (mo + nI 1) (va_up g k (some y)) ∧ mw_fr (fun q => q = a ∨ q = ar) M M' ∧ (ar' = ar ∨ M ar' = none)) := by
  obtain ⟨wa, hkc, hgz, hc⟩ := h
  rcases hc with ⟨rfl, rfl⟩ | ⟨hcap, wr⟩
  · have k0 : k = 0 := by omega
    subst k0
    have g0 : g = fun _ => none := funext (fun i => hgz i (Nat.zero_le _))
    subst g0
    refine mw_fin (fun L hL hi => ?_)
    refine mw_mono (fun v M' hp => ?_) (mw_room (by decide) (by decide) (by decide) (by decide) (cc_AL_add_0 l D z M a (L.erase a) mo y ci rr vs (mn_all hL hi wa) wa wy hci hcs (mn_y hL hi wy hya)))
    obtain ⟨rfl, q, w1, w2, hA, hF⟩ := hp
    exact ⟨rfl, q, 10, ⟨w1, by omega, fun i hi => by rw [va_up_ne _ _ (by omega)], Or.inr ⟨Or.inl rfl, w2⟩⟩, (hF.all hL hi).mono (fun q h => Or.inl h), Or.inr (mn_q hL hi hA)⟩
  · by_cases hlt : k < cap
    · refine mw_mono (fun v M' hp => ?_) (mw_room (by decide) (by decide) (by decide) (by decide) (cc_AL_add_r l D z M a ar k cap mo g y ci rr vs wa wr hlt (by omega) wy hci hcs hya))
      obtain ⟨rfl, w1, w2, hF⟩ := hp
      exact ⟨rfl, ar, cap, ⟨w1, hlt, fun i hi => by rw [va_up_ne _ _ (by omega)]; exact hgz i (by omega), Or.inr ⟨hcap, w2⟩⟩, hF, Or.inl rfl⟩
    · have c0 : cap = 10 := by omega
      subst c0
      have k0 : k = 10 := by omega
      subst k0
      refine mw_fin (fun L hL hi => ?_)
      refine mw_mono (fun v M' hp => ?_) (cc_AL_add_10 l D z M a ar (L.erase a) mo g y ci rr vs (mn_all hL hi wa) wa wr (fun i hi => hel i (by omega)) wy hci hcs (mn_y hL hi wy hya) hna)
      obtain ⟨rfl, q, w1, w2, hA, hF⟩ := hp
      rw [al_cp hgz] at w2
      exact ⟨rfl, q, 15, ⟨w1, by omega, fun i hi => by rw [va_up_ne _ _ (by omega)]; exact hgz i (by omega), Or.inr ⟨Or.inr rfl, w2⟩⟩, (hF.all hL hi).mono (fun q h => Or.inl h), Or.inr (mn_q hL hi hA)⟩
