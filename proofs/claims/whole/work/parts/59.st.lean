/-! the empty row of all lists is outside the map; what is old stays -/
theorem mw_st {D : va_G} {z : Nat} {M : mw_M} {H : Heap} {a : Nat} {x : va_E} (hz : ¬ mw_A z (D.2 200 0)) (hM : mw_at D mg_cl z M H) (w : M a = some x) : a ≠ D.2 200 0 := fun q => by
  obtain ⟨-, ws, -, hD, hE⟩ := hM
  obtain ⟨k, hk⟩ := List.getElem?_of_mem ((hE a x).1 w)
  have h := hD.2 k _ hk
  exact hz (q ▸ h)
theorem mw_stZ {D : va_G} {z : Nat} {U : State} {H : Heap} (h : mg_Z D z U H) : ¬ mw_A z (D.2 200 0) := by
  obtain ⟨cell, -, -, -, -, -, -, h7⟩ := h.1.2
  exact h7
theorem mw_fr.tr2 {P Q : Nat → Prop} {M M1 M2 : mw_M} (h : mw_fr P M M1) (h2 : mw_fr Q M1 M2) (hq : ∀ q : Nat, Q q → P q ∨ M q = none) : mw_fr P M M2 :=
  ⟨fun q e hp hm => h2.1 q e (fun z => (hq q z).elim hp (fun y => by rw [hm] at y; cases y)) (h.1 q e hp hm), fun q hm => h2.2 q (h.2 q hm)⟩
theorem mw_fr.old {M M1 : mw_M} {a : Nat} {e : va_E} (h : mw_fr (fun q => M q = none) M M1) (w : M a = some e) : M1 a = some e := h.1 a e (fun (y : M a = none) => by rw [w] at y; cases y) w
theorem al_is.old {D : va_G} {M M1 : mw_M} {a ar k cap : Nat} {mo : Int32} {g : Nat → Option Nat} (h : al_is D M a ar k cap mo g) (hF : mw_fr (fun q => M q = none) M M1) : al_is D M1 a ar k cap mo g :=
  ⟨hF.old h.1, h.2.1, h.2.2.1, h.2.2.2.imp id (fun q => ⟨q.1, hF.old q.2⟩)⟩
theorem el_ok.old {M M1 : mw_M} {f : Nat → Option Nat} {k : Nat} (hel : el_ok M f k) (hF : mw_fr (fun q => M q = none) M M1) : el_ok M1 f k := fun i hi y hy => by
  obtain ⟨ci, vs, rr, w, h1, h2⟩ := hel i hi y hy
  exact ⟨ci, vs, rr, hF.old w, h1, h2⟩
