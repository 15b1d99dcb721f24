theorem kw_acn : Cond.native arraycopyName ∈ lw_gt := lw_in 541 (by decide +kernel) (by decide +kernel)
theorem kw_acs : Cond.static arraycopyName ∈ lw_gt := lw_in 540 (by decide +kernel) (by decide +kernel)
theorem tw_ini_Sy : Cond.initialized "java/lang/System" ∈ lw_gt := lw_in 69 (by decide +kernel) (by decide +kernel)
/-! arraycopy and getClass over the map -/
def el_ok (M : mw_M) (f : Nat → Option Nat) (k : Nat) : Prop := ∀ i : Nat, i < k → ∀ y : Nat, f i = some y → ∃ (ci : Nat) (vs : List Value) (rr : vw_C), M y = some (.inr (ci, vs)) ∧ mg_cl[ci]? = some rr ∧ (rr.1, "java/lang/Object") ∈ lw_cN
section CPY
variable {p : Program} {l : Launch} {e : Env} {R : Room} {s : State} {m : MethodId} {args : Array Value} {below : List Frame} {meth : Method} {c : Code} {H : Heap} {locs : List Loc} {cells slots : Nat} {Q : State → Prop}
variable {cc : ByteArray} {pc nL : Nat} {ls : Array Slot} {rest : List Value} {D : va_G} {z : Nat} {M : mw_M} {own : String}
theorem mw_any {y ci : Nat} {vs : List Value} {rr : vw_C} (E : mw_E p m c cc nL s args D z own) (hM : mw_at D mg_cl z M H) (wy : M y = some (.inr (ci, vs))) (hci : mg_cl[ci]? = some rr) (hcs : (rr.1, "java/lang/Object") ∈ lw_cN) : va_Any "java/lang/Object" s H y := by
  obtain ⟨-, ws, hP, -, hE⟩ := hM
  obtain ⟨q0, he⟩ := List.getElem?_of_mem ((hE y _).1 wy)
  exact va_rAny E.K hP he hci (fun comp c0 h1 h2 => vb_asgC (E.N.2.2.1 (rr.1, "java/lang/Object") hcs) comp c0 h1 h2)
theorem mw_copy {index a0 a n0 n1 : Nat} {f g : Nat → Option Nat} {sp dp n : Nat} (E : mw_E p m c cc nL s args D z own) (hls : ls.size = nL) (hlink : Cond.methodLink own index arraycopyName ∈ lw_gt) (hM : mw_at D mg_cl z M H) (hS : va_S (mw_A z) s.heap H locs) (w0 : M a0 = some (.inl (D.1 103, n0, .inr (.inr (.inr (.inr f)))))) (w1 : M a = some (.inl (D.1 103, n1, .inr (.inr (.inr (.inr g)))))) (h4 : sp + n ≤ n0) (h5 : dp + n ≤ n1) (hb0 : n0 < 2 ^ 20) (hb1 : n1 < 2 ^ 20) (hel : el_ok M f n0)
    (hframes : 1 ≤ R.frames) (hlocals : (rest.map fun v => v.category).sum + (nativeFrameWords "java/lang/System" "arraycopy" 5 + 11) ≤ R.locals) (hdg : decode cc pc = .ok (.invokestatic index, 3))
    (kk : ∀ (H1 : Heap) (locs1 : List Loc), mw_at D mg_cl z (va_up M a (some (.inl (D.1 103, n1, .inr (.inr (.inr (.inr (va_cpy f g sp dp n)))))))) H1 → va_S (mw_A z) s.heap H1 locs1 → W p l e R s m args below meth c H1 locs1 cells slots Q (F0 m (pc + 3) ls rest)) : W p l e R s m args below meth c H locs cells slots Q (F0 m pc ls (.int (nI n) :: .int (nI dp) :: .ref a :: .int (nI sp) :: .ref a0 :: rest)) := by
  have hM0 := hM
  obtain ⟨-, ws, hP, hD, hE⟩ := hM
  obtain ⟨q0, he0⟩ := List.getElem?_of_mem ((hE a0 _).1 w0)
  obtain ⟨q1, he1⟩ := List.getElem?_of_mem ((hE a _).1 w1)
  have e1 : (nI sp).toNatClampNeg = sp := nI_clamp (by omega)
  have e2 : (nI dp).toNatClampNeg = dp := nI_clamp (by omega)
  have e3 : (nI n).toNatClampNeg = n := nI_clamp (by omega)
  refine va_copyM E.x E.b (E.ml.trans hls.symm) E.o (E.t _ hlink) (E.t _ kw_acn) (E.t _ kw_acs) (E.t _ tw_ini_Sy) E.K hP hD hS q0 q1 3 3 he0 he1 rfl rfl (nI_pos (by omega)) (nI_pos (by omega)) (nI_pos (by omega)) (by rw [e1, e3]; exact h4) (by rw [e2, e3]; exact h5) (fun i hi y hy => ?_) hframes hlocals hdg (fun H1 locs1 hP1 hD1 hS1 => ?_)
  · rw [e1] at hy
    rw [e3] at hi
    obtain ⟨ci, vs, rr, wy, hci, hcs⟩ := hel (sp + i) (by omega) y hy
    exact mw_any E hM0 wy hci hcs
  · rw [e1, e2, e3] at hP1 hD1
    exact kk H1 locs1 ⟨mw_sz E.zz hS1, _, hP1, hD1, mw_set hD he1 hE⟩ hS1
theorem mw_recvA {a n : Nat} {f : Nat → Option Nat} (E : mw_E p m c cc nL s args D z own) (hM : mw_at D mg_cl z M H) (w : M a = some (.inl (D.1 103, n, .inr (.inr (.inr (.inr f)))))) : ∃ cell : Cell, H[a]? = some cell ∧ cell.vm.isStatics = false ∧ s.vm.findClass "[Ljava/lang/Object;" = some cell.cls := by
  obtain ⟨-, ws, hP, -, hE⟩ := hM
  obtain ⟨q0, he⟩ := List.getElem?_of_mem ((hE a _).1 w)
  have h := hP q0 _ he
  have h1 : H[a]? = some (vp_cell (D.1 103) (n, .inr (.inr (.inr (.inr f))))) := h
  rw [vp_cell_q] at h1
  exact ⟨_, h1, rfl, va_nmO (E.K.2 3 _ rfl).2 rfl⟩
end CPY
