/-! the world as a map: which cell stands at which address; every row of the kit, told over it -/
abbrev mw_M : Type := Nat → Option va_E
def mw_A (z : Nat) : Nat → Prop := fun q => z ≤ q
def mw_at (D : va_G) (cl : List vw_C) (z : Nat) (M : mw_M) (H : Heap) : Prop :=
  z ≤ H.size ∧ ∃ ws : va_W, va_P D cl ws H ∧ va_D (mw_A z) ws ∧ ∀ (a : Nat) (e : va_E), M a = some e ↔ (a, e) ∈ ws
theorem mw_set {A : Nat → Prop} {ws : va_W} {k a : Nat} {e0 e1 : va_E} {M : mw_M} (hD : va_D A ws) (hk : ws[k]? = some (a, e0)) (hM : ∀ (a : Nat) (e : va_E), M a = some e ↔ (a, e) ∈ ws) :
    ∀ (b : Nat) (e : va_E), va_up M a (some e1) b = some e ↔ (b, e) ∈ ws.set k (a, e1) := by
  intro b e
  have hl := (List.getElem?_eq_some_iff.mp hk).1
  constructor
  · intro h
    by_cases hb : b = a
    · subst hb
      rw [va_up_self] at h
      cases h
      exact List.mem_of_getElem? (List.getElem?_set_self hl)
    · rw [va_up_ne _ _ hb] at h
      obtain ⟨j, hj⟩ := List.getElem?_of_mem ((hM b e).1 h)
      have hjk : j ≠ k := fun q => by
        subst q
        rw [hk] at hj
        cases hj
        exact hb rfl
      exact List.mem_of_getElem? (i := j) (by rw [List.getElem?_set_ne (Ne.symm hjk)]; exact hj)
  · intro h
    obtain ⟨j, hj⟩ := List.getElem?_of_mem h
    by_cases hjk : j = k
    · subst hjk
      rw [List.getElem?_set_self hl] at hj
      cases hj
      exact va_up_self _ _ _
    · rw [List.getElem?_set_ne (Ne.symm hjk)] at hj
      have hb : b ≠ a := fun q => hjk (hD.1 j k (b, e) (a, e0) hj hk q)
      rw [va_up_ne _ _ hb]
      exact (hM b e).2 (List.mem_of_getElem? hj)
theorem mw_fresh {A : Nat → Prop} {ws : va_W} {q : Nat} {e : va_E} {M : mw_M} (hD : va_D A (ws ++ [(q, e)])) (hM : ∀ (a : Nat) (e : va_E), M a = some e ↔ (a, e) ∈ ws) : M q = none := by
  cases h : M q with
  | none => rfl
  | some e' =>
    obtain ⟨j, hj⟩ := List.getElem?_of_mem ((hM q e').1 h)
    have hl := (List.getElem?_eq_some_iff.mp hj).1
    have h1 : (ws ++ [(q, e)])[j]? = some (q, e') := by rw [List.getElem?_append_left hl]; exact hj
    have h2 : (ws ++ [(q, e)])[ws.length]? = some (q, e) := by rw [List.getElem?_append_right (Nat.le_refl _), Nat.sub_self]; rfl
    have := hD.1 j ws.length _ _ h1 h2 rfl
    omega
theorem mw_push {A : Nat → Prop} {ws : va_W} {q : Nat} {e : va_E} {M : mw_M} (hD : va_D A (ws ++ [(q, e)])) (hM : ∀ (a : Nat) (e : va_E), M a = some e ↔ (a, e) ∈ ws) :
    ∀ (b : Nat) (e' : va_E), va_up M q (some e) b = some e' ↔ (b, e') ∈ ws ++ [(q, e)] := by
  intro b e'
  have hq := mw_fresh hD hM
  rw [List.mem_append, List.mem_singleton]
  by_cases hb : b = q
  · subst hb
    rw [va_up_self]
    constructor
    · intro h
      cases h
      exact Or.inr rfl
    · intro h
      rcases h with h | h
      · have := (hM b e').2 h
        rw [hq] at this
        cases this
      · cases h
        rfl
  · rw [va_up_ne _ _ hb]
    constructor
    · intro h
      exact Or.inl ((hM b e').1 h)
    · intro h
      rcases h with h | h
      · exact (hM b e').2 h
      · cases h
        exact absurd rfl hb
/-- two addresses with different cells are different -/
theorem mw_ne {M : mw_M} {a b : Nat} {x y : va_E} (ha : M a = some x) (hb : M b = some y) (h : x ≠ y) : a ≠ b := fun q => by
  subst q
  rw [ha] at hb
  exact h (Option.some.inj hb)
theorem mw_neN {M : mw_M} {a b : Nat} {x : va_E} (ha : M a = some x) (hb : M b = none) : a ≠ b := fun q => by
  subst q
  rw [ha] at hb
  cases hb
theorem mw_u {M : mw_M} {a b : Nat} {x y : va_E} (h : M a = some x) (hn : a ≠ b) : va_up M b (some y) a = some x := by rw [va_up_ne _ _ hn]; exact h
theorem mw_s {M : mw_M} {a : Nat} {x : va_E} : va_up M a (some x) a = some x := va_up_self _ _ _
theorem mw_lt {D : va_G} {cl : List vw_C} {z a : Nat} {e : va_E} {M : mw_M} {H : Heap} (h : mw_at D cl z M H) (ha : M a = some e) : a < H.size := by
  obtain ⟨-, ws, hP, -, hE⟩ := h
  obtain ⟨k, hk⟩ := List.getElem?_of_mem ((hE a e).1 ha)
  exact (hP k _ hk).lt
theorem mw_ge {D : va_G} {cl : List vw_C} {z a : Nat} {e : va_E} {M : mw_M} {H : Heap} (h : mw_at D cl z M H) (ha : M a = some e) : z ≤ a := by
  obtain ⟨-, ws, -, hD, hE⟩ := h
  obtain ⟨k, hk⟩ := List.getElem?_of_mem ((hE a e).1 ha)
  exact hD.2 k _ hk
theorem mw_sz {z : Nat} {H0 H : Heap} {locs : List Loc} (hz : z ≤ H0.size) (hS : va_S (mw_A z) H0 H locs) : z ≤ H.size := Nat.le_trans hz hS.1
section MWR
variable {p : Program} {l : Launch} {e : Env} {R : Room} {s : State} {m : MethodId} {args : Array Value} {below : List Frame} {meth : Method} {c : Code} {H : Heap} {locs : List Loc} {cells slots : Nat} {Q : State → Prop}
variable {cc : ByteArray} {pc : Nat} {ls : Array Slot} {rest : List Value} {D : va_G} {cl : List vw_C} {z a : Nat} {tys : List (ClassId × FieldType)} {M : mw_M} {H0 : Heap}
/-- the top of the stack by another name -/
theorem mw_topi {x y : Int32} (h : x = y) (k : W p l e R s m args below meth c H locs cells slots Q (F0 m pc ls (.int y :: rest))) : W p l e R s m args below meth c H locs cells slots Q (F0 m pc ls (.int x :: rest)) := by rw [h]; exact k
theorem mw_topl {x y : Int64} (h : x = y) (k : W p l e R s m args below meth c H locs cells slots Q (F0 m pc ls (.long y :: rest))) : W p l e R s m args below meth c H locs cells slots Q (F0 m pc ls (.long x :: rest)) := by rw [h]; exact k
theorem mw_get (hexec : p.tables.exec = Jvm.exec) (hb : c.code = cc) {own ref C : String} {T : u_T} {N ci index : Nat} {Ts : List Cond} (hts : ∀ w ∈ Ts, w.before args s = true) (hin : ∀ w ∈ u_ws C T N, w ∈ Ts) (hown : s.vm.findClass own = some m.cls) (hK : va_K D cl tys s) (hM : mw_at D cl z M H) {fs : List Value} (ha : M a = some (.inr (ci, fs))) (hc : cl[ci]? = some (C, T, N)) (k : Nat) (hk : k < N) (hlink : (Cond.fieldLink own index ref (T k).2.1 (T k).2.2.1).before args s = true) (hsame : ∀ x, s.fieldFound? (T k).1 (T k).2.1 (T k).2.2.1 = some x → s.fieldFound? ref (T k).2.1 (T k).2.2.1 = some x) {v : Value} (hv : fs[k]? = some v) (hdg : decode cc pc = .ok (.getfield index, 3))
    (kk : W p l e R s m args below meth c H locs cells slots Q (F0 m (pc + 3) ls (v :: rest))) : W p l e R s m args below meth c H locs cells slots Q (F0 m pc ls (.ref a :: rest)) := by
  obtain ⟨-, ws, hP, -, hE⟩ := hM
  obtain ⟨q0, he⟩ := List.getElem?_of_mem ((hE a _).1 ha)
  exact va_get hexec hb hts hin hown hK hP q0 he hc k hk hlink hsame hv hdg kk
theorem mw_getN (hexec : p.tables.exec = Jvm.exec) (hb : c.code = cc) {own ref C host : String} {T : u_T} {N ci index : Nat} {Ts : List Cond} (hts : ∀ w ∈ Ts, w.before args s = true) (hin : ∀ w ∈ u_ws C T N, w ∈ Ts) (hown : s.vm.findClass own = some m.cls) (hK : va_K D cl tys s) (hM : mw_at D cl z M H) {fs : List Value} (ha : M a = some (.inr (ci, fs))) (hc : cl[ci]? = some (C, T, N)) (k : Nat) (hk : k < N) (hlink : (Cond.fieldLinkNest own index ref (T k).2.1 (T k).2.2.1 host).before args s = true) (hsame : ∀ x, s.fieldFound? (T k).1 (T k).2.1 (T k).2.2.1 = some x → s.fieldFound? ref (T k).2.1 (T k).2.2.1 = some x) {v : Value} (hv : fs[k]? = some v) (hdg : decode cc pc = .ok (.getfield index, 3))
    (kk : W p l e R s m args below meth c H locs cells slots Q (F0 m (pc + 3) ls (v :: rest))) : W p l e R s m args below meth c H locs cells slots Q (F0 m pc ls (.ref a :: rest)) := by
  obtain ⟨-, ws, hP, -, hE⟩ := hM
  obtain ⟨q0, he⟩ := List.getElem?_of_mem ((hE a _).1 ha)
  exact va_getN hexec hb hts hin hown hK hP q0 he hc k hk hlink hsame hv hdg kk
theorem mw_put (hexec : p.tables.exec = Jvm.exec) (hb : c.code = cc) {own ref C : String} {T : u_T} {N ci index : Nat} {Ts : List Cond} (hts : ∀ w ∈ Ts, w.before args s = true) (hin : ∀ w ∈ u_ws C T N, w ∈ Ts) (ty0 : Nat → FieldType) (hty : ∀ k, k < N → parseFieldDescriptor (T k).2.2.1 = some (ty0 k)) (hnm : ∀ a, a < N → ∀ b, b < N → a ≠ b → (T a).2.1 ≠ (T b).2.1) (hown : s.vm.findClass own = some m.cls) (hK : va_K D cl tys s) (hM : mw_at D cl z M H) (hz : z ≤ H0.size) (hS : va_S (mw_A z) H0 H locs) {fs : List Value} (ha : M a = some (.inr (ci, fs))) (hc : cl[ci]? = some (C, T, N)) (k : Nat) (hk : k < N) (hlink : (Cond.fieldLink own index ref (T k).2.1 (T k).2.2.1).before args s = true) (hsame : ∀ x, s.fieldFound? (T k).1 (T k).2.1 (T k).2.2.1 = some x → s.fieldFound? ref (T k).2.1 (T k).2.2.1 = some x) (hfin : (T k).2.2.2 = false) {ty : FieldType} {v : Value} (hd : parseFieldDescriptor (T k).2.2.1 = some ty) (hn : narrow ty v = v) (hfit : fits ty v = true) (hl : k < fs.length)
    (hdg : decode cc pc = .ok (.putfield index, 3)) (kk : ∀ (H1 : Heap) (locs1 : List Loc), mw_at D cl z (va_up M a (some (.inr (ci, fs.set k v)))) H1 → va_S (mw_A z) H0 H1 locs1 → W p l e R s m args below meth c H1 locs1 cells slots Q (F0 m (pc + 3) ls rest)) : W p l e R s m args below meth c H locs cells slots Q (F0 m pc ls (v :: .ref a :: rest)) := by
  obtain ⟨-, ws, hP, hD, hE⟩ := hM
  obtain ⟨q0, he⟩ := List.getElem?_of_mem ((hE a _).1 ha)
  exact va_put hexec hb hts hin ty0 hty hnm hown hK hP hD hS q0 he hc k hk hlink hsame hfin hd hn hfit hl hdg (fun H1 locs1 hP1 hD1 hS1 => kk H1 locs1 ⟨mw_sz hz hS1, _, hP1, hD1, mw_set hD he hE⟩ hS1)
theorem mw_putN (hexec : p.tables.exec = Jvm.exec) (hb : c.code = cc) {own ref C host : String} {T : u_T} {N ci index : Nat} {Ts : List Cond} (hts : ∀ w ∈ Ts, w.before args s = true) (hin : ∀ w ∈ u_ws C T N, w ∈ Ts) (ty0 : Nat → FieldType) (hty : ∀ k, k < N → parseFieldDescriptor (T k).2.2.1 = some (ty0 k)) (hnm : ∀ a, a < N → ∀ b, b < N → a ≠ b → (T a).2.1 ≠ (T b).2.1) (hown : s.vm.findClass own = some m.cls) (hK : va_K D cl tys s) (hM : mw_at D cl z M H) (hz : z ≤ H0.size) (hS : va_S (mw_A z) H0 H locs) {fs : List Value} (ha : M a = some (.inr (ci, fs))) (hc : cl[ci]? = some (C, T, N)) (k : Nat) (hk : k < N) (hlink : (Cond.fieldLinkNest own index ref (T k).2.1 (T k).2.2.1 host).before args s = true) (hsame : ∀ x, s.fieldFound? (T k).1 (T k).2.1 (T k).2.2.1 = some x → s.fieldFound? ref (T k).2.1 (T k).2.2.1 = some x) (hfin : (T k).2.2.2 = false) {ty : FieldType} {v : Value} (hd : parseFieldDescriptor (T k).2.2.1 = some ty) (hn : narrow ty v = v) (hfit : fits ty v = true) (hl : k < fs.length)
    (hdg : decode cc pc = .ok (.putfield index, 3)) (kk : ∀ (H1 : Heap) (locs1 : List Loc), mw_at D cl z (va_up M a (some (.inr (ci, fs.set k v)))) H1 → va_S (mw_A z) H0 H1 locs1 → W p l e R s m args below meth c H1 locs1 cells slots Q (F0 m (pc + 3) ls rest)) : W p l e R s m args below meth c H locs cells slots Q (F0 m pc ls (v :: .ref a :: rest)) := by
  obtain ⟨-, ws, hP, hD, hE⟩ := hM
  obtain ⟨q0, he⟩ := List.getElem?_of_mem ((hE a _).1 ha)
  exact va_putN hexec hb hts hin ty0 hty hnm hown hK hP hD hS q0 he hc k hk hlink hsame hfin hd hn hfit hl hdg (fun H1 locs1 hP1 hD1 hS1 => kk H1 locs1 ⟨mw_sz hz hS1, _, hP1, hD1, mw_set hD he hE⟩ hS1)
theorem mw_putF (hexec : p.tables.exec = Jvm.exec) (hb : c.code = cc) {own ref C : String} {T : u_T} {N ci index : Nat} {Ts : List Cond} (hts : ∀ w ∈ Ts, w.before args s = true) (hin : ∀ w ∈ u_ws C T N, w ∈ Ts) (ty0 : Nat → FieldType) (hty : ∀ k, k < N → parseFieldDescriptor (T k).2.2.1 = some (ty0 k)) (hnm : ∀ a, a < N → ∀ b, b < N → a ≠ b → (T a).2.1 ≠ (T b).2.1) (hown : s.vm.findClass own = some m.cls) (hK : va_K D cl tys s) (hM : mw_at D cl z M H) (hz : z ≤ H0.size) (hS : va_S (mw_A z) H0 H locs) {fs : List Value} (ha : M a = some (.inr (ci, fs))) (hc : cl[ci]? = some (C, T, N)) (k : Nat) (hk : k < N) (hlink : (Cond.fieldLink own index ref (T k).2.1 (T k).2.2.1).before args s = true) (hsame : ∀ x, s.fieldFound? (T k).1 (T k).2.1 (T k).2.2.1 = some x → s.fieldFound? ref (T k).2.1 (T k).2.2.1 = some x) (hfin : (T k).2.2.2 = true) (hin2 : meth.name = "<init>") (hdecl : (T k).1 = own) {ty : FieldType} {v : Value} (hd : parseFieldDescriptor (T k).2.2.1 = some ty) (hn : narrow ty v = v) (hfit : fits ty v = true) (hl : k < fs.length)
    (hdg : decode cc pc = .ok (.putfield index, 3)) (kk : ∀ (H1 : Heap) (locs1 : List Loc), mw_at D cl z (va_up M a (some (.inr (ci, fs.set k v)))) H1 → va_S (mw_A z) H0 H1 locs1 → W p l e R s m args below meth c H1 locs1 cells slots Q (F0 m (pc + 3) ls rest)) : W p l e R s m args below meth c H locs cells slots Q (F0 m pc ls (v :: .ref a :: rest)) := by
  obtain ⟨-, ws, hP, hD, hE⟩ := hM
  obtain ⟨q0, he⟩ := List.getElem?_of_mem ((hE a _).1 ha)
  exact va_putF hexec hb hts hin ty0 hty hnm hown hK hP hD hS q0 he hc k hk hlink hsame hfin hin2 hdecl hd hn hfit hl hdg (fun H1 locs1 hP1 hD1 hS1 => kk H1 locs1 ⟨mw_sz hz hS1, _, hP1, hD1, mw_set hD he hE⟩ hS1)
theorem mw_iald (hexec : p.tables.exec = Jvm.exec) (hb : c.code = cc) (hK : va_K D cl tys s) (hM : mw_at D cl z M H) (t0 : Nat) {cA : ClassId} {n : Nat} {f : Nat → Int32} (ha : M a = some (.inl (cA, n, .inl f))) (ht : tys[t0]? = some (cA, .int)) {i : Int32} (hin : vp_in i n) (hdg : decode cc pc = .ok (.iaload, 1))
    (kk : W p l e R s m args below meth c H locs cells slots Q (F0 m (pc + 1) ls (.int (f i.toNatClampNeg) :: rest))) : W p l e R s m args below meth c H locs cells slots Q (F0 m pc ls (.int i :: .ref a :: rest)) := by
  obtain ⟨-, ws, hP, -, hE⟩ := hM
  obtain ⟨q0, he⟩ := List.getElem?_of_mem ((hE a _).1 ha)
  exact va_iald hexec hb hK hP q0 t0 he ht hin hdg kk
theorem mw_zald (hexec : p.tables.exec = Jvm.exec) (hb : c.code = cc) (hK : va_K D cl tys s) (hM : mw_at D cl z M H) (t0 : Nat) {cA : ClassId} {n : Nat} {f : Nat → Int32} (ha : M a = some (.inl (cA, n, .inl f))) (ht : tys[t0]? = some (cA, .boolean)) {i : Int32} (hin : vp_in i n) (hdg : decode cc pc = .ok (.baload, 1))
    (kk : W p l e R s m args below meth c H locs cells slots Q (F0 m (pc + 1) ls (.int (f i.toNatClampNeg) :: rest))) : W p l e R s m args below meth c H locs cells slots Q (F0 m pc ls (.int i :: .ref a :: rest)) := by
  obtain ⟨-, ws, hP, -, hE⟩ := hM
  obtain ⟨q0, he⟩ := List.getElem?_of_mem ((hE a _).1 ha)
  exact va_zald hexec hb hK hP q0 t0 he ht hin hdg kk
theorem mw_lald (hexec : p.tables.exec = Jvm.exec) (hb : c.code = cc) (hK : va_K D cl tys s) (hM : mw_at D cl z M H) (t0 : Nat) {cA : ClassId} {n : Nat} {f : Nat → Int64} (ha : M a = some (.inl (cA, n, .inr (.inl f)))) (ht : tys[t0]? = some (cA, .long)) {i : Int32} (hin : vp_in i n) (hdg : decode cc pc = .ok (.laload, 1))
    (kk : W p l e R s m args below meth c H locs cells slots Q (F0 m (pc + 1) ls (.long (f i.toNatClampNeg) :: rest))) : W p l e R s m args below meth c H locs cells slots Q (F0 m pc ls (.int i :: .ref a :: rest)) := by
  obtain ⟨-, ws, hP, -, hE⟩ := hM
  obtain ⟨q0, he⟩ := List.getElem?_of_mem ((hE a _).1 ha)
  exact va_lald hexec hb hK hP q0 t0 he ht hin hdg kk
theorem mw_iast (hexec : p.tables.exec = Jvm.exec) (hb : c.code = cc) (hK : va_K D cl tys s) (hM : mw_at D cl z M H) (hz : z ≤ H0.size) (hS : va_S (mw_A z) H0 H locs) (t0 : Nat) {cA : ClassId} {n : Nat} {f : Nat → Int32} (ha : M a = some (.inl (cA, n, .inl f))) (ht : tys[t0]? = some (cA, .int)) {i : Int32} {x : Int32} (hin : vp_in i n) (hdg : decode cc pc = .ok (.iastore, 1))
    (kk : ∀ (H1 : Heap) (locs1 : List Loc), mw_at D cl z (va_up M a (some (.inl (cA, n, .inl (upd f i.toNatClampNeg x))))) H1 → va_S (mw_A z) H0 H1 locs1 → W p l e R s m args below meth c H1 locs1 cells slots Q (F0 m (pc + 1) ls rest)) : W p l e R s m args below meth c H locs cells slots Q (F0 m pc ls (.int x :: .int i :: .ref a :: rest)) := by
  obtain ⟨-, ws, hP, hD, hE⟩ := hM
  obtain ⟨q0, he⟩ := List.getElem?_of_mem ((hE a _).1 ha)
  exact va_iast hexec hb hK hP hD hS q0 t0 he ht hin hdg (fun H1 locs1 hP1 hD1 hS1 => kk H1 locs1 ⟨mw_sz hz hS1, _, hP1, hD1, mw_set hD he hE⟩ hS1)
theorem mw_zast (hexec : p.tables.exec = Jvm.exec) (hb : c.code = cc) (hK : va_K D cl tys s) (hM : mw_at D cl z M H) (hz : z ≤ H0.size) (hS : va_S (mw_A z) H0 H locs) (t0 : Nat) {cA : ClassId} {n : Nat} {f : Nat → Int32} (ha : M a = some (.inl (cA, n, .inl f))) (ht : tys[t0]? = some (cA, .boolean)) {i : Int32} {x : Int32} (hin : vp_in i n) (hdg : decode cc pc = .ok (.bastore, 1))
    (kk : ∀ (H1 : Heap) (locs1 : List Loc), mw_at D cl z (va_up M a (some (.inl (cA, n, .inl (upd f i.toNatClampNeg (vp_nar .boolean x)))))) H1 → va_S (mw_A z) H0 H1 locs1 → W p l e R s m args below meth c H1 locs1 cells slots Q (F0 m (pc + 1) ls rest)) : W p l e R s m args below meth c H locs cells slots Q (F0 m pc ls (.int x :: .int i :: .ref a :: rest)) := by
  obtain ⟨-, ws, hP, hD, hE⟩ := hM
  obtain ⟨q0, he⟩ := List.getElem?_of_mem ((hE a _).1 ha)
  exact va_zast hexec hb hK hP hD hS q0 t0 he ht hin hdg (fun H1 locs1 hP1 hD1 hS1 => kk H1 locs1 ⟨mw_sz hz hS1, _, hP1, hD1, mw_set hD he hE⟩ hS1)
theorem mw_last (hexec : p.tables.exec = Jvm.exec) (hb : c.code = cc) (hK : va_K D cl tys s) (hM : mw_at D cl z M H) (hz : z ≤ H0.size) (hS : va_S (mw_A z) H0 H locs) (t0 : Nat) {cA : ClassId} {n : Nat} {f : Nat → Int64} (ha : M a = some (.inl (cA, n, .inr (.inl f)))) (ht : tys[t0]? = some (cA, .long)) {i : Int32} {x : Int64} (hin : vp_in i n) (hdg : decode cc pc = .ok (.lastore, 1))
    (kk : ∀ (H1 : Heap) (locs1 : List Loc), mw_at D cl z (va_up M a (some (.inl (cA, n, .inr (.inl (vp_updL f i.toNatClampNeg x)))))) H1 → va_S (mw_A z) H0 H1 locs1 → W p l e R s m args below meth c H1 locs1 cells slots Q (F0 m (pc + 1) ls rest)) : W p l e R s m args below meth c H locs cells slots Q (F0 m pc ls (.long x :: .int i :: .ref a :: rest)) := by
  obtain ⟨-, ws, hP, hD, hE⟩ := hM
  obtain ⟨q0, he⟩ := List.getElem?_of_mem ((hE a _).1 ha)
  exact va_last hexec hb hK hP hD hS q0 t0 he ht hin hdg (fun H1 locs1 hP1 hD1 hS1 => kk H1 locs1 ⟨mw_sz hz hS1, _, hP1, hD1, mw_set hD he hE⟩ hS1)
theorem mw_alen (hexec : p.tables.exec = Jvm.exec) (hb : c.code = cc) (hK : va_K D cl tys s) (hM : mw_at D cl z M H) (t0 : Nat) {cA : ClassId} {x : vp_A} (ha : M a = some (.inl (cA, x))) {ty : FieldType} (ht : tys[t0]? = some (cA, ty)) {v : Int32} (hv : Int32.ofNat x.1 = v) (hdg : decode cc pc = .ok (.arraylength, 1))
    (kk : W p l e R s m args below meth c H locs cells slots Q (F0 m (pc + 1) ls (.int v :: rest))) : W p l e R s m args below meth c H locs cells slots Q (F0 m pc ls (.ref a :: rest)) := by
  obtain ⟨-, ws, hP, -, hE⟩ := hM
  obtain ⟨q0, he⟩ := List.getElem?_of_mem ((hE a _).1 ha)
  exact va_alen hexec hb hK hP q0 t0 he ht hv hdg kk
theorem mw_aldq (hexec : p.tables.exec = Jvm.exec) (hb : c.code = cc) (hK : va_K D cl tys s) (hM : mw_at D cl z M H) (t0 : Nat) {cA : ClassId} {C : String} {n : Nat} {f : Nat → Option Nat} (ha : M a = some (.inl (cA, n, .inr (.inr (.inr (.inr f)))))) (ht : tys[t0]? = some (cA, .object C)) {i : Int32} (hin : vp_in i n) (hdg : decode cc pc = .ok (.aaload, 1))
    (kk : W p l e R s m args below meth c H locs cells slots Q (F0 m (pc + 1) ls (va_rf (f i.toNatClampNeg) :: rest))) : W p l e R s m args below meth c H locs cells slots Q (F0 m pc ls (.int i :: .ref a :: rest)) := by
  obtain ⟨-, ws, hP, -, hE⟩ := hM
  obtain ⟨q0, he⟩ := List.getElem?_of_mem ((hE a _).1 ha)
  exact va_aldq hexec hb hK hP q0 t0 he ht hin hdg kk
theorem mw_astq (hexec : p.tables.exec = Jvm.exec) (hb : c.code = cc) (hK : va_K D cl tys s) (hM : mw_at D cl z M H) (hz : z ≤ H0.size) (hS : va_S (mw_A z) H0 H locs) (t0 : Nat) {E : String} {cA : ClassId} {ci : Nat} {r : vw_C} {n v : Nat} {vs : List Value} {f : Nat → Option Nat} (ha : M a = some (.inl (cA, n, .inr (.inr (.inr (.inr f)))))) (ht : tys[t0]? = some (cA, .object E)) (hca : va_Nw (.castable r.1 E) s) (hv : M v = some (.inr (ci, vs))) (hc : cl[ci]? = some r) {i : Int32} (hin : vp_in i n) (hdg : decode cc pc = .ok (.aastore, 1))
    (kk : ∀ (H1 : Heap) (locs1 : List Loc), mw_at D cl z (va_up M a (some (.inl (cA, n, .inr (.inr (.inr (.inr (va_up f i.toNatClampNeg (some v)))))))) ) H1 → va_S (mw_A z) H0 H1 locs1 → W p l e R s m args below meth c H1 locs1 cells slots Q (F0 m (pc + 1) ls rest)) : W p l e R s m args below meth c H locs cells slots Q (F0 m pc ls (.ref v :: .int i :: .ref a :: rest)) := by
  obtain ⟨-, ws, hP, hD, hE⟩ := hM
  obtain ⟨q0, he⟩ := List.getElem?_of_mem ((hE a _).1 ha)
  obtain ⟨qk, hek⟩ := List.getElem?_of_mem ((hE v _).1 hv)
  exact va_astqO hexec hb hK hP hD hS q0 t0 qk ci he ht hca hek hc hin hdg (fun H1 locs1 hP1 hD1 hS1 => kk H1 locs1 ⟨mw_sz hz hS1, _, hP1, hD1, mw_set hD he hE⟩ hS1)
theorem mw_astqN (hexec : p.tables.exec = Jvm.exec) (hb : c.code = cc) (hK : va_K D cl tys s) (hM : mw_at D cl z M H) (hz : z ≤ H0.size) (hS : va_S (mw_A z) H0 H locs) (t0 : Nat) {C : String} {cA : ClassId} {n : Nat} {f : Nat → Option Nat} (ha : M a = some (.inl (cA, n, .inr (.inr (.inr (.inr f)))))) (ht : tys[t0]? = some (cA, .object C)) {i : Int32} (hin : vp_in i n) (hdg : decode cc pc = .ok (.aastore, 1))
    (kk : ∀ (H1 : Heap) (locs1 : List Loc), mw_at D cl z (va_up M a (some (.inl (cA, n, .inr (.inr (.inr (.inr (va_up f i.toNatClampNeg none)))))))) H1 → va_S (mw_A z) H0 H1 locs1 → W p l e R s m args below meth c H1 locs1 cells slots Q (F0 m (pc + 1) ls rest)) : W p l e R s m args below meth c H locs cells slots Q (F0 m pc ls (.null :: .int i :: .ref a :: rest)) := by
  obtain ⟨-, ws, hP, hD, hE⟩ := hM
  obtain ⟨q0, he⟩ := List.getElem?_of_mem ((hE a _).1 ha)
  exact va_astqN hexec hb hK hP hD hS q0 t0 he ht hin hdg (fun H1 locs1 hP1 hD1 hS1 => kk H1 locs1 ⟨mw_sz hz hS1, _, hP1, hD1, mw_set hD he hE⟩ hS1)
theorem mw_new (hexec : p.tables.exec = Jvm.exec) (hb : c.code = cc) {own C : String} {T : u_T} {N ci index : Nat} {Ts : List Cond} (hts : ∀ w ∈ Ts, w.before args s = true) (hin : ∀ w ∈ u_ws C T N, w ∈ Ts) (ty : Nat → FieldType) (hty : ∀ k, k < N → parseFieldDescriptor (T k).2.2.1 = some (ty k)) (hown : s.vm.findClass own = some m.cls) (hcl : (Cond.classLink own index C).before args s = true) (hinst : (Cond.instantiable C N).before args s = true) (hini : (Cond.initialized C).before args s = true)
    (hK : va_K D cl tys s) (hM : mw_at D cl z M H) (hz : z ≤ H0.size) (hS : va_S (mw_A z) H0 H locs) (hc : cl[ci]? = some (C, T, N)) {fs : List Value} (hfs : ∀ j, j < N → defaultValue (ty j) = vp_V fs j) (hcells : cells + 1 ≤ R.cells) (hslots : slots + N ≤ R.slots) (hdg : decode cc pc = .ok (.new index, 3))
    (kk : ∀ (q : Nat) (H1 : Heap), M q = none → mw_at D cl z (va_up M q (some (.inr (ci, fs)))) H1 → va_S (mw_A z) H0 H1 locs →
      W p l e R s m args below meth c H1 locs (cells + 1) (slots + N) Q (F0 m (pc + 3) ls (.ref q :: rest))) : W p l e R s m args below meth c H locs cells slots Q (F0 m pc ls rest) := by
  obtain ⟨-, ws, hP, hD, hE⟩ := hM
  exact va_new hexec hb hts hin ty hty hown hcl hinst hini hK hP hD hS (fun q h => Nat.le_trans hz h) hc hfs hcells hslots hdg (fun q H1 hP1 hD1 hS1 => kk q H1 (mw_fresh hD1 hE) ⟨mw_sz hz hS1, _, hP1, hD1, mw_push hD1 hE⟩ hS1)
/-- a new array of a primitive type, whose class is the known one -/
theorem mw_newa (hexec : p.tables.exec = Jvm.exec) (hb : c.code = cc) {atype : ArrayType} (harr : (Cond.arrayClass (newarray.typeOf atype)).before args s = true) {ty : FieldType} (hty : newarray.typeOf atype = ty) (hK : va_K D cl tys s) (hM : mw_at D cl z M H) (hz : z ≤ H0.size) (hS : va_S (mw_A z) H0 H locs) (t0 : Nat) {cA : ClassId} (ht : tys[t0]? = some (cA, ty))
    {n : Int32} {N' : Nat} {a0 : vp_A} (ha : ∀ cA : ClassId, vp_cell cA a0 = arrV cA N' (fun _ => defaultValue ty)) (hn : ¬ n < 0) (hN : n.toNatClampNeg = N') (hbytes : N' * componentBytes ty ≤ 536870912) (hcells : cells + 1 ≤ R.cells) (hslots : slots + N' ≤ R.slots) (hdg : decode cc pc = .ok (.newarray atype, 2))
    (kk : ∀ (q : Nat) (H1 : Heap), M q = none → mw_at D cl z (va_up M q (some (.inl (cA, a0)))) H1 → va_S (mw_A z) H0 H1 locs →
      W p l e R s m args below meth c H1 locs (cells + 1) (slots + N') Q (F0 m (pc + 2) ls (.ref q :: rest))) : W p l e R s m args below meth c H locs cells slots Q (F0 m pc ls (.int n :: rest)) := by
  obtain ⟨-, ws, hP, hD, hE⟩ := hM
  refine va_newa hexec hb harr hty hK hP hD hS (fun q h => Nat.le_trans hz h) ha hn hN hbytes hcells hslots hdg (fun q cA1 H1 hK1 hP1 hD1 hS1 => ?_)
  have h1 : va_RA s cA1 ty := (hK1.2 tys.length (cA1, ty) (by rw [List.getElem?_append_right (Nat.le_refl _), Nat.sub_self]; rfl)).2
  have h2 : va_RA s cA ty := (hK.2 t0 _ ht).2
  have h3 : cA1 = cA := by
    subst hty
    cases atype <;> exact Option.some.inj (h1.symm.trans h2)
  subst h3
  exact kk q H1 (mw_fresh hD1 hE) ⟨mw_sz hz hS1, _, hP1, hD1, mw_push hD1 hE⟩ hS1
/-- a new array of references -/
theorem mw_newq (hexec : p.tables.exec = Jvm.exec) (hb : c.code = cc) {own C : String} {index : Nat} (hown : s.vm.findClass own = some m.cls) (hclink : (Cond.classLink own index C).before args s = true) (hover : va_AO C s) (hK : va_K D cl tys s) (hM : mw_at D cl z M H) (hz : z ≤ H0.size) (hS : va_S (mw_A z) H0 H locs) (t0 : Nat) {cA : ClassId} (ht : tys[t0]? = some (cA, .object C))
    {n : Int32} {N' : Nat} (hn : ¬ n < 0) (hN : n.toNatClampNeg = N') (hbytes : N' * 4 ≤ 536870912) (hcells : cells + 1 ≤ R.cells) (hslots : slots + N' ≤ R.slots) (hdg : decode cc pc = .ok (.anewarray index, 3))
    (kk : ∀ (q : Nat) (H1 : Heap), M q = none → mw_at D cl z (va_up M q (some (.inl (cA, N', .inr (.inr (.inr (.inr (fun _ => none)))))))) H1 → va_S (mw_A z) H0 H1 locs →
      W p l e R s m args below meth c H1 locs (cells + 1) (slots + N') Q (F0 m (pc + 3) ls (.ref q :: rest))) : W p l e R s m args below meth c H locs cells slots Q (F0 m pc ls (.int n :: rest)) := by
  obtain ⟨-, ws, hP, hD, hE⟩ := hM
  refine va_newq hexec hb hown hclink hover hK hP hD hS (fun q h => Nat.le_trans hz h) hn hN hbytes hcells hslots hdg (fun q cA1 H1 hK1 hP1 hD1 hS1 => ?_)
  have h1 : va_RA s cA1 (.object C) := (hK1.2 tys.length (cA1, .object C) (by rw [List.getElem?_append_right (Nat.le_refl _), Nat.sub_self]; rfl)).2
  have h2 : va_RA s cA (.object C) := (hK.2 t0 _ ht).2
  have h3 : cA1 = cA := by
    obtain ⟨_, _, -, -, -, g1⟩ := h1
    obtain ⟨_, _, -, -, -, g2⟩ := h2
    exact Option.some.inj (g1.symm.trans g2)
  subst h3
  exact kk q H1 (mw_fresh hD1 hE) ⟨mw_sz hz hS1, _, hP1, hD1, mw_push hD1 hE⟩ hS1
theorem mw_recv {ci : Nat} {q : vw_C} {fs : List Value} (hK : va_K D cl tys s) (hM : mw_at D cl z M H) (hc : cl[ci]? = some q) (ha : M a = some (.inr (ci, fs))) : ∃ cell : Cell, H[a]? = some cell ∧ cell.vm.isStatics = false ∧ s.vm.findClass q.1 = some cell.cls := by
  obtain ⟨-, ws, hP, -, hE⟩ := hM
  obtain ⟨q0, he⟩ := List.getElem?_of_mem ((hE a _).1 ha)
  exact va_recv hK hP hc he
end MWR
