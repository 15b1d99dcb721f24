abbrev mg_cl : List vw_C := [("IdentityIssuer", ff_Xi, 14), ("IdentityIssuer$Bytes", ff_By, 2), ("IdentityIssuer$Ids", ff_Id, 4), ("IdentityIssuer$Entries", ff_Es, 2), ("java/util/ArrayList", ff_AL, 3), ("IdentityIssuer$Response", ff_Rs, 4), ("IdentityIssuer$Reader", ff_Rd, 9), ("IdentityIssuer$Writer", ff_Wr, 2), ("IdentityIssuer$Keys", ff_Ky, 5), ("IdentityIssuer$Entry", ff_En, 6), ("IdentityIssuer$Agent", ff_Ag, 6), ("IdentityIssuer$Certificate", ff_Ce, 5), ("IdentityIssuer$Watcher", ff_Wa, 4), ("IdentityIssuerModel", ff_Mo, 52)]
abbrev mg_ty (D : va_G) : List (ClassId × FieldType) := [(D.1 100, .int), (D.1 101, .long), (D.1 102, .boolean), (D.1 103, .object "java/lang/Object"), (D.1 104, .array .int)]
/-- the links of nest mates, what may be cast to what, the arrays over Object and over int[] -/
def mg_N (D : va_G) (U : State) : Prop := (∀ q ∈ lw_fN, va_Nw (.fieldLinkNest q.1 q.2.1 q.2.2.1 q.2.2.2.1 q.2.2.2.2.1 q.2.2.2.2.2) U) ∧ (∀ q ∈ lw_mN, va_Nw (.methodLinkNest q.1 q.2.1 q.2.2.1 q.2.2.2) U) ∧ (∀ q ∈ lw_cN, va_Nw (.castable q.1 q.2) U) ∧ va_AO "java/lang/Object" U ∧ (Cond.arrayOver (.array .int)).before #[] U = true ∧ vk_R "IdentityIssuer$Ids" 27 "spiffe://" (D.2 200 4) U ∧ va_Mi "[Ljava/lang/Object;" (D.2 200 6) U ∧ va_Dc U
theorem mg_ao {u U : State} (hvm : u.vm.Alike U.vm) (h : (Cond.arrayOver (.array .int)).before #[] u = true) : (Cond.arrayOver (.array .int)).before #[] U = true := by
  obtain ⟨comp, c, k, h1, h2, h3, h4, h5⟩ := arrayOverA_spec h
  obtain ⟨k', hk', he⟩ := hvm.2.2 _ _ h3
  have hi : (U.vm.classes.findIdx? fun (x : Class) => match x.kind with | .array component _ => component == comp | _ => false) = some c := by
    rw [hvm.findIdx?_eq _ (fun _ => rfl)]
    exact h2
  have hkind : k'.kind = .array comp (.array .int) := by rw [he]; exact h4
  have f1 : U.vm.findClass (FieldType.array .int).toString = some comp := by rw [hvm.findClass]; exact h1
  have f2 : U.vm.findClass ("[" ++ (FieldType.array .int).toString) = some c := by rw [hvm.findClass]; exact h5
  unfold Cond.before Cond.holds
  simp only [Cond.value]
  rw [f1, Option.bind_some]
  refine (congrArg (fun o : Option Nat => (o.bind (fun c => (U.vm.classes[c]?).map fun (k : Class) => match k.kind with | .array _ ty => decide (ty = FieldType.array .int) && decide (U.vm.findClass ("[" ++ (FieldType.array .int).toString) = some c) | _ => false) == some true)) hi).trans ?_
  simp [hk', hkind, f2]
theorem mg_N.warm {D : va_G} {s U : State} (hW : s.WarmedH U.vm) (h : mg_N D s) : mg_N D U :=
  ⟨fun q hq => va_Nw.warmF hW (h.1 q hq), fun q hq => va_Nw.warmM hW (h.2.1 q hq), fun q hq => va_Nw.warmC hW (h.2.2.1 q hq), va_AO.moved hW.alike h.2.2.2.1, mg_ao hW.alike h.2.2.2.2.1, vk_R.warm hW h.2.2.2.2.2.1, va_Mi.moved hW.alike h.2.2.2.2.2.2.1, va_Dc.moved hW.alike h.2.2.2.2.2.2.2⟩
theorem mg_N.same {D : va_G} {u U : State} (hv : u.vm = U.vm) (h : mg_N D u) : mg_N D U :=
  ⟨fun q hq => va_Nw.same rfl hv (h.1 q hq), fun q hq => va_Nw.same rfl hv (h.2.1 q hq), fun q hq => va_Nw.same rfl hv (h.2.2.1 q hq), va_AO.moved (by rw [hv]; exact Vm.Alike.refl _) h.2.2.2.1, mg_ao (by rw [hv]; exact Vm.Alike.refl _) h.2.2.2.2.1, vk_R.same hv.symm h.2.2.2.2.2.1, va_Mi.moved (by rw [hv]; exact Vm.Alike.refl _) h.2.2.2.2.2.2.1, va_Dc.moved (by rw [hv]; exact Vm.Alike.refl _) h.2.2.2.2.2.2.2⟩
/-- what stays of the statics: the empty array of lists, the tail of a body, the keys' secrets and moduli, whether strings are compact, the scheme's text -/
def mg_Z (D : va_G) (z : Nat) (U : State) (H : Heap) : Prop :=
  (va_Z "java/util/ArrayList" "DEFAULTCAPACITY_EMPTY_ELEMENTDATA" "[Ljava/lang/Object;" (.ref (D.2 200 0)) (mw_A z) U H ∧ va_T (.object "java/lang/Object") (D.2 200 0) 0 (fun _ => .null) (mw_A z) U H) ∧
  (va_Z "IdentityIssuer" "BODY_TAIL" "[I" (.ref (D.2 200 1)) (mw_A z) U H ∧ va_T .int (D.2 200 1) 4 (fun j => .int (([3, 2, 7, 128] : List Int32).getD j 0)) (mw_A z) U H) ∧
  (va_Z "IdentityIssuer$Keys" "SECRETS" "[I" (.ref (D.2 200 2)) (mw_A z) U H ∧ va_T .int (D.2 200 2) 4 (fun j => .int (([278664713, 526488929, 399288977, 940729625] : List Int32).getD j 0)) (mw_A z) U H) ∧
  (va_Z "IdentityIssuer$Keys" "MODULI" "[J" (.ref (D.2 200 3)) (mw_A z) U H ∧ va_T .long (D.2 200 3) 4 (fun j => .long (([1071514531, 1070271221, 1069289951, 1067328611] : List Int64).getD j 0)) (mw_A z) U H) ∧
  va_Z "java/lang/String" "COMPACT_STRINGS" "Z" (.int 1) (mw_A z) U H ∧
  va_Zq "jdk/internal/util/Preconditions" "SIOOBE_FORMATTER" "Ljava/util/function/BiFunction;" (mw_A z) U H ∧
  vk_S 1 [9] [[115, 112, 105, 102, 102, 101, 58, 47, 47]] (fun _ => D.2 200 4) (fun _ => D.2 200 5) (mw_A z) U H
theorem mg_Z.moved {D : va_G} {z : Nat} {u U : State} {H : Heap} (hvm : u.vm.Alike U.vm) (h : mg_Z D z u H) : mg_Z D z U H :=
  ⟨⟨h.1.1.moved hvm, h.1.2.moved hvm⟩, ⟨h.2.1.1.moved hvm, h.2.1.2.moved hvm⟩, ⟨h.2.2.1.1.moved hvm, h.2.2.1.2.moved hvm⟩, ⟨h.2.2.2.1.1.moved hvm, h.2.2.2.1.2.moved hvm⟩, h.2.2.2.2.1.moved hvm, h.2.2.2.2.2.1.moved hvm, h.2.2.2.2.2.2.moved hvm⟩
theorem mg_Z.kept {D : va_G} {z : Nat} {U : State} {H H1 : Heap} (h : mg_Z D z U H) (hq : ∀ a : Nat, a < H.size → ¬ mw_A z a → H1[a]? = H[a]?) : mg_Z D z U H1 :=
  ⟨⟨h.1.1.kept hq, h.1.2.kept hq⟩, ⟨h.2.1.1.kept hq, h.2.1.2.kept hq⟩, ⟨h.2.2.1.1.kept hq, h.2.2.1.2.kept hq⟩, ⟨h.2.2.2.1.1.kept hq, h.2.2.2.1.2.kept hq⟩, h.2.2.2.2.1.kept hq, h.2.2.2.2.2.1.kept hq, h.2.2.2.2.2.2.kept hq⟩
/-! contracts over the map world: any return type, one form -/
def mw_B (D : va_G) (z : Nat) (M : mw_M) (U : State) : Prop := mw_at D mg_cl z M U.heap ∧ va_K D mg_cl (mg_ty D) U ∧ mg_Z D z U U.heap ∧ mg_N D U
theorem mw_B.calling {D : va_G} {z : Nat} {M : mw_M} {U : State} {g : JFrame} {mk : MethodId} {a : Array Value} (h : mw_B D z M U) : mw_B D z M (U.calling g mk a) :=
  ⟨h.1, va_K.moved (u := U) (U := U.calling g mk a) (Vm.Alike.refl U.vm) h.2.1, mg_Z.moved (u := U) (U := U.calling g mk a) (Vm.Alike.refl U.vm) h.2.2.1, mg_N.same (D := D) (u := U) (U := U.calling g mk a) rfl h.2.2.2⟩
theorem mw_B.of {D : va_G} {z : Nat} {M : mw_M} {s U : State} {H : Heap} {locs : List Loc} (hM : mw_at D mg_cl z M H) (hK : va_K D mg_cl (mg_ty D) s) (hZ : mg_Z D z s s.heap) (hN : mg_N D s) (hS : va_S (mw_A z) s.heap H locs) (hU : U.heap = H) (hW : s.WarmedH U.vm) : mw_B D z M U :=
  ⟨by rw [hU]; exact hM, va_K.moved hW.alike hK, by rw [hU]; exact mg_Z.moved hW.alike (mg_Z.kept hZ (fun a h1 h2 => hS.2.1 a h1 h2)), mg_N.warm hW hN⟩
def mw_Q (D : va_G) (z : Nat) (post : Option Value → mw_M → Prop) : Array Value → State → Outcome → State → Prop := fun _ st oc t => (∃ (v : Option Value) (M' : mw_M), oc = .returned v ∧ post v M' ∧ mw_B D z M' t) ∧ va_F (mw_A z) st t
def mw_w (y : MethodName) (cc : ByteArray) (n : Nat) (ret : Option FieldType) : List Cond := .code y cc n ret :: lw_gt
def mw_C (l : Launch) (y : MethodName) (cc : ByteArray) (n : Nat) (ret : Option FieldType) (fr lo mc ms : Nat) (D : va_G) (z : Nat) (M : mw_M) (av : List Value) (post : Option Value → mw_M → Prop) : Prop :=
  Met l y (mw_w y cc n ret) ({ frames := fr, cells := mc, slots := ms, locals := lo }) (va_Pc av (mw_B D z M)) (mw_Q D z post) mc ms (mw_A z)
/-- what holds all along a method's body -/
def mw_E (p : Program) (m : MethodId) (c : Code) (cc : ByteArray) (n : Nat) (s : State) (args : Array Value) (D : va_G) (z : Nat) (own : String) : Prop :=
  CallFix p m c cc n s args lw_gt own ∧ va_K D mg_cl (mg_ty D) s ∧ z ≤ s.heap.size ∧ mg_Z D z s s.heap ∧ mg_N D s
section MWE
variable {p : Program} {m : MethodId} {c : Code} {cc : ByteArray} {n : Nat} {s : State} {args : Array Value} {D : va_G} {z : Nat} {own : String}
theorem mw_E.x (E : mw_E p m c cc n s args D z own) : p.tables.exec = Jvm.exec := E.1.1
theorem mw_E.b (E : mw_E p m c cc n s args D z own) : c.code = cc := E.1.2.1
theorem mw_E.ml (E : mw_E p m c cc n s args D z own) : c.maxLocals = n := E.1.2.2.1
theorem mw_E.o (E : mw_E p m c cc n s args D z own) : s.vm.findClass own = some m.cls := E.1.2.2.2.1
theorem mw_E.t (E : mw_E p m c cc n s args D z own) : ∀ w ∈ lw_gt, w.before args s = true := E.1.2.2.2.2
theorem mw_E.K (E : mw_E p m c cc n s args D z own) : va_K D mg_cl (mg_ty D) s := E.2.1
theorem mw_E.zz (E : mw_E p m c cc n s args D z own) : z ≤ s.heap.size := E.2.2.1
theorem mw_E.Z (E : mw_E p m c cc n s args D z own) : mg_Z D z s s.heap := E.2.2.2.1
theorem mw_E.N (E : mw_E p m c cc n s args D z own) : mg_N D s := E.2.2.2.2
end MWE
theorem mw_of {l : Launch} {y : MethodName} {cc : ByteArray} {n : Nat} {ret : Option FieldType} {fr lo mc ms : Nat} {D : va_G} {z : Nat} {M : mw_M} {av : List Value} {post : Option Value → mw_M → Prop} (hy : plainName y.cls = true) (hn : (lg_sl av).length ≤ n)
    (body : ∀ (p : Program) (e : Env) (s : State) (m : MethodId) (below : List Frame) (meth : Method) (c : Code) (ls : Array Slot), mw_E p m c cc n s av.toArray D z y.cls → meth.sig.returnType = ret → meth.locks = false → meth.name = y.name → mw_at D mg_cl z M s.heap → lv_has ls n (lv_args 0 av) →
      W p l e ({ frames := fr, cells := mc, slots := ms, locals := lo }) s m av.toArray below meth c s.heap [] 0 0 (MQ below (mw_Q D z post) av.toArray s mc ms (mw_A z)) (F0 m 0 ls [])) : mw_C l y cc n ret fr lo mc ms D z M av post := by
  refine Met.ofW (cc := cc) (maxL := n) (ret := ret) hy rfl ?_
  intro p e s m args below meth c s₁ B hml hv
  obtain ⟨rfl, hM, hK, hZ, hN⟩ := hv
  have hts := atoms_spec (ws := mw_w y cc n ret) B.pre
  rw [lg_entry_eq]
  exact body p e s m below meth c _ ⟨⟨B.exec, B.bytes, hml, findClass_of_methodNamed B.named, fun w hw => hts w (List.mem_cons_of_mem _ hw)⟩, hK, hM.1, hZ, hN⟩ B.returns B.notSynchronized (name_of_methodNamed B.named B.method).1 hM (lv_entry av hn)
theorem mw_good {y : MethodName} {cc : ByteArray} {n : Nat} {ret : Option FieldType} (h : Cond.code y cc n ret ∈ lw_gt) : GoodIn lw_gt (mw_w y cc n ret) := by
  intro w hw
  have hw' : w ∈ lw_gt := by
    rcases List.mem_cons.mp hw with rfl | hw
    · exact h
    · exact hw
  exact ⟨hw', good_of_word (lw_good w hw')⟩
theorem mw_goodV {own : String} {index : Nat} {y : MethodName} {cc : ByteArray} {n : Nat} {ret : Option FieldType} (h : Cond.code y cc n ret ∈ lw_gt) (h1 : Cond.methodLink own index y ∈ lw_gt) (h2 : Cond.instanceMethod y ∈ lw_gt) (h3 : Cond.selects y.cls y y ∈ lw_gt) (h4 : Cond.initialized y.cls ∈ lw_gt) : GoodIn lw_gt (wsV own index y.cls y (mw_w y cc n ret)) := by
  intro w hw
  rcases List.mem_append.mp hw with hw | hw
  · have hw' : w ∈ lw_gt := by
      simp only [List.mem_cons, List.not_mem_nil, or_false] at hw
      rcases hw with rfl | rfl | rfl | rfl
      · exact h1
      · exact h2
      · exact h3
      · exact h4
    exact ⟨hw', good_of_word (lw_good w hw')⟩
  · exact mw_good h w hw
theorem mw_goodS {own : String} {index : Nat} {y : MethodName} {cc : ByteArray} {n : Nat} {ret : Option FieldType} (h : Cond.code y cc n ret ∈ lw_gt) (h1 : Cond.methodLink own index y ∈ lw_gt) (h2 : Cond.static y ∈ lw_gt) (h4 : Cond.initialized y.cls ∈ lw_gt) : GoodIn lw_gt (va_wsS own index y (mw_w y cc n ret)) := by
  intro w hw
  rcases List.mem_append.mp hw with hw | hw
  · have hw' : w ∈ lw_gt := by
      simp only [List.mem_cons, List.not_mem_nil, or_false] at hw
      rcases hw with rfl | rfl | rfl
      · exact h1
      · exact h2
      · exact h4
    exact ⟨hw', good_of_word (lw_good w hw')⟩
  · exact mw_good h w hw
/-- what the tables say of a callee: its code, its class, how many arguments -/
def mw_Y (y : MethodName) (cc : ByteArray) (n : Nat) (ret : Option FieldType) (k : Nat) : Prop := Cond.code y cc n ret ∈ lw_gt ∧ Cond.initialized y.cls ∈ lw_gt ∧ (y.cls ≠ "java/lang/invoke/MethodHandle" ∧ y.cls ≠ "java/lang/invoke/VarHandle" ∧ (parseMethodDescriptor y.desc).map (fun d => d.parameters.length) = some k)
section MWC
variable {p : Program} {l : Launch} {e : Env} {R : Room} {s : State} {m : MethodId} {args : Array Value} {below : List Frame} {meth : Method} {c : Code} {H : Heap} {locs : List Loc} {cells slots : Nat} {Q : State → Prop}
variable {cc : ByteArray} {pc nL : Nat} {ls : Array Slot} {rest st0 : List Value} {D : va_G} {z : Nat} {M : mw_M} {own : String} {mc ms : Nat}
theorem mw_call {post : Option Value → mw_M → Prop} {a : Array Value} (hr : va_Run p l e R s m args below meth c H locs cells slots mc ms (F0 m pc ls st0) rest (mw_Q D z post a) (mw_A z)) (hS : va_S (mw_A z) s.heap H locs)
    (kk : ∀ (v : Option Value) (M' : mw_M) (H1 : Heap) (locs1 : List Loc), post v M' → mw_at D mg_cl z M' H1 → va_S (mw_A z) s.heap H1 locs1 → W p l e R s m args below meth c H1 locs1 (cells + mc) (slots + ms) Q (F0 m (pc + 3) ls (v.toList ++ rest))) : W p l e R s m args below meth c H locs cells slots Q (F0 m pc ls st0) := by
  intro T hT X
  obtain ⟨v, st₀, t, T', L, h0, X', hL, e1, e2, ⟨⟨v', M', hv, hp, hb⟩, hz, hk⟩, st⟩ := hr T hT X
  cases hv
  rw [h0] at hz hk
  obtain ⟨t2, a1, b1⟩ := kk v M' T'.heap (locs ++ L) hp (by rw [e1]; exact hb.1)
    ⟨Nat.le_trans hS.1 (by rw [e1]; exact hz), fun q h1 h2 => by rw [e1, hk q (Nat.lt_of_lt_of_le h1 hS.1) h2]; exact hS.2.1 q h1 h2, fun q hq => by
      rcases List.mem_append.mp hq with h | h
      · exact hS.2.2 q h
      · exact hL q h⟩ T' rfl X'
  exact ⟨t2, st t2 a1, b1⟩
variable {y : MethodName} {cc' : ByteArray} {n' fr lo k index : Nat} {ret : Option FieldType} {As : List Value} {post : Option Value → mw_M → Prop} {b : Nat}
theorem mw_pre (E : mw_E p m c cc nL s args D z own) (hM : mw_at D mg_cl z M H) (hS : va_S (mw_A z) s.heap H locs) {av : List Value} : FrameBlind (va_Pc av (mw_B D z M)) ∧ ∀ U : State, U.heap = H → s.WarmedH U.vm → va_Pc av (mw_B D z M) av.toArray U :=
  ⟨fun _ _ _ _ q => ⟨q.1, q.2.calling⟩, fun _ hU hW => ⟨rfl, mw_B.of hM E.K E.Z E.N hS hU hW⟩⟩
/-- invokevirtual of a method of the receiver's own class -/
theorem mw_V (E : mw_E p m c cc nL s args D z own) (hC : mw_C l y cc' n' ret fr lo mc ms D z M (.ref b :: As) post) (hy : mw_Y y cc' n' ret k) (hv : Cond.instanceMethod y ∈ lw_gt ∧ Cond.selects y.cls y y ∈ lw_gt) (hl : Cond.methodLink own index y ∈ lw_gt) (hM : mw_at D mg_cl z M H) (hS : va_S (mw_A z) s.heap H locs) {ci : Nat} {fs : List Value} {q : vw_C} (ha : M b = some (.inr (ci, fs))) (hc : mg_cl[ci]? = some q) (hq : q.1 = y.cls) (hn : As.length = k) (hls : ls.size = nL) (hst : st0 = As.reverse ++ .ref b :: rest) (hW : (rest.map fun v => v.category).sum ≤ 8) (hdg : decode cc pc = .ok (.invokevirtual index, 3)) (hf : cells + mc ≤ R.cells ∧ slots + ms ≤ R.slots) (hR : fr + 1 ≤ R.frames ∧ 8 + (n' + 11) + lo ≤ R.locals)
    (kk : ∀ (v : Option Value) (M' : mw_M) (H1 : Heap) (locs1 : List Loc), post v M' → mw_at D mg_cl z M' H1 → va_S (mw_A z) s.heap H1 locs1 → W p l e R s m args below meth c H1 locs1 (cells + mc) (slots + ms) Q (F0 m (pc + 3) ls (v.toList ++ rest))) : W p l e R s m args below meth c H locs cells slots Q (F0 m pc ls st0) :=
  mw_call (va_runV (As := As) (rest := rest) ⟨E.x, E.b, E.ml, E.o, E.t⟩ hC (cwV k E.t (mw_goodV hy.1 hl hv.1 hv.2 hy.2.1) rfl rfl rfl ⟨rfl, hy.2.2⟩ hR) ⟨(mw_pre E hM hS).1, by have h := mw_recv E.K hM hc ha; rw [hq] at h; exact h, (mw_pre E hM hS).2⟩ rfl hn hls hst (lv_room hW) hdg hf) hS kk
/-- the same by a nest mate's link -/
theorem mw_VN (E : mw_E p m c cc nL s args D z own) (hC : mw_C l y cc' n' ret fr lo mc ms D z M (.ref b :: As) post) (hy : mw_Y y cc' n' ret k) (hv : Cond.instanceMethod y ∈ lw_gt ∧ Cond.selects y.cls y y ∈ lw_gt) {host : String} (hl : (own, index, y, host) ∈ lw_mN) (hM : mw_at D mg_cl z M H) (hS : va_S (mw_A z) s.heap H locs) {ci : Nat} {fs : List Value} {q : vw_C} (ha : M b = some (.inr (ci, fs))) (hc : mg_cl[ci]? = some q) (hq : q.1 = y.cls) (hn : As.length = k) (hls : ls.size = nL) (hst : st0 = As.reverse ++ .ref b :: rest) (hW : (rest.map fun v => v.category).sum ≤ 8) (hdg : decode cc pc = .ok (.invokevirtual index, 3)) (hf : cells + mc ≤ R.cells ∧ slots + ms ≤ R.slots) (hR : fr + 1 ≤ R.frames ∧ 8 + (n' + 11) + lo ≤ R.locals)
    (kk : ∀ (v : Option Value) (M' : mw_M) (H1 : Heap) (locs1 : List Loc), post v M' → mw_at D mg_cl z M' H1 → va_S (mw_A z) s.heap H1 locs1 → W p l e R s m args below meth c H1 locs1 (cells + mc) (slots + ms) Q (F0 m (pc + 3) ls (v.toList ++ rest))) : W p l e R s m args below meth c H locs cells slots Q (F0 m pc ls st0) :=
  mw_call (va_runVN (As := As) (rest := rest) ⟨E.x, E.b, E.ml, E.o, E.t⟩ hC ⟨va_cnB k E.t (mw_good hy.1) rfl rfl rfl (E.N.2.1 _ hl) (E.t _ hy.2.1) hy.2.2 hR, E.t _ hv.1, E.t _ hv.2⟩ ⟨(mw_pre E hM hS).1, by have h := mw_recv E.K hM hc ha; rw [hq] at h; exact h, (mw_pre E hM hS).2⟩ rfl hn hls hst (lv_room hW) hdg hf) hS kk
theorem mw_S (E : mw_E p m c cc nL s args D z own) (hC : mw_C l y cc' n' ret fr lo mc ms D z M As post) (hy : mw_Y y cc' n' ret k) (hv : Cond.static y ∈ lw_gt) (hl : Cond.methodLink own index y ∈ lw_gt) (hM : mw_at D mg_cl z M H) (hS : va_S (mw_A z) s.heap H locs) (hn : As.length = k) (hls : ls.size = nL) (hst : st0 = As.reverse ++ rest) (hW : (rest.map fun v => v.category).sum ≤ 8) (hdg : decode cc pc = .ok (.invokestatic index, 3)) (hf : cells + mc ≤ R.cells ∧ slots + ms ≤ R.slots) (hR : fr + 1 ≤ R.frames ∧ 8 + (n' + 11) + lo ≤ R.locals)
    (kk : ∀ (v : Option Value) (M' : mw_M) (H1 : Heap) (locs1 : List Loc), post v M' → mw_at D mg_cl z M' H1 → va_S (mw_A z) s.heap H1 locs1 → W p l e R s m args below meth c H1 locs1 (cells + mc) (slots + ms) Q (F0 m (pc + 3) ls (v.toList ++ rest))) : W p l e R s m args below meth c H locs cells slots Q (F0 m pc ls st0) :=
  mw_call (va_runS (As := As) (rest := rest) ⟨E.x, E.b, E.ml, E.o, E.t⟩ hC (va_cwS k E.t (mw_goodS hy.1 hl hv hy.2.1) rfl rfl rfl hy.2.2 hR) (mw_pre E hM hS) rfl hn hls hst (lv_room hW) hdg hf) hS kk
theorem mw_SN (E : mw_E p m c cc nL s args D z own) (hC : mw_C l y cc' n' ret fr lo mc ms D z M As post) (hy : mw_Y y cc' n' ret k) (hv : Cond.static y ∈ lw_gt) {host : String} (hl : (own, index, y, host) ∈ lw_mN) (hM : mw_at D mg_cl z M H) (hS : va_S (mw_A z) s.heap H locs) (hn : As.length = k) (hls : ls.size = nL) (hst : st0 = As.reverse ++ rest) (hW : (rest.map fun v => v.category).sum ≤ 8) (hdg : decode cc pc = .ok (.invokestatic index, 3)) (hf : cells + mc ≤ R.cells ∧ slots + ms ≤ R.slots) (hR : fr + 1 ≤ R.frames ∧ 8 + (n' + 11) + lo ≤ R.locals)
    (kk : ∀ (v : Option Value) (M' : mw_M) (H1 : Heap) (locs1 : List Loc), post v M' → mw_at D mg_cl z M' H1 → va_S (mw_A z) s.heap H1 locs1 → W p l e R s m args below meth c H1 locs1 (cells + mc) (slots + ms) Q (F0 m (pc + 3) ls (v.toList ++ rest))) : W p l e R s m args below meth c H locs cells slots Q (F0 m pc ls st0) :=
  mw_call (va_runSN (As := As) (rest := rest) ⟨E.x, E.b, E.ml, E.o, E.t⟩ hC ⟨va_cnB k E.t (mw_good hy.1) rfl rfl rfl (E.N.2.1 _ hl) (E.t _ hy.2.1) hy.2.2 hR, E.t _ hv, trivial⟩ (mw_pre E hM hS) rfl hn hls hst (lv_room hW) hdg hf) hS kk
theorem mw_I (E : mw_E p m c cc nL s args D z own) (hC : mw_C l y cc' n' none fr lo mc ms D z M (.ref b :: As) post) (hy : mw_Y y cc' n' none k) (hv : Cond.instanceMethod y ∈ lw_gt ∧ y.name = "<init>") (hl : Cond.methodLink own index y ∈ lw_gt) (hM : mw_at D mg_cl z M H) (hS : va_S (mw_A z) s.heap H locs) (hn : As.length = k) (hls : ls.size = nL) (hst : st0 = As.reverse ++ .ref b :: rest) (hW : (rest.map fun v => v.category).sum ≤ 8) (hdg : decode cc pc = .ok (.invokespecial index, 3)) (hf : cells + mc ≤ R.cells ∧ slots + ms ≤ R.slots) (hR : fr + 1 ≤ R.frames ∧ 8 + (n' + 11) + lo ≤ R.locals)
    (kk : ∀ (v : Option Value) (M' : mw_M) (H1 : Heap) (locs1 : List Loc), post v M' → mw_at D mg_cl z M' H1 → va_S (mw_A z) s.heap H1 locs1 → W p l e R s m args below meth c H1 locs1 (cells + mc) (slots + ms) Q (F0 m (pc + 3) ls (v.toList ++ rest))) : W p l e R s m args below meth c H locs cells slots Q (F0 m pc ls st0) :=
  mw_call (va_runI (As := As) (rest := rest) ⟨E.x, E.b, E.ml, E.o, E.t⟩ hC (cwI k E.t (mw_good hy.1) rfl rfl rfl (E.t _ hy.2.1) (E.t _ hl) (E.t _ hv.1) hv.2 hy.2.2 hR) (mw_pre E hM hS) rfl hn hls hst (lv_room hW) hdg hf) hS kk
theorem mw_IN (E : mw_E p m c cc nL s args D z own) (hC : mw_C l y cc' n' none fr lo mc ms D z M (.ref b :: As) post) (hy : mw_Y y cc' n' none k) (hv : Cond.instanceMethod y ∈ lw_gt ∧ y.name = "<init>") {host : String} (hl : (own, index, y, host) ∈ lw_mN) (hM : mw_at D mg_cl z M H) (hS : va_S (mw_A z) s.heap H locs) (hn : As.length = k) (hls : ls.size = nL) (hst : st0 = As.reverse ++ .ref b :: rest) (hW : (rest.map fun v => v.category).sum ≤ 8) (hdg : decode cc pc = .ok (.invokespecial index, 3)) (hf : cells + mc ≤ R.cells ∧ slots + ms ≤ R.slots) (hR : fr + 1 ≤ R.frames ∧ 8 + (n' + 11) + lo ≤ R.locals)
    (kk : ∀ (v : Option Value) (M' : mw_M) (H1 : Heap) (locs1 : List Loc), post v M' → mw_at D mg_cl z M' H1 → va_S (mw_A z) s.heap H1 locs1 → W p l e R s m args below meth c H1 locs1 (cells + mc) (slots + ms) Q (F0 m (pc + 3) ls (v.toList ++ rest))) : W p l e R s m args below meth c H locs cells slots Q (F0 m pc ls st0) :=
  mw_call (va_runIN (As := As) (rest := rest) ⟨E.x, E.b, E.ml, E.o, E.t⟩ hC ⟨va_cnB k E.t (mw_good hy.1) rfl rfl rfl (E.N.2.1 _ hl) (E.t _ hy.2.1) hy.2.2 hR, hv.2, E.t _ hv.1⟩ (mw_pre E hM hS) rfl hn hls hst (lv_room hW) hdg hf) hS kk
/-- the ends -/
theorem mr_i {v : Int32} (E : mw_E p m c cc nL s args D z own) (hr : meth.sig.returnType = some .int) (hk : meth.locks = false) (hM : mw_at D mg_cl z M H) (hS : va_S (mw_A z) s.heap H locs) (h1 : cells ≤ mc) (h2 : slots ≤ ms) (hp : post (some (.int v)) M) (hdg : decode cc pc = .ok (.ireturn, 1)) : W p l e R s m args below meth c H locs cells slots (MQ below (mw_Q D z post) args s mc ms (mw_A z)) (F0 m pc ls [.int v]) :=
  W.widen h1 h2 (W.iret E.x E.b hr (fun _ ht hW => ⟨⟨_, M, rfl, hp, mw_B.of hM E.K E.Z E.N hS ht hW⟩, hS.F ht⟩) hS.2.2 hdg hk)
theorem mr_z {v : Int32} (E : mw_E p m c cc nL s args D z own) (hr : meth.sig.returnType = some .boolean) (hk : meth.locks = false) (hM : mw_at D mg_cl z M H) (hS : va_S (mw_A z) s.heap H locs) (h1 : cells ≤ mc) (h2 : slots ≤ ms) (hn : narrow .boolean (.int v) = .int v) (hp : post (some (.int v)) M) (hdg : decode cc pc = .ok (.ireturn, 1)) : W p l e R s m args below meth c H locs cells slots (MQ below (mw_Q D z post) args s mc ms (mw_A z)) (F0 m pc ls [.int v]) :=
  W.widen h1 h2 (W.zret E.x E.b hr hn (fun _ ht hW => ⟨⟨_, M, rfl, hp, mw_B.of hM E.K E.Z E.N hS ht hW⟩, hS.F ht⟩) hS.2.2 hdg hk)
theorem mr_l {v : Int64} (E : mw_E p m c cc nL s args D z own) (hr : meth.sig.returnType = some .long) (hk : meth.locks = false) (hM : mw_at D mg_cl z M H) (hS : va_S (mw_A z) s.heap H locs) (h1 : cells ≤ mc) (h2 : slots ≤ ms) (hp : post (some (.long v)) M) (hdg : decode cc pc = .ok (.lreturn, 1)) : W p l e R s m args below meth c H locs cells slots (MQ below (mw_Q D z post) args s mc ms (mw_A z)) (F0 m pc ls [.long v]) :=
  W.widen h1 h2 (W.lret E.x E.b hr (fun _ ht hW => ⟨⟨_, M, rfl, hp, mw_B.of hM E.K E.Z E.N hS ht hW⟩, hS.F ht⟩) hS.2.2 hdg hk)
theorem mr_v (E : mw_E p m c cc nL s args D z own) (hr : meth.sig.returnType = none) (hk : meth.locks = false) (hM : mw_at D mg_cl z M H) (hS : va_S (mw_A z) s.heap H locs) (h1 : cells ≤ mc) (h2 : slots ≤ ms) (hp : post none M) (hdg : decode cc pc = .ok (.return_, 1)) : W p l e R s m args below meth c H locs cells slots (MQ below (mw_Q D z post) args s mc ms (mw_A z)) (F0 m pc ls []) :=
  W.widen h1 h2 (W.vret E.x E.b hr (fun _ ht hW => ⟨⟨_, M, rfl, hp, mw_B.of hM E.K E.Z E.N hS ht hW⟩, hS.F ht⟩) hS.2.2 hdg hk)
theorem mr_a {v : Value} {rt : FieldType} (E : mw_E p m c cc nL s args D z own) (hr : meth.sig.returnType = some rt) (hk : meth.locks = false) (hrt : (∃ n, rt = .object n) ∨ ∃ t, rt = .array t) (hv : v = .null ∨ ∃ a, v = .ref a) (hM : mw_at D mg_cl z M H) (hS : va_S (mw_A z) s.heap H locs) (h1 : cells ≤ mc) (h2 : slots ≤ ms) (hp : post (some v) M) (hdg : decode cc pc = .ok (.areturn, 1)) : W p l e R s m args below meth c H locs cells slots (MQ below (mw_Q D z post) args s mc ms (mw_A z)) (F0 m pc ls [v]) :=
  W.widen h1 h2 (W.aret E.x E.b hr hrt hv (fun _ ht hW => ⟨⟨_, M, rfl, hp, mw_B.of hM E.K E.Z E.N hS ht hW⟩, hS.F ht⟩) hS.2.2 hdg hk)
end MWC
