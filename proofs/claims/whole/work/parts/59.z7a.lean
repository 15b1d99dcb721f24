/-! the IDs that were read, in the class -/
theorem mw_neQ {M : mw_M} {a b n1 n2 : Nat} {c1 c2 : ClassId} {x : (Nat → Int64) ⊕ (Nat → UInt32) ⊕ (Nat → UInt64) ⊕ (Nat → Option Nat)} {f : Nat → Int32} (h1 : M a = some (.inl (c1, n1, .inr x))) (h2 : M b = some (.inl (c2, n2, .inl f))) : a ≠ b := fun q => by
  rw [q, h2] at h1
  have h3 := Sum.inl.inj (Option.some.inj h1)
  have h4 := congrArg (fun p => p.2.2) h3
  cases h4
section ALD2
variable {p : Program} {l : Launch} {e : Env} {R : Room} {s : State} {m : MethodId} {args : Array Value} {below : List Frame} {meth : Method} {c : Code} {H : Heap} {locs : List Loc} {cells slots : Nat} {Q : State → Prop}
variable {cc : ByteArray} {pc : Nat} {ls : Array Slot} {rest : List Value} {D : va_G} {z : Nat} {M : mw_M} {a : Nat} {cl : List vw_C} {tys : List (ClassId × FieldType)}
theorem mw_ald2 (hexec : p.tables.exec = Jvm.exec) (hb : c.code = cc) (hK : va_K D cl tys s) (hM : mw_at D cl z M H) (t0 : Nat) {cA : ClassId} {n : Nat} {f : Nat → Option Nat} (ha : M a = some (.inl (cA, n, .inr (.inr (.inr (.inr f)))))) (ht : tys[t0]? = some (cA, .array .int)) {i : Int32} (hin : vp_in i n) (hdg : decode cc pc = .ok (.aaload, 1))
    (kk : W p l e R s m args below meth c H locs cells slots Q (F0 m (pc + 1) ls (va_rf (f i.toNatClampNeg) :: rest))) : W p l e R s m args below meth c H locs cells slots Q (F0 m pc ls (.int i :: .ref a :: rest)) := by
  obtain ⟨-, ws, hP, -, hE⟩ := hM
  obtain ⟨q0, he⟩ := List.getElem?_of_mem ((hE a _).1 ha)
  have hlt : i.toNatClampNeg < n := Nat.not_le.mp fun q => hin (Or.inr q)
  exact W.aald (v := va_rf (f i.toNatClampNeg)) (ty := .array .int) hexec hb (hP q0 _ he) ((hK.2 t0 _ ht).1 n (fun j => va_rf (f j))) rfl (fun q => by cases q) (by show ¬ (i < 0 ∨ (arrV _ _ _).slots.size ≤ _); rw [arrV_size]; exact hin) (by show (arrV _ _ _).slots[_]? = _; rw [arrV_read _ _ hlt]) rfl rfl hdg kk
end ALD2
def id_ok (ic : Nat) (Ln Dn : Nat → Nat) (G : Nat → Nat → Nat) : Prop := ic ≤ 12 ∧ ∀ j : Nat, j < ic → 9 < Dn j ∧ Dn j ≤ Ln j ∧ Ln j ≤ 40 ∧ (∀ i : Nat, i < Ln j → G j i < 256) ∧ ∀ i : Nat, i < 9 → G j i = ie_ch i
def id_at (D : va_G) (M : mw_M) (d t le de ic : Nat) (Ln Dn : Nat → Nat) (G : Nat → Nat → Nat) : Prop := ∃ (o : Nat → Option Nat) (fl fd : Nat → Int32) (T : Nat → Nat → Int32), M d = some (.inr (2, [.ref t, .ref le, .ref de, .int (nI ic)])) ∧ M t = some (.inl (D.1 104, 12, .inr (.inr (.inr (.inr o))))) ∧ (∀ j : Nat, j < 12 → o j = some (t + 1 + j)) ∧ M le = some (.inl (D.1 100, 12, .inl fl)) ∧ M de = some (.inl (D.1 100, 12, .inl fd)) ∧ (∀ j : Nat, j < 12 → M (t + 1 + j) = some (.inl (D.1 100, 40, .inl (T j)))) ∧ (∀ j : Nat, j < ic → fl j = nI (Ln j) ∧ fd j = nI (Dn j) ∧ ∀ i : Nat, i < Ln j → T j i = nI (G j i)) ∧ le ≠ de ∧ (∀ j : Nat, j < 12 → t + 1 + j ≠ le ∧ t + 1 + j ≠ de)
def id_same (k : Nat) (g : Nat → Nat) (Ln : Nat → Nat) (G : Nat → Nat → Nat) (j : Nat) : Prop := Ln j = k ∧ ∀ q : Nat, q < k → G j q = g q
def id_ours (Dn : Nat → Nat) (G : Nat → Nat → Nat) (j : Nat) : Prop := Dn j = Dn 0 ∧ ∀ q : Nat, q < Dn j → G j q = G 0 q
def id_tx (Ln : Nat → Nat) (G : Nat → Nat → Nat) (j : Nat) : List Nat := (List.range (Ln j)).map (G j)
theorem cc_Id_isText (l : Launch) (D : va_G) (z : Nat) (M : mw_M) (d t le de ic : Nat) (Ln Dn : Nat → Nat) (G : Nat → Nat → Nat) (b r : Nat) (f : Nat → Int32) (k : Nat) (g : Nat → Nat) (i : Nat) (hI : id_at D M d t le de ic Ln Dn G) (hO : id_ok ic Ln Dn G) (wb : M b = some (.inr (1, [.ref r, .int (nI k)]))) (wr : M r = some (.inl (D.1 100, 100, .inl f))) (hk0 : k ≤ 100) (hg : ∀ j : Nat, j < k → f j = nI (g j) ∧ g j < 256) (hi : i < ic) : mw_C l yy_Id_isText bb_Id_isText 4 (Option.some Jvm.ClassFile.FieldType.boolean) 1 21 0 0 D z M [.ref d, .int (nI i), .ref b] (fun v M' => ∃ bb : Bool, v = some (.int (zI bb)) ∧ (bb = true ↔ id_same k g Ln G i) ∧ M' = M) := by
  refine mw_of (by decide) (Nat.le_of_ble_eq_true rfl) ?_
  intro p e s m below meth c ls E hr hk hnm hM hl
  have hx := E.x
  have hb := E.b
  have E : mw_E p m c bb_Id_isText 4 s _ D z "IdentityIssuer$Ids" := E
  have hl : lv_has ls 4 [(0, .ref d), (1, .int (nI i)), (2, .ref b)] := hl
  have hS : va_S (mw_A z) s.heap s.heap [] := va_S.rf
  obtain ⟨o, fl, fd, T, wd, wt, ho, wl, we, hrow, hjj, hld, hrd⟩ := hI
  obtain ⟨hic, hO⟩ := hO
  obtain ⟨o1, o2, o3, o4, o5⟩ := hO i hi
  obtain ⟨j1, j2, j3⟩ := hjj i hi
  refine lv_aload_n hx hb dd_Id_isText_0 rfl (lv_at hl 0 rfl) ?_
  refine gf_Id_16 E hM wd rfl dd_Id_isText_1 ?_
  refine lv_iload_n hx hb dd_Id_isText_4 rfl (lv_at hl 1 rfl) ?_
  refine mw_iald hx hb E.K hM 0 wl rfl (vp_in_nI (by omega) (by omega)) dd_Id_isText_5 ?_
  refine mw_topi (y := fl i) (by rw [nI_clamp (by omega)]) ?_
  refine mw_topi (y := nI (Ln i)) (j1) ?_
  refine lv_aload_n hx hb dd_Id_isText_6 rfl (lv_at hl 2 rfl) ?_
  refine mw_V (As := []) (rest := [.int (nI (Ln i))]) E (cc_By_length l D z (M) b r f k wb wr hk0) ky_By_length kv_By_length tw_Id_73 hM hS wb rfl rfl rfl hl.1 rfl (Nat.le_of_ble_eq_true rfl) dd_Id_isText_7 (by first | decide | exact ⟨by dsimp only; omega, by dsimp only; omega⟩) (by decide) (fun v M1 H locs hp hM hS => ?_)
  obtain ⟨rfl, hq⟩ := hp
  have hq := hq.symm
  subst hq
  refine W.eq (g2 := F0 m 10 ls [.int (nI k), .int (nI (Ln i))]) rfl ?_
  refine lv_icmp_eq (tgt := 15) hx hb dd_Id_isText_10 (by decide) (fun h10 => ?_) (fun h10 => ?_)
  ·
    rw [nI_eq (by omega) (by omega)] at h10
    refine lv_iconst (v := nI 0) hx hb dd_Id_isText_15 (by decide) ?_
    refine lv_istore_n (lv' := [(3, .int (nI 0)), (0, .ref d), (1, .int (nI i)), (2, .ref b)]) hx hb dd_Id_isText_16 rfl hl (by decide) rfl (fun ls hl => ?_)
    have loop17 : ∀ (d9 : Nat) (p0 : Nat) (H : Heap) (locs : List Loc) (ls : Array Slot), p0 + d9 = k → (∀ q : Nat, q < p0 → G i q = g q) → mw_at D mg_cl z M H → va_S (mw_A z) s.heap H locs → lv_has ls 4 [(3, .int (nI p0)), (0, .ref d), (1, .int (nI i)), (2, .ref b)] → W p l e ({ frames := 1, cells := 0, slots := 0, locals := 21 } : Room) s m ([.ref d, .int (nI i), .ref b] : List Value).toArray below meth c H locs (0) (0) (MQ below (mw_Q D z (fun v M' => ∃ bb : Bool, v = some (.int (zI bb)) ∧ (bb = true ↔ id_same k g Ln G i) ∧ M' = M)) ([.ref d, .int (nI i), .ref b] : List Value).toArray s 0 0 (mw_A z)) (F0 m 17 ls []) := by
      intro d9
      induction d9 with
      | zero =>
        intro p0 H locs ls hp hu hM hS hl
        refine lv_iload_n hx hb dd_Id_isText_17 rfl (lv_at hl 0 rfl) ?_
        refine lv_aload_n hx hb dd_Id_isText_18 rfl (lv_at hl 1 rfl) ?_
        refine gf_Id_16 E hM wd rfl dd_Id_isText_19 ?_
        refine lv_iload_n hx hb dd_Id_isText_22 rfl (lv_at hl 2 rfl) ?_
        refine mw_iald hx hb E.K hM 0 wl rfl (vp_in_nI (by omega) (by omega)) dd_Id_isText_23 ?_
        refine mw_topi (y := fl i) (by rw [nI_clamp (by omega)]) ?_
        refine mw_topi (y := nI (Ln i)) (j1) ?_
        refine lv_icmp_ge (tgt := 51) hx hb dd_Id_isText_24 (by decide) (fun h24 => ?_) (fun h24 => ?_)
        ·
          rw [nI_leI (by omega) (by omega)] at h24
          refine lv_iconst (v := nI 1) hx hb dd_Id_isText_51 (by decide) ?_
          refine mr_z E hr hk hM hS (by decide) (by decide) (rfl) ?_ dd_Id_isText_52
          exact ⟨true, rfl, ⟨fun _ => ⟨h10, fun q h => hu q (by omega)⟩, fun _ => rfl⟩, rfl⟩
        ·
          rw [nI_leI (by omega) (by omega)] at h24
          omega
      | succ d9 ih =>
        intro p0 H locs ls hp hu hM hS hl
        refine lv_iload_n hx hb dd_Id_isText_17 rfl (lv_at hl 0 rfl) ?_
        refine lv_aload_n hx hb dd_Id_isText_18 rfl (lv_at hl 1 rfl) ?_
        refine gf_Id_16 E hM wd rfl dd_Id_isText_19 ?_
        refine lv_iload_n hx hb dd_Id_isText_22 rfl (lv_at hl 2 rfl) ?_
        refine mw_iald hx hb E.K hM 0 wl rfl (vp_in_nI (by omega) (by omega)) dd_Id_isText_23 ?_
        refine mw_topi (y := fl i) (by rw [nI_clamp (by omega)]) ?_
        refine mw_topi (y := nI (Ln i)) (j1) ?_
        refine lv_icmp_ge (tgt := 51) hx hb dd_Id_isText_24 (by decide) (fun h24 => ?_) (fun h24 => ?_)
        ·
          rw [nI_leI (by omega) (by omega)] at h24
          omega
        ·
          rw [nI_leI (by omega) (by omega)] at h24
          refine lv_aload_n hx hb dd_Id_isText_27 rfl (lv_at hl 1 rfl) ?_
          refine gf_Id_13 E hM wd rfl dd_Id_isText_28 ?_
          refine lv_iload_n hx hb dd_Id_isText_31 rfl (lv_at hl 2 rfl) ?_
          refine mw_ald2 hx hb E.K hM 4 wt rfl (vp_in_nI (by omega) (by omega)) dd_Id_isText_32 ?_
          rw [nI_clamp (by omega)]
          rw [ho i (by omega)]
          refine W.eq (g2 := F0 m 33 ls [.ref (t + 1 + i)]) rfl ?_
          have hr9 := hrow i (by omega)
          refine lv_iload_n hx hb dd_Id_isText_33 rfl (lv_at hl 0 rfl) ?_
          refine mw_iald hx hb E.K hM 0 hr9 rfl (vp_in_nI (by omega) (by omega)) dd_Id_isText_34 ?_
          refine mw_topi (y := (T i) p0) (by rw [nI_clamp (by omega)]) ?_
          refine mw_topi (y := nI (G i p0)) (j3 p0 (by omega)) ?_
          have hb8 := o4 p0 (by omega)
          refine lv_aload_n hx hb dd_Id_isText_35 rfl (lv_at hl 3 rfl) ?_
          refine lv_iload_n hx hb dd_Id_isText_36 rfl (lv_at hl 0 rfl) ?_
          refine mw_V (As := [.int (nI p0)]) (rest := [.int (nI (G i p0))]) E (cc_By_at l D z (M) b r f k (nI (p0)) wb wr hk0) ky_By_at kv_By_at tw_Id_41 hM hS wb rfl rfl rfl hl.1 rfl (Nat.le_of_ble_eq_true rfl) dd_Id_isText_37 (by first | decide | exact ⟨by dsimp only; omega, by dsimp only; omega⟩) (by decide) (fun v M1 H locs hp hM hS => ?_)
          obtain ⟨rfl, hq⟩ := hp
          have hq := hq.symm
          subst hq
          refine W.eq (g2 := F0 m 40 ls [.int (by_at f k (nI (p0))), .int (nI (G i p0))]) rfl ?_
          refine mw_topi (y := nI (g (p0))) ((by_at_nI (by omega) (by omega)).trans (hg (p0) (by omega)).1) ?_
          have hb9 := (hg (p0) (by omega)).2
          refine lv_icmp_eq (tgt := 45) hx hb dd_Id_isText_40 (by decide) (fun h40 => ?_) (fun h40 => ?_)
          ·
            rw [nI_eq (by omega) (by omega)] at h40
            refine lv_iinc (k := 0) (v := nI (p0 + 1)) (lv' := [(3, .int (nI (p0 + 1))), (0, .ref d), (1, .int (nI i)), (2, .ref b)]) hx hb dd_Id_isText_45 hl rfl (nI_1 _) (by decide) rfl (fun ls hl => ?_)
            refine lv_goto (tgt := 17) hx hb dd_Id_isText_48 (by decide) ?_
            exact ih (p0 + 1) H locs ls (by omega) (fun q h => if e9 : q = p0 then (by rw [e9]; exact h40) else hu q (by omega)) hM hS (lv_sub hl [0, 1, 2, 3] rfl)
          ·
            rw [nI_eq (by omega) (by omega)] at h40
            refine lv_iconst (v := nI 0) hx hb dd_Id_isText_43 (by decide) ?_
            refine mr_z E hr hk hM hS (by decide) (by decide) (rfl) ?_ dd_Id_isText_44
            exact ⟨false, rfl, ⟨fun q => (by cases q), fun q => absurd (q.2 p0 (by omega)) h40⟩, rfl⟩
    exact loop17 k 0 H locs ls (by omega) (fun q h => absurd h (by omega)) hM hS (lv_sub hl [0, 1, 2, 3] rfl)
  ·
    rw [nI_eq (by omega) (by omega)] at h10
    refine lv_iconst (v := nI 0) hx hb dd_Id_isText_13 (by decide) ?_
    refine mr_z E hr hk hM hS (by decide) (by decide) (rfl) ?_ dd_Id_isText_14
    exact ⟨false, rfl, ⟨fun q => (by cases q), fun q => absurd q.1 h10⟩, rfl⟩
theorem cc_Id_find (l : Launch) (D : va_G) (z : Nat) (M : mw_M) (d t le de ic : Nat) (Ln Dn : Nat → Nat) (G : Nat → Nat → Nat) (b r : Nat) (f : Nat → Int32) (k : Nat) (g : Nat → Nat) (hI : id_at D M d t le de ic Ln Dn G) (hO : id_ok ic Ln Dn G) (wb : M b = some (.inr (1, [.ref r, .int (nI k)]))) (wr : M r = some (.inl (D.1 100, 100, .inl f))) (hk0 : k ≤ 100) (hg : ∀ j : Nat, j < k → f j = nI (g j) ∧ g j < 256) : mw_C l yy_Id_find bb_Id_find 3 (Option.some Jvm.ClassFile.FieldType.int) 2 44 0 0 D z M [.ref d, .ref b] (fun v M' => ((∃ i : Nat, i < ic ∧ id_same k g Ln G i ∧ (∀ j : Nat, j < i → ¬ id_same k g Ln G j) ∧ v = some (.int (nI i))) ∨ ((∀ j : Nat, j < ic → ¬ id_same k g Ln G j) ∧ v = some (.int (-1)))) ∧ M' = M) := by
  refine mw_of (by decide) (Nat.le_of_ble_eq_true rfl) ?_
  intro p e s m below meth c ls E hr hk hnm hM hl
  have hx := E.x
  have hb := E.b
  have E : mw_E p m c bb_Id_find 3 s _ D z "IdentityIssuer$Ids" := E
  have hl : lv_has ls 3 [(0, .ref d), (1, .ref b)] := hl
  have hS : va_S (mw_A z) s.heap s.heap [] := va_S.rf
  have hI0 := hI
  obtain ⟨o, fl, fd, T, wd, wt, ho, wl, we, hrow, hjj, hld, hrd⟩ := hI
  have hic := hO.1
  refine lv_iconst (v := nI 0) hx hb dd_Id_find_0 (by decide) ?_
  refine lv_istore_n (lv' := [(2, .int (nI 0)), (0, .ref d), (1, .ref b)]) hx hb dd_Id_find_1 rfl hl (by decide) rfl (fun ls hl => ?_)
  have loop2 : ∀ (d9 : Nat) (i : Nat) (H : Heap) (locs : List Loc) (ls : Array Slot), i + d9 = ic → (∀ j : Nat, j < i → ¬ id_same k g Ln G j) → mw_at D mg_cl z M H → va_S (mw_A z) s.heap H locs → lv_has ls 3 [(2, .int (nI i)), (0, .ref d), (1, .ref b)] → W p l e ({ frames := 2, cells := 0, slots := 0, locals := 44 } : Room) s m ([.ref d, .ref b] : List Value).toArray below meth c H locs (0) (0) (MQ below (mw_Q D z (fun v M' => ((∃ i : Nat, i < ic ∧ id_same k g Ln G i ∧ (∀ j : Nat, j < i → ¬ id_same k g Ln G j) ∧ v = some (.int (nI i))) ∨ ((∀ j : Nat, j < ic → ¬ id_same k g Ln G j) ∧ v = some (.int (-1)))) ∧ M' = M)) ([.ref d, .ref b] : List Value).toArray s 0 0 (mw_A z)) (F0 m 2 ls []) := by
    intro d9
    induction d9 with
    | zero =>
      intro i H locs ls hp hu hM hS hl
      refine lv_iload_n hx hb dd_Id_find_2 rfl (lv_at hl 0 rfl) ?_
      refine lv_aload_n hx hb dd_Id_find_3 rfl (lv_at hl 1 rfl) ?_
      refine gf_Id_65 E hM wd rfl dd_Id_find_4 ?_
      refine lv_icmp_ge (tgt := 27) hx hb dd_Id_find_7 (by decide) (fun h7 => ?_) (fun h7 => ?_)
      ·
        rw [nI_leI (by omega) (by omega)] at h7
        refine lv_iconst (v := -1) hx hb dd_Id_find_27 (by decide) ?_
        refine mr_i E hr hk hM hS (by decide) (by decide) ?_ dd_Id_find_28
        exact ⟨Or.inr ⟨fun j h => hu j (by omega), rfl⟩, rfl⟩
      ·
        rw [nI_leI (by omega) (by omega)] at h7
        omega
    | succ d9 ih =>
      intro i H locs ls hp hu hM hS hl
      refine lv_iload_n hx hb dd_Id_find_2 rfl (lv_at hl 0 rfl) ?_
      refine lv_aload_n hx hb dd_Id_find_3 rfl (lv_at hl 1 rfl) ?_
      refine gf_Id_65 E hM wd rfl dd_Id_find_4 ?_
      refine lv_icmp_ge (tgt := 27) hx hb dd_Id_find_7 (by decide) (fun h7 => ?_) (fun h7 => ?_)
      ·
        rw [nI_leI (by omega) (by omega)] at h7
        omega
      ·
        rw [nI_leI (by omega) (by omega)] at h7
        refine lv_aload_n hx hb dd_Id_find_10 rfl (lv_at hl 1 rfl) ?_
        refine lv_iload_n hx hb dd_Id_find_11 rfl (lv_at hl 0 rfl) ?_
        refine lv_aload_n hx hb dd_Id_find_12 rfl (lv_at hl 2 rfl) ?_
        refine mw_V (As := [.int (nI i), .ref b]) (rest := []) E (cc_Id_isText l D z (M) d t le de ic Ln Dn G b r f k g i hI0 hO wb wr hk0 hg (by omega)) ky_Id_isText kv_Id_isText tw_Id_69 hM hS wd rfl rfl rfl hl.1 rfl (Nat.le_of_ble_eq_true rfl) dd_Id_find_13 (by first | decide | exact ⟨by dsimp only; omega, by dsimp only; omega⟩) (by decide) (fun v M1 H locs hp hM hS => ?_)
        obtain ⟨bb, rfl, hbb, hq⟩ := hp
        have hq := hq.symm
        subst hq
        refine W.eq (g2 := F0 m 16 ls [.int (zI bb)]) rfl ?_
        refine lv_if_eq (tgt := 21) hx hb dd_Id_find_16 (by decide) (fun h16 => ?_) (fun h16 => ?_)
        ·
          refine lv_iinc (k := 0) (v := nI (i + 1)) (lv' := [(2, .int (nI (i + 1))), (0, .ref d), (1, .ref b)]) hx hb dd_Id_find_21 hl rfl (nI_1 _) (by decide) rfl (fun ls hl => ?_)
          refine lv_goto (tgt := 2) hx hb dd_Id_find_24 (by decide) ?_
          exact ih (i + 1) H locs ls (by omega) (fun j h => if e9 : j = i then (by rw [e9]; exact fun q => absurd (hbb.mpr q) (by rw [zI_0.mp h16]; decide)) else hu j (by omega)) hM hS (lv_sub hl [0, 1, 2] rfl)
        ·
          refine lv_iload_n hx hb dd_Id_find_19 rfl (lv_at hl 0 rfl) ?_
          refine mr_i E hr hk hM hS (by decide) (by decide) ?_ dd_Id_find_20
          exact ⟨Or.inl ⟨i, by omega, hbb.mp (Bool.of_not_eq_false (fun q => h16 (zI_0.mpr q))), hu, rfl⟩, rfl⟩
  exact loop2 ic 0 s.heap [] ls (by omega) (fun q h => absurd h (by omega)) hM hS (lv_sub hl [0, 1, 2] rfl)
theorem cc_Id_isOurs (l : Launch) (D : va_G) (z : Nat) (M : mw_M) (d t le de ic : Nat) (Ln Dn : Nat → Nat) (G : Nat → Nat → Nat) (i : Nat) (hI : id_at D M d t le de ic Ln Dn G) (hO : id_ok ic Ln Dn G) (hi : i < ic) : mw_C l yy_Id_isOurs bb_Id_isOurs 3 (Option.some Jvm.ClassFile.FieldType.boolean) 2 40 0 0 D z M [.ref d, .int (nI i)] (fun v M' => ∃ bb : Bool, v = some (.int (zI bb)) ∧ (bb = true ↔ id_ours Dn G i) ∧ M' = M) := by
  refine mw_of (by decide) (Nat.le_of_ble_eq_true rfl) ?_
  intro p e s m below meth c ls E hr hk hnm hM hl
  have hx := E.x
  have hb := E.b
  have E : mw_E p m c bb_Id_isOurs 3 s _ D z "IdentityIssuer$Ids" := E
  have hl : lv_has ls 3 [(0, .ref d), (1, .int (nI i))] := hl
  have hS : va_S (mw_A z) s.heap s.heap [] := va_S.rf
  obtain ⟨o, fl, fd, T, wd, wt, ho, wl, we, hrow, hjj, hld, hrd⟩ := hI
  obtain ⟨hic, hO⟩ := hO
  obtain ⟨o1, o2, o3, o4, o5⟩ := hO i hi
  obtain ⟨j1, j2, j3⟩ := hjj i hi
  obtain ⟨z1, z2, z3, z4, z5⟩ := hO 0 (by omega)
  obtain ⟨y1, y2, y3⟩ := hjj 0 (by omega)
  refine lv_aload_n hx hb dd_Id_isOurs_0 rfl (lv_at hl 0 rfl) ?_
  refine gf_Id_20 E hM wd rfl dd_Id_isOurs_1 ?_
  refine lv_iload_n hx hb dd_Id_isOurs_4 rfl (lv_at hl 1 rfl) ?_
  refine mw_iald hx hb E.K hM 0 we rfl (vp_in_nI (by omega) (by omega)) dd_Id_isOurs_5 ?_
  refine mw_topi (y := fd i) (by rw [nI_clamp (by omega)]) ?_
  refine mw_topi (y := nI (Dn i)) (j2) ?_
  refine lv_aload_n hx hb dd_Id_isOurs_6 rfl (lv_at hl 0 rfl) ?_
  refine gf_Id_20 E hM wd rfl dd_Id_isOurs_7 ?_
  refine lv_iconst (v := nI 0) hx hb dd_Id_isOurs_10 (by decide) ?_
  refine mw_iald hx hb E.K hM 0 we rfl (vp_in_nI (by omega) (by omega)) dd_Id_isOurs_11 ?_
  refine mw_topi (y := fd 0) (by rw [nI_clamp (by omega)]) ?_
  refine mw_topi (y := nI (Dn 0)) (y2) ?_
  refine lv_icmp_eq (tgt := 17) hx hb dd_Id_isOurs_12 (by decide) (fun h12 => ?_) (fun h12 => ?_)
  ·
    rw [nI_eq (by omega) (by omega)] at h12
    refine va_ldcS hx hb E.o E.N.2.2.2.2.2.1 dd_Id_isOurs_17 ?_
    refine mw_V0 (As := []) (rest := []) E (cc_St_length l D z (M)) ky_St_length kv_St_length tw_Id_29 hM hS (vk_recv (N := 1) (i := 0) (adK := fun _ => D.2 200 4) E.Z.2.2.2.2.2.2 (by decide) hS) rfl hl.1 rfl (Nat.le_of_ble_eq_true rfl) dd_Id_isOurs_19 (by first | decide | exact ⟨by dsimp only; omega, by dsimp only; omega⟩) (by decide) (fun v M1 H locs hp hM hS => ?_)
    obtain ⟨rfl, hq⟩ := hp
    have hq := hq.symm
    subst hq
    refine W.eq (g2 := F0 m 22 ls [.int (nI 9)]) rfl ?_
    refine lv_istore_n (lv' := [(2, .int (nI 9)), (0, .ref d), (1, .int (nI i))]) hx hb dd_Id_isOurs_22 rfl hl (by decide) rfl (fun ls hl => ?_)
    have loop23 : ∀ (d9 : Nat) (p0 : Nat) (H : Heap) (locs : List Loc) (ls : Array Slot), p0 + d9 = Dn i → 9 ≤ p0 → (∀ q : Nat, q < p0 → G i q = G 0 q) → mw_at D mg_cl z M H → va_S (mw_A z) s.heap H locs → lv_has ls 3 [(2, .int (nI p0)), (0, .ref d), (1, .int (nI i))] → W p l e ({ frames := 2, cells := 0, slots := 0, locals := 40 } : Room) s m ([.ref d, .int (nI i)] : List Value).toArray below meth c H locs (0) (0) (MQ below (mw_Q D z (fun v M' => ∃ bb : Bool, v = some (.int (zI bb)) ∧ (bb = true ↔ id_ours Dn G i) ∧ M' = M)) ([.ref d, .int (nI i)] : List Value).toArray s 0 0 (mw_A z)) (F0 m 23 ls []) := by
      intro d9
      induction d9 with
      | zero =>
        intro p0 H locs ls hp h9p hu hM hS hl
        refine lv_iload_n hx hb dd_Id_isOurs_23 rfl (lv_at hl 0 rfl) ?_
        refine lv_aload_n hx hb dd_Id_isOurs_24 rfl (lv_at hl 1 rfl) ?_
        refine gf_Id_20 E hM wd rfl dd_Id_isOurs_25 ?_
        refine lv_iload_n hx hb dd_Id_isOurs_28 rfl (lv_at hl 2 rfl) ?_
        refine mw_iald hx hb E.K hM 0 we rfl (vp_in_nI (by omega) (by omega)) dd_Id_isOurs_29 ?_
        refine mw_topi (y := fd i) (by rw [nI_clamp (by omega)]) ?_
        refine mw_topi (y := nI (Dn i)) (j2) ?_
        refine lv_icmp_ge (tgt := 60) hx hb dd_Id_isOurs_30 (by decide) (fun h30 => ?_) (fun h30 => ?_)
        ·
          rw [nI_leI (by omega) (by omega)] at h30
          refine lv_iconst (v := nI 1) hx hb dd_Id_isOurs_60 (by decide) ?_
          refine mr_z E hr hk hM hS (by decide) (by decide) (rfl) ?_ dd_Id_isOurs_61
          exact ⟨true, rfl, ⟨fun _ => ⟨h12, fun q h => hu q (by omega)⟩, fun _ => rfl⟩, rfl⟩
        ·
          rw [nI_leI (by omega) (by omega)] at h30
          omega
      | succ d9 ih =>
        intro p0 H locs ls hp h9p hu hM hS hl
        refine lv_iload_n hx hb dd_Id_isOurs_23 rfl (lv_at hl 0 rfl) ?_
        refine lv_aload_n hx hb dd_Id_isOurs_24 rfl (lv_at hl 1 rfl) ?_
        refine gf_Id_20 E hM wd rfl dd_Id_isOurs_25 ?_
        refine lv_iload_n hx hb dd_Id_isOurs_28 rfl (lv_at hl 2 rfl) ?_
        refine mw_iald hx hb E.K hM 0 we rfl (vp_in_nI (by omega) (by omega)) dd_Id_isOurs_29 ?_
        refine mw_topi (y := fd i) (by rw [nI_clamp (by omega)]) ?_
        refine mw_topi (y := nI (Dn i)) (j2) ?_
        refine lv_icmp_ge (tgt := 60) hx hb dd_Id_isOurs_30 (by decide) (fun h30 => ?_) (fun h30 => ?_)
        ·
          rw [nI_leI (by omega) (by omega)] at h30
          omega
        ·
          rw [nI_leI (by omega) (by omega)] at h30
          refine lv_aload_n hx hb dd_Id_isOurs_33 rfl (lv_at hl 1 rfl) ?_
          refine gf_Id_13 E hM wd rfl dd_Id_isOurs_34 ?_
          refine lv_iload_n hx hb dd_Id_isOurs_37 rfl (lv_at hl 2 rfl) ?_
          refine mw_ald2 hx hb E.K hM 4 wt rfl (vp_in_nI (by omega) (by omega)) dd_Id_isOurs_38 ?_
          rw [nI_clamp (by omega)]
          rw [ho i (by omega)]
          refine W.eq (g2 := F0 m 39 ls [.ref (t + 1 + i)]) rfl ?_
          have hr9 := hrow i (by omega)
          refine lv_iload_n hx hb dd_Id_isOurs_39 rfl (lv_at hl 0 rfl) ?_
          refine mw_iald hx hb E.K hM 0 hr9 rfl (vp_in_nI (by omega) (by omega)) dd_Id_isOurs_40 ?_
          refine mw_topi (y := (T i) p0) (by rw [nI_clamp (by omega)]) ?_
          refine mw_topi (y := nI (G i p0)) (j3 p0 (by omega)) ?_
          have hb8 := o4 p0 (by omega)
          refine lv_aload_n hx hb dd_Id_isOurs_41 rfl (lv_at hl 1 rfl) ?_
          refine gf_Id_13 E hM wd rfl dd_Id_isOurs_42 ?_
          refine lv_iconst (v := nI 0) hx hb dd_Id_isOurs_45 (by decide) ?_
          refine mw_ald2 hx hb E.K hM 4 wt rfl (vp_in_nI (by omega) (by omega)) dd_Id_isOurs_46 ?_
          rw [nI_clamp (by omega)]
          rw [ho 0 (by omega)]
          refine W.eq (g2 := F0 m 47 ls [.ref (t + 1 + 0), .int (nI (G i p0))]) rfl ?_
          have hr8 := hrow 0 (by omega)
          refine lv_iload_n hx hb dd_Id_isOurs_47 rfl (lv_at hl 0 rfl) ?_
          refine mw_iald hx hb E.K hM 0 hr8 rfl (vp_in_nI (by omega) (by omega)) dd_Id_isOurs_48 ?_
          refine mw_topi (y := (T 0) p0) (by rw [nI_clamp (by omega)]) ?_
          refine mw_topi (y := nI (G 0 p0)) (y3 p0 (by omega)) ?_
          have hb7 := z4 p0 (by omega)
          refine lv_icmp_eq (tgt := 54) hx hb dd_Id_isOurs_49 (by decide) (fun h49 => ?_) (fun h49 => ?_)
          ·
            rw [nI_eq (by omega) (by omega)] at h49
            refine lv_iinc (k := 0) (v := nI (p0 + 1)) (lv' := [(2, .int (nI (p0 + 1))), (0, .ref d), (1, .int (nI i))]) hx hb dd_Id_isOurs_54 hl rfl (nI_1 _) (by decide) rfl (fun ls hl => ?_)
            refine lv_goto (tgt := 23) hx hb dd_Id_isOurs_57 (by decide) ?_
            exact ih (p0 + 1) H locs ls (by omega) (by omega) (fun q h => if e9 : q = p0 then (by rw [e9]; exact h49) else hu q (by omega)) hM hS (lv_sub hl [0, 1, 2] rfl)
          ·
            rw [nI_eq (by omega) (by omega)] at h49
            refine lv_iconst (v := nI 0) hx hb dd_Id_isOurs_52 (by decide) ?_
            refine mr_z E hr hk hM hS (by decide) (by decide) (rfl) ?_ dd_Id_isOurs_53
            exact ⟨false, rfl, ⟨fun q => (by cases q), fun q => absurd (q.2 p0 (by omega)) h49⟩, rfl⟩
    exact loop23 (Dn i - 9) 9 H locs ls (by omega) (by omega) (fun q h => by rw [o5 q h, z5 q h]) hM hS (lv_sub hl [0, 1, 2] rfl)
  ·
    rw [nI_eq (by omega) (by omega)] at h12
    refine lv_iconst (v := nI 0) hx hb dd_Id_isOurs_15 (by decide) ?_
    refine mr_z E hr hk hM hS (by decide) (by decide) (rfl) ?_ dd_Id_isOurs_16
    exact ⟨false, rfl, ⟨fun q => (by cases q), fun q => absurd q.1 h12⟩, rfl⟩
theorem cc_Id_mayBeHeld (l : Launch) (D : va_G) (z : Nat) (M : mw_M) (d t le de ic : Nat) (Ln Dn : Nat → Nat) (G : Nat → Nat → Nat) (i : Nat) (hI : id_at D M d t le de ic Ln Dn G) (hO : id_ok ic Ln Dn G) (hi : i < ic) : mw_C l yy_Id_mayBeHeld bb_Id_mayBeHeld 2 (Option.some Jvm.ClassFile.FieldType.boolean) 3 62 0 0 D z M [.ref d, .int (nI i)] (fun v M' => ∃ bb : Bool, v = some (.int (zI bb)) ∧ (bb = true ↔ 0 < i ∧ Dn i < Ln i ∧ id_ours Dn G i) ∧ M' = M) := by
  refine mw_of (by decide) (Nat.le_of_ble_eq_true rfl) ?_
  intro p e s m below meth c ls E hr hk hnm hM hl
  have hx := E.x
  have hb := E.b
  have E : mw_E p m c bb_Id_mayBeHeld 2 s _ D z "IdentityIssuer$Ids" := E
  have hl : lv_has ls 2 [(0, .ref d), (1, .int (nI i))] := hl
  have hS : va_S (mw_A z) s.heap s.heap [] := va_S.rf
  have hI0 := hI
  obtain ⟨o, fl, fd, T, wd, wt, ho, wl, we, hrow, hjj, hld, hrd⟩ := hI
  have hic := hO.1
  obtain ⟨o1, o2, o3, o4, o5⟩ := hO.2 i hi
  obtain ⟨j1, j2, j3⟩ := hjj i hi
  refine lv_iload_n hx hb dd_Id_mayBeHeld_0 rfl (lv_at hl 1 rfl) ?_
  refine lv_if_eq (tgt := 31) hx hb dd_Id_mayBeHeld_1 (by decide) (fun h1 => ?_) (fun h1 => ?_)
  ·
    refine lv_iconst (v := nI 0) hx hb dd_Id_mayBeHeld_31 (by decide) ?_
    refine mr_z E hr hk hM hS (by decide) (by decide) (rfl) ?_ dd_Id_mayBeHeld_32
    exact ⟨false, rfl, ⟨fun q => (by cases q), fun q => absurd h1 (nI_ne0 q.1 (by omega))⟩, rfl⟩
  ·
    refine lv_aload_n hx hb dd_Id_mayBeHeld_4 rfl (lv_at hl 0 rfl) ?_
    refine gf_Id_16 E hM wd rfl dd_Id_mayBeHeld_5 ?_
    refine lv_iload_n hx hb dd_Id_mayBeHeld_8 rfl (lv_at hl 1 rfl) ?_
    refine mw_iald hx hb E.K hM 0 wl rfl (vp_in_nI (by omega) (by omega)) dd_Id_mayBeHeld_9 ?_
    refine mw_topi (y := fl i) (by rw [nI_clamp (by omega)]) ?_
    refine mw_topi (y := nI (Ln i)) (j1) ?_
    refine lv_aload_n hx hb dd_Id_mayBeHeld_10 rfl (lv_at hl 0 rfl) ?_
    refine gf_Id_20 E hM wd rfl dd_Id_mayBeHeld_11 ?_
    refine lv_iload_n hx hb dd_Id_mayBeHeld_14 rfl (lv_at hl 1 rfl) ?_
    refine mw_iald hx hb E.K hM 0 we rfl (vp_in_nI (by omega) (by omega)) dd_Id_mayBeHeld_15 ?_
    refine mw_topi (y := fd i) (by rw [nI_clamp (by omega)]) ?_
    refine mw_topi (y := nI (Dn i)) (j2) ?_
    refine lv_icmp_le (tgt := 31) hx hb dd_Id_mayBeHeld_16 (by decide) (fun h16 => ?_) (fun h16 => ?_)
    ·
      rw [nI_leI (by omega) (by omega)] at h16
      refine lv_iconst (v := nI 0) hx hb dd_Id_mayBeHeld_31 (by decide) ?_
      refine mr_z E hr hk hM hS (by decide) (by decide) (rfl) ?_ dd_Id_mayBeHeld_32
      exact ⟨false, rfl, ⟨fun q => (by cases q), fun q => absurd q.2.1 (by omega)⟩, rfl⟩
    ·
      rw [nI_leI (by omega) (by omega)] at h16
      refine lv_aload_n hx hb dd_Id_mayBeHeld_19 rfl (lv_at hl 0 rfl) ?_
      refine lv_iload_n hx hb dd_Id_mayBeHeld_20 rfl (lv_at hl 1 rfl) ?_
      refine mw_V (As := [.int (nI i)]) (rest := []) E (cc_Id_isOurs l D z (M) d t le de ic Ln Dn G i hI0 hO hi) ky_Id_isOurs kv_Id_isOurs tw_Id_78 hM hS wd rfl rfl rfl hl.1 rfl (Nat.le_of_ble_eq_true rfl) dd_Id_mayBeHeld_21 (by first | decide | exact ⟨by dsimp only; omega, by dsimp only; omega⟩) (by decide) (fun v M1 H locs hp hM hS => ?_)
      obtain ⟨b8, rfl, hbb, hq⟩ := hp
      have hq := hq.symm
      subst hq
      refine W.eq (g2 := F0 m 24 ls [.int (zI b8)]) rfl ?_
      refine lv_if_eq (tgt := 31) hx hb dd_Id_mayBeHeld_24 (by decide) (fun h24 => ?_) (fun h24 => ?_)
      ·
        refine lv_iconst (v := nI 0) hx hb dd_Id_mayBeHeld_31 (by decide) ?_
        refine mr_z E hr hk hM hS (by decide) (by decide) (rfl) ?_ dd_Id_mayBeHeld_32
        exact ⟨false, rfl, ⟨fun q => (by cases q), fun q => absurd (hbb.mpr q.2.2) (by rw [zI_0.mp h24]; decide)⟩, rfl⟩
      ·
        refine lv_iconst (v := nI 1) hx hb dd_Id_mayBeHeld_27 (by decide) ?_
        refine lv_goto (tgt := 32) hx hb dd_Id_mayBeHeld_28 (by decide) ?_
        refine mr_z E hr hk hM hS (by decide) (by decide) (rfl) ?_ dd_Id_mayBeHeld_32
        exact ⟨true, rfl, ⟨fun _ => ⟨Nat.pos_of_ne_zero (fun q => h1 (by rw [q]; rfl)), by omega, hbb.mp (Bool.of_not_eq_false (fun q => h24 (zI_0.mpr q)))⟩, fun _ => rfl⟩, rfl⟩
theorem cc_Id_add (l : Launch) (D : va_G) (z : Nat) (M : mw_M) (d t le de ic : Nat) (Ln Dn : Nat → Nat) (G : Nat → Nat → Nat) (b r : Nat) (f : Nat → Int32) (k : Nat) (g : Nat → Nat) (hI : id_at D M d t le de ic Ln Dn G) (hO : id_ok ic Ln Dn G) (wb : M b = some (.inr (1, [.ref r, .int (nI k)]))) (wr : M r = some (.inl (D.1 100, 100, .inl f))) (hk0 : k ≤ 100) (hg : ∀ j : Nat, j < k → f j = nI (g j) ∧ g j < 256) (hc12 : ic < 12) (hk40 : k ≤ 40) (hk9 : 9 ≤ k) (hrb : ∀ j : Nat, j < 12 → t + 1 + j ≠ r) (hlr : le ≠ r) (hdr : de ≠ r) : mw_C l yy_Id_add bb_Id_add 4 (Option.some Jvm.ClassFile.FieldType.int) 2 45 0 0 D z M [.ref d, .ref b] (fun v M' => v = some (.int (nI ic)) ∧ id_at D M' d t le de (ic + 1) (fun j => if j = ic then k else Ln j) (fun j => if j = ic then ie_de g 9 k else Dn j) (fun j => if j = ic then g else G j) ∧ mw_fr (fun q => q = d ∨ q = le ∨ q = de ∨ q = t + 1 + ic) M M') := by
  refine mw_of (by decide) (Nat.le_of_ble_eq_true rfl) ?_
  intro p e s m below meth c ls E hr hk hnm hM hl
  have hx := E.x
  have hb := E.b
  have E : mw_E p m c bb_Id_add 4 s _ D z "IdentityIssuer$Ids" := E
  have hl : lv_has ls 4 [(0, .ref d), (1, .ref b)] := hl
  have hS : va_S (mw_A z) s.heap s.heap [] := va_S.rf
  have hF : mw_fr (fun q => q = d ∨ q = le ∨ q = de ∨ q = t + 1 + ic) M M := mw_fr.rf
  obtain ⟨o, fl, fd, T, wd, wt, ho, wl, we, hrow, hjj, hld, hrd⟩ := hI
  have wq := hrow ic hc12
  have hmin : min k 40 = k := by omega
  refine lv_aload_n hx hb dd_Id_add_0 rfl (lv_at hl 1 rfl) ?_
  refine mw_V (As := []) (rest := []) E (cc_By_length l D z (M) b r f k wb wr hk0) ky_By_length kv_By_length tw_Id_73 hM hS wb rfl rfl rfl hl.1 rfl (Nat.le_of_ble_eq_true rfl) dd_Id_add_1 (by first | decide | exact ⟨by dsimp only; omega, by dsimp only; omega⟩) (by decide) (fun v M1 H locs hp hM hS => ?_)
  obtain ⟨rfl, hq⟩ := hp
  have hq := hq.symm
  subst hq
  refine W.eq (g2 := F0 m 4 ls [.int (nI k)]) rfl ?_
  refine lv_bipush (v := nI 40) hx hb dd_Id_add_4 (by decide) ?_
  refine va_mmin hx hb (E.ml.trans hl.1.symm) E.o (E.t _ tw_Id_51) (E.t _ kv_Ma_min) (E.t _ tw_ini_Ma) (E.t _ ky_Ma_min.1) (Nat.le_of_ble_eq_true rfl) (Nat.le_of_ble_eq_true rfl) (by decide) (by decide) dd_Id_add_6 ?_
  refine mw_topi (y := nI k) ((id_min (by omega) (by omega)).trans (congrArg nI hmin)) ?_
  refine lv_istore_n (lv' := [(2, .int (nI k)), (0, .ref d), (1, .ref b)]) hx hb dd_Id_add_9 rfl hl (by decide) rfl (fun ls hl => ?_)
  refine lv_iconst (v := nI 0) hx hb dd_Id_add_10 (by decide) ?_
  refine lv_istore_n (lv' := [(3, .int (nI 0)), (2, .int (nI k)), (0, .ref d), (1, .ref b)]) hx hb dd_Id_add_11 rfl hl (by decide) rfl (fun ls hl => ?_)
  have loop12 : ∀ (d9 : Nat) (p0 : Nat) (T1 : Nat → Int32) (M1 : mw_M) (H : Heap) (locs : List Loc) (ls : Array Slot), p0 + d9 = k → (∀ q : Nat, q < p0 → T1 q = nI (g q)) → M1 (t + 1 + ic) = some (.inl (D.1 100, 40, .inl T1)) → M1 d = some (.inr (2, [.ref t, .ref le, .ref de, .int (nI ic)])) → M1 t = some (.inl (D.1 104, 12, .inr (.inr (.inr (.inr o))))) → M1 le = some (.inl (D.1 100, 12, .inl fl)) → M1 de = some (.inl (D.1 100, 12, .inl fd)) → M1 b = some (.inr (1, [.ref r, .int (nI k)])) → M1 r = some (.inl (D.1 100, 100, .inl f)) → mw_fr (fun q => q = d ∨ q = le ∨ q = de ∨ q = t + 1 + ic) M M1 → (∀ j : Nat, j < 12 → j ≠ ic → M1 (t + 1 + j) = some (.inl (D.1 100, 40, .inl (T j)))) → mw_at D mg_cl z M1 H → va_S (mw_A z) s.heap H locs → lv_has ls 4 [(3, .int (nI p0)), (2, .int (nI k)), (0, .ref d), (1, .ref b)] → W p l e ({ frames := 2, cells := 0, slots := 0, locals := 45 } : Room) s m ([.ref d, .ref b] : List Value).toArray below meth c H locs (0) (0) (MQ below (mw_Q D z (fun v M' => v = some (.int (nI ic)) ∧ id_at D M' d t le de (ic + 1) (fun j => if j = ic then k else Ln j) (fun j => if j = ic then ie_de g 9 k else Dn j) (fun j => if j = ic then g else G j) ∧ mw_fr (fun q => q = d ∨ q = le ∨ q = de ∨ q = t + 1 + ic) M M')) ([.ref d, .ref b] : List Value).toArray s 0 0 (mw_A z)) (F0 m 12 ls []) := by
    intro d9
    induction d9 with
    | zero =>
      intro p0 T1 M1 H locs ls hp hu wq wd wt wl we wb wr hF hrow hM hS hl
      refine lv_iload_n hx hb dd_Id_add_12 rfl (lv_at hl 0 rfl) ?_
      refine lv_iload_n hx hb dd_Id_add_13 rfl (lv_at hl 1 rfl) ?_
      refine lv_icmp_ge (tgt := 39) hx hb dd_Id_add_14 (by decide) (fun h14 => ?_) (fun h14 => ?_)
      ·
        rw [nI_leI (by omega) (by omega)] at h14
        refine lv_aload_n hx hb dd_Id_add_39 rfl (lv_at hl 2 rfl) ?_
        refine gf_Id_16 E hM wd rfl dd_Id_add_40 ?_
        refine lv_aload_n hx hb dd_Id_add_43 rfl (lv_at hl 2 rfl) ?_
        refine gf_Id_65 E hM wd rfl dd_Id_add_44 ?_
        refine lv_iload_n hx hb dd_Id_add_47 rfl (lv_at hl 1 rfl) ?_
        refine mw_iast hx hb E.K hM E.zz hS 0 wl rfl (vp_in_nI (by omega) (by omega)) dd_Id_add_48 (fun H locs hM hS => ?_)
        rw [nI_clamp (by omega)] at hM
        have hM : mw_at D mg_cl z (va_up M1 le (some (.inl (D.1 100, 12, .inl (upd fl ic (nI k)))))) H := hM
        obtain ⟨M1, hM1⟩ : ∃ M9 : mw_M, M9 = va_up M1 le (some (.inl (D.1 100, 12, .inl (upd fl ic (nI k))))) := ⟨_, rfl⟩
        rw [← hM1] at hM
        have wd := mw_uu hM1 wd (mw_ne wd wl (fun q => by cases q))
        have wt := mw_uu hM1 wt (mw_neQ wt wl)
        have we := mw_uu hM1 we (Ne.symm hld)
        have wb := mw_uu hM1 wb (mw_ne wb wl (fun q => by cases q))
        have wr := mw_uu hM1 wr (Ne.symm hlr)
        have wq := mw_uu hM1 wq (hrd ic hc12).1
        have wl := mw_us hM1
        have hF := mw_fu hM1 hF (Or.inr (Or.inl rfl))
        have hrow := fun (j : Nat) (h1 : j < 12) (h2 : j ≠ ic) => mw_uu hM1 (hrow j h1 h2) (hrd j h1).1
        refine lv_aload_n hx hb dd_Id_add_49 rfl (lv_at hl 2 rfl) ?_
        refine gf_Id_20 E hM wd rfl dd_Id_add_50 ?_
        refine lv_aload_n hx hb dd_Id_add_53 rfl (lv_at hl 2 rfl) ?_
        refine gf_Id_65 E hM wd rfl dd_Id_add_54 ?_
        refine lv_aload_n hx hb dd_Id_add_57 rfl (lv_at hl 3 rfl) ?_
        refine va_ldcS hx hb E.o E.N.2.2.2.2.2.1 dd_Id_add_58 ?_
        refine mw_V0 (As := []) (rest := [.ref b, .int (nI ic), .ref de]) E (cc_St_length l D z (M1)) ky_St_length kv_St_length tw_Id_29 hM hS (vk_recv (N := 1) (i := 0) (adK := fun _ => D.2 200 4) E.Z.2.2.2.2.2.2 (by decide) hS) rfl hl.1 rfl (Nat.le_of_ble_eq_true rfl) dd_Id_add_60 (by first | decide | exact ⟨by dsimp only; omega, by dsimp only; omega⟩) (by decide) (fun v M1 H locs hp hM hS => ?_)
        obtain ⟨rfl, hq⟩ := hp
        have hq := hq.symm
        subst hq
        refine W.eq (g2 := F0 m 63 ls [.int (nI 9), .ref b, .int (nI ic), .ref de]) rfl ?_
        refine lv_iload_n hx hb dd_Id_add_63 rfl (lv_at hl 1 rfl) ?_
        refine mw_S (As := [.ref b, .int (nI 9), .int (nI k)]) (rest := [.int (nI ic), .ref de]) E (cc_Id_domainEnd l D z (M1) b r f k g 9 k wb wr hk0 hg (Nat.le_refl _) hk9) ky_Id_domainEnd kv_Id_domainEnd tw_Id_35 hM hS rfl hl.1 rfl (Nat.le_of_ble_eq_true rfl) dd_Id_add_64 (by first | decide | exact ⟨by dsimp only; omega, by dsimp only; omega⟩) (by decide) (fun v M1 H locs hp hM hS => ?_)
        obtain ⟨rfl, hq⟩ := hp
        have hq := hq.symm
        subst hq
        refine W.eq (g2 := F0 m 67 ls [.int (nI (ie_de g 9 k)), .int (nI ic), .ref de]) rfl ?_
        refine mw_iast hx hb E.K hM E.zz hS 0 we rfl (vp_in_nI (by omega) (by omega)) dd_Id_add_67 (fun H locs hM hS => ?_)
        rw [nI_clamp (by omega)] at hM
        have hM : mw_at D mg_cl z (va_up M1 de (some (.inl (D.1 100, 12, .inl (upd fd ic (nI (ie_de g 9 k))))))) H := hM
        obtain ⟨M1, hM1⟩ : ∃ M9 : mw_M, M9 = va_up M1 de (some (.inl (D.1 100, 12, .inl (upd fd ic (nI (ie_de g 9 k)))))) := ⟨_, rfl⟩
        rw [← hM1] at hM
        have wd := mw_uu hM1 wd (mw_ne wd we (fun q => by cases q))
        have wt := mw_uu hM1 wt (mw_neQ wt we)
        have wl := mw_uu hM1 wl hld
        have wb := mw_uu hM1 wb (mw_ne wb we (fun q => by cases q))
        have wr := mw_uu hM1 wr (Ne.symm hdr)
        have wq := mw_uu hM1 wq (hrd ic hc12).2
        have we := mw_us hM1
        have hF := mw_fu hM1 hF (Or.inr (Or.inr (Or.inl rfl)))
        have hrow := fun (j : Nat) (h1 : j < 12) (h2 : j ≠ ic) => mw_uu hM1 (hrow j h1 h2) (hrd j h1).2
        refine lv_aload_n hx hb dd_Id_add_68 rfl (lv_at hl 2 rfl) ?_
        refine lv_dup hx hb dd_Id_add_69 rfl ?_
        refine gf_Id_65 E hM wd rfl dd_Id_add_70 ?_
        refine lv_iconst (v := nI 1) hx hb dd_Id_add_73 (by decide) ?_
        refine lv_iadd hx hb dd_Id_add_74 ?_
        refine mw_topi (y := nI (ic + 1)) (nI_add _ _) ?_
        have wd9 := wd
        refine pf_Id_65 E hM hS wd (Nat.le_of_ble_eq_true rfl) dd_Id_add_75 (fun H locs hM hS => ?_)
        have hM : mw_at D mg_cl z (va_up M1 d (some (.inr (2, [.ref t, .ref le, .ref de, .int (nI (ic + 1))])))) H := hM
        obtain ⟨M1, hM1⟩ : ∃ M9 : mw_M, M9 = va_up M1 d (some (.inr (2, [.ref t, .ref le, .ref de, .int (nI (ic + 1))]))) := ⟨_, rfl⟩
        rw [← hM1] at hM
        have wt := mw_uu hM1 wt (mw_ne wt wd (fun q => by cases q))
        have wl := mw_uu hM1 wl (mw_ne wl wd (fun q => by cases q))
        have we := mw_uu hM1 we (mw_ne we wd (fun q => by cases q))
        have wb := mw_uu hM1 wb (mw_ne wb wd (fun q => by cases q))
        have wr := mw_uu hM1 wr (mw_ne wr wd (fun q => by cases q))
        have wq := mw_uu hM1 wq (mw_ne wq wd (fun q => by cases q))
        have wd := mw_us hM1
        have hF := mw_fu hM1 hF (Or.inl rfl)
        have hrow := fun (j : Nat) (h1 : j < 12) (h2 : j ≠ ic) => mw_uu hM1 (hrow j h1 h2) (mw_ne (hrow j h1 h2) wd9 (fun q => by cases q))
        refine lv_aload_n hx hb dd_Id_add_78 rfl (lv_at hl 2 rfl) ?_
        refine gf_Id_65 E hM wd rfl dd_Id_add_79 ?_
        refine lv_iconst (v := nI 1) hx hb dd_Id_add_82 (by decide) ?_
        refine lv_isub hx hb dd_Id_add_83 ?_
        refine mw_topi (y := nI ((ic + 1) - 1)) (pk_sub (by omega)) ?_
        refine mr_i E hr hk hM hS (by decide) (by decide) ?_ dd_Id_add_84
        refine ⟨by rw [Nat.add_sub_cancel], ⟨o, _, _, fun j => if j = ic then T1 else T j, wd, wt, ho, wl, we, fun j hj => ?_, fun j hj => ?_, hld, hrd⟩, hF⟩
        · show M1 (t + 1 + j) = some (.inl (D.1 100, 40, .inl (if j = ic then T1 else T j)))
          by_cases e9 : j = ic
          · rw [if_pos e9, e9]
            exact wq
          · rw [if_neg e9]
            exact hrow j hj e9
        · show (if j = ic then nI k else fl j) = nI (if j = ic then k else Ln j) ∧ (if j = ic then nI (ie_de g 9 k) else fd j) = nI (if j = ic then ie_de g 9 k else Dn j) ∧ ∀ i : Nat, i < (if j = ic then k else Ln j) → (if j = ic then T1 else T j) i = nI ((if j = ic then g else G j) i)
          by_cases e9 : j = ic
          · rw [if_pos e9, if_pos e9, if_pos e9, if_pos e9, if_pos e9, if_pos e9]
            exact ⟨rfl, rfl, fun i hi => hu i (by omega)⟩
          · rw [if_neg e9, if_neg e9, if_neg e9, if_neg e9, if_neg e9, if_neg e9]
            exact hjj j (by omega)
      ·
        rw [nI_leI (by omega) (by omega)] at h14
        omega
    | succ d9 ih =>
      intro p0 T1 M1 H locs ls hp hu wq wd wt wl we wb wr hF hrow hM hS hl
      refine lv_iload_n hx hb dd_Id_add_12 rfl (lv_at hl 0 rfl) ?_
      refine lv_iload_n hx hb dd_Id_add_13 rfl (lv_at hl 1 rfl) ?_
      refine lv_icmp_ge (tgt := 39) hx hb dd_Id_add_14 (by decide) (fun h14 => ?_) (fun h14 => ?_)
      ·
        rw [nI_leI (by omega) (by omega)] at h14
        omega
      ·
        rw [nI_leI (by omega) (by omega)] at h14
        refine lv_aload_n hx hb dd_Id_add_17 rfl (lv_at hl 2 rfl) ?_
        refine gf_Id_13 E hM wd rfl dd_Id_add_18 ?_
        refine lv_aload_n hx hb dd_Id_add_21 rfl (lv_at hl 2 rfl) ?_
        refine gf_Id_65 E hM wd rfl dd_Id_add_22 ?_
        refine mw_ald2 hx hb E.K hM 4 wt rfl (vp_in_nI (by omega) (by omega)) dd_Id_add_25 ?_
        rw [nI_clamp (by omega)]
        rw [ho ic (by omega)]
        refine W.eq (g2 := F0 m 26 ls [.ref (t + 1 + ic)]) rfl ?_
        refine lv_iload_n hx hb dd_Id_add_26 rfl (lv_at hl 0 rfl) ?_
        refine lv_aload_n hx hb dd_Id_add_27 rfl (lv_at hl 3 rfl) ?_
        refine lv_iload_n hx hb dd_Id_add_28 rfl (lv_at hl 0 rfl) ?_
        refine mw_V (As := [.int (nI p0)]) (rest := [.int (nI p0), .ref (t + 1 + ic)]) E (cc_By_at l D z (M1) b r f k (nI (p0)) wb wr hk0) ky_By_at kv_By_at tw_Id_41 hM hS wb rfl rfl rfl hl.1 rfl (Nat.le_of_ble_eq_true rfl) dd_Id_add_29 (by first | decide | exact ⟨by dsimp only; omega, by dsimp only; omega⟩) (by decide) (fun v M1 H locs hp hM hS => ?_)
        obtain ⟨rfl, hq⟩ := hp
        have hq := hq.symm
        subst hq
        refine W.eq (g2 := F0 m 32 ls [.int (by_at f k (nI (p0))), .int (nI p0), .ref (t + 1 + ic)]) rfl ?_
        refine mw_topi (y := nI (g (p0))) ((by_at_nI (by omega) (by omega)).trans (hg (p0) (by omega)).1) ?_
        have hb9 := (hg (p0) (by omega)).2
        refine mw_iast hx hb E.K hM E.zz hS 0 wq rfl (vp_in_nI (by omega) (by omega)) dd_Id_add_32 (fun H locs hM hS => ?_)
        rw [nI_clamp (by omega)] at hM
        have hM : mw_at D mg_cl z (va_up M1 (t + 1 + ic) (some (.inl (D.1 100, 40, .inl (upd T1 p0 (nI (g (p0)))))))) H := hM
        obtain ⟨M1, hM1⟩ : ∃ M9 : mw_M, M9 = va_up M1 (t + 1 + ic) (some (.inl (D.1 100, 40, .inl (upd T1 p0 (nI (g (p0))))))) := ⟨_, rfl⟩
        rw [← hM1] at hM
        have wd := mw_uu hM1 wd (mw_ne wd wq (fun q => by cases q))
        have wt := mw_uu hM1 wt (mw_neQ wt wq)
        have wl := mw_uu hM1 wl (Ne.symm (hrd ic hc12).1)
        have we := mw_uu hM1 we (Ne.symm (hrd ic hc12).2)
        have wb := mw_uu hM1 wb (mw_ne wb wq (fun q => by cases q))
        have wr := mw_uu hM1 wr (Ne.symm (hrb ic hc12))
        have wq := mw_us hM1
        have hF := mw_fu hM1 hF (Or.inr (Or.inr (Or.inr rfl)))
        refine lv_iinc (k := 0) (v := nI (p0 + 1)) (lv' := [(3, .int (nI (p0 + 1))), (2, .int (nI k)), (0, .ref d), (1, .ref b)]) hx hb dd_Id_add_33 hl rfl (nI_1 _) (by decide) rfl (fun ls hl => ?_)
        refine lv_goto (tgt := 12) hx hb dd_Id_add_36 (by decide) ?_
        have hrow := fun (j : Nat) (h1 : j < 12) (h2 : j ≠ ic) => mw_uu hM1 (hrow j h1 h2) (fun q => h2 (by omega))
        exact ih (p0 + 1) _ M1 H locs ls (by omega) (fun q h => by
          unfold upd
          by_cases e9 : q = p0
          · rw [if_pos e9, e9]
          · rw [if_neg e9]
            exact hu q (by omega)) wq wd wt wl we wb wr hF hrow hM hS (lv_sub hl [0, 1, 2, 3] rfl)
  exact loop12 k 0 (T ic) M H locs ls (by omega) (fun q h => absurd h (by omega)) wq wd wt wl we wb wr hF (fun j h1 _ => hrow j h1) hM hS (lv_sub hl [0, 1, 2, 3] rfl)
