/-! fresh objects, as their constructors leave them -/
def lf_X (D : va_G) (M : mw_M) (x : Nat) (life : Int32) (L0 L : List Nat) : Prop := ∃ r115 q115 l104 q104 q93 r82 y82 q82 r71 y71 q71 l60 q60 q49 q38 l27 q27 de le t q16 r5 q5, M x = some (.inr (0, [.ref q5, .ref q16, .ref q115, .ref q27, .ref q38, .ref q49, .ref q60, .ref q71, .ref q82, .int (0), .int (0), .int (0), .ref q93, .ref q104])) ∧ M r115 = some (.inl (D.1 100, 4, .inl (fun _ => 0))) ∧ M q115 = some (.inr (8, [.int (if (nI 32) < (if life < (nI 256) then life else (nI 256)) then (if life < (nI 256) then life else (nI 256)) else (nI 32)), .ref r115, .int (nI 1), .int (0), .int (-1)])) ∧ M l104 = some (.inr (4, [.ref ((D.2 200 0)), .int (nI 0), .int (nI 0)])) ∧ M q104 = some (.inr (5, [.ref l104, .int (0), .int (0), .int (0)])) ∧ M q93 = some (.inr (4, [.ref ((D.2 200 0)), .int (nI 0), .int (nI 0)])) ∧ M r82 = some (.inl (D.1 100, 100, .inl (fun _ => 0))) ∧ M y82 = some (.inr (1, [.ref r82, .int (nI 0)])) ∧ M q82 = some (.inr (7, [.ref y82, .int (0)])) ∧ M r71 = some (.inl (D.1 100, 100, .inl (fun _ => 0))) ∧ M y71 = some (.inr (1, [.ref r71, .int (nI 0)])) ∧ M q71 = some (.inr (6, [.ref y71, .int (0), .int (0), .int (0), .int (0), .int (0), .int (0), .int (0), .int (0)])) ∧ M l60 = some (.inr (4, [.ref ((D.2 200 0)), .int (nI 0), .int (nI 0)])) ∧ M q60 = some (.inr (5, [.ref l60, .int (0), .int (0), .int (0)])) ∧ M q49 = some (.inr (4, [.ref ((D.2 200 0)), .int (nI 0), .int (nI 0)])) ∧ M q38 = some (.inr (4, [.ref ((D.2 200 0)), .int (nI 0), .int (nI 0)])) ∧ M l27 = some (.inr (4, [.ref ((D.2 200 0)), .int (nI 0), .int (nI 0)])) ∧ M q27 = some (.inr (3, [.ref l27, .int (0)])) ∧ M de = some (.inl (D.1 100, 12, .inl (fun _ => 0))) ∧ M le = some (.inl (D.1 100, 12, .inl (fun _ => 0))) ∧ M t = some (.inl (D.1 104, 12, .inr (.inr (.inr (.inr (fun j => if j < 12 then some (t + 1 + j) else none)))))) ∧ M q16 = some (.inr (2, [.ref t, .ref le, .ref de, .int (0)])) ∧ M r5 = some (.inl (D.1 100, 100, .inl (fun _ => 0))) ∧ M q5 = some (.inr (1, [.ref r5, .int (nI 0)])) ∧ (∀ j : Nat, j < 12 → M (t + 1 + j) = some (.inl (D.1 100, 40, .inl (fun _ => 0)))) ∧ L = r115 :: (q115 :: (l104 :: (q104 :: (q93 :: (r82 :: (y82 :: (q82 :: (r71 :: (y71 :: (q71 :: (l60 :: (q60 :: (q49 :: (q38 :: (l27 :: (q27 :: (de :: (le :: (t :: ((List.range 12).map (fun j => t + 1 + j) ++ (q16 :: (r5 :: (q5 :: (x :: (L0)))))))))))))))))))))))))
def lf_M (D : va_G) (M : mw_M) (mm : Nat) (x : Int32) (L0 L : List Nat) : Prop := ∃ q250 q242 q234 q227 q219 q212 q204 q197 q189 q182 q175 q168 q161 q154 q146 q137 q128 q119 q110 q103 q96 q88 q80 q72 q64 q56 q48 q41 q32 q24 q16 q7, M mm = some (.inr (13, [.int (mo_life x), .int 0, .ref q7, .int 0, .int 0, .ref q16, .ref q24, .ref q32, .int 0, .int (nI 1), .ref q41, .int 0, .int (-1), .ref q48, .int 0, .int 0, .ref q56, .ref q64, .ref q72, .ref q80, .ref q88, .ref q96, .int 0, .int 0, .ref q103, .ref q110, .ref q119, .ref q128, .ref q137, .ref q146, .ref q154, .ref q161, .ref q168, .int 0, .ref q175, .ref q182, .ref q189, .ref q197, .ref q204, .ref q212, .ref q219, .int 0, .ref q227, .int 0, .ref q234, .int 0, .int 0, .ref q242, .int 0, .ref q250, .int 0, .int 0])) ∧ mo_w [(q250, (D.1 100, 100, .inl (fun _ => 0))), (q242, (D.1 100, 12, .inl (fun _ => 0))), (q234, (D.1 100, 4, .inl (fun _ => 0))), (q227, (D.1 100, 60, .inl (fun _ => 0))), (q219, (D.1 100, 4, .inl (fun _ => 0))), (q212, (D.1 100, 16, .inl (fun _ => 0))), (q204, (D.1 100, 4, .inl (fun _ => 0))), (q197, (D.1 100, 48, .inl (fun _ => 0))), (q189, (D.1 100, 4, .inl (fun _ => 0))), (q182, (D.1 100, 4, .inl (fun _ => 0))), (q175, (D.1 100, 4, .inl (fun _ => 0))), (q168, (D.1 100, 3, .inl (fun _ => 0))), (q161, (D.1 100, 3, .inl (fun _ => 0))), (q154, (D.1 100, 12, .inl (fun _ => 0))), (q146, (D.1 100, 180, .inl (fun _ => 0))), (q137, (D.1 100, 180, .inl (fun _ => 0))), (q128, (D.1 100, 180, .inl (fun _ => 0))), (q119, (D.1 100, 180, .inl (fun _ => 0))), (q110, (D.1 100, 3, .inl (fun _ => 0))), (q103, (D.1 100, 3, .inl (fun _ => 0))), (q96, (D.1 100, 60, .inl (fun _ => 0))), (q88, (D.1 100, 60, .inl (fun _ => 0))), (q80, (D.1 100, 60, .inl (fun _ => 0))), (q72, (D.1 100, 60, .inl (fun _ => 0))), (q64, (D.1 100, 60, .inl (fun _ => 0))), (q56, (D.1 102, 60, .inl (fun _ => 0))), (q48, (D.1 101, 4, .inr (.inl (fun _ => 0)))), (q41, (D.1 100, 600, .inl (fun _ => 0))), (q32, (D.1 100, 12, .inl (fun _ => 0))), (q24, (D.1 100, 12, .inl (fun _ => 0))), (q16, (D.1 100, 480, .inl (fun _ => 0))), (q7, (D.1 100, 100, .inl (fun _ => 0)))] M ∧ L = q250 :: (q242 :: (q234 :: (q227 :: (q219 :: (q212 :: (q204 :: (q197 :: (q189 :: (q182 :: (q175 :: (q168 :: (q161 :: (q154 :: (q146 :: (q137 :: (q128 :: (q119 :: (q110 :: (q103 :: (q96 :: (q88 :: (q80 :: (q72 :: (q64 :: (q56 :: (q48 :: (q41 :: (q32 :: (q24 :: (q16 :: (q7 :: (mm :: (L0)))))))))))))))))))))))))))))))))
theorem lf_X.kept {D : va_G} {M M1 : mw_M} {x : Nat} {life : Int32} {L0 L : List Nat} (h : lf_X D M x life L0 L) (hk : ∀ (q : Nat) (e : va_E), q ∈ L → M q = some e → M1 q = some e) : lf_X D M1 x life L0 L := by
  obtain ⟨r115, q115, l104, q104, q93, r82, y82, q82, r71, y71, q71, l60, q60, q49, q38, l27, q27, de, le, t, q16, r5, q5, wx, w_r115, w_q115, w_l104, w_q104, w_q93, w_r82, w_y82, w_q82, w_r71, w_y71, w_q71, w_l60, w_q60, w_q49, w_q38, w_l27, w_q27, w_de, w_le, w_t, w_q16, w_r5, w_q5, hrow, rfl⟩ := h
  exact ⟨r115, q115, l104, q104, q93, r82, y82, q82, r71, y71, q71, l60, q60, q49, q38, l27, q27, de, le, t, q16, r5, q5, hk _ _ (List.mem_of_getElem? (i := 35) rfl) wx, hk _ _ (List.mem_of_getElem? (i := 0) rfl) w_r115, hk _ _ (List.mem_of_getElem? (i := 1) rfl) w_q115, hk _ _ (List.mem_of_getElem? (i := 2) rfl) w_l104, hk _ _ (List.mem_of_getElem? (i := 3) rfl) w_q104, hk _ _ (List.mem_of_getElem? (i := 4) rfl) w_q93, hk _ _ (List.mem_of_getElem? (i := 5) rfl) w_r82, hk _ _ (List.mem_of_getElem? (i := 6) rfl) w_y82, hk _ _ (List.mem_of_getElem? (i := 7) rfl) w_q82, hk _ _ (List.mem_of_getElem? (i := 8) rfl) w_r71, hk _ _ (List.mem_of_getElem? (i := 9) rfl) w_y71, hk _ _ (List.mem_of_getElem? (i := 10) rfl) w_q71, hk _ _ (List.mem_of_getElem? (i := 11) rfl) w_l60, hk _ _ (List.mem_of_getElem? (i := 12) rfl) w_q60, hk _ _ (List.mem_of_getElem? (i := 13) rfl) w_q49, hk _ _ (List.mem_of_getElem? (i := 14) rfl) w_q38, hk _ _ (List.mem_of_getElem? (i := 15) rfl) w_l27, hk _ _ (List.mem_of_getElem? (i := 16) rfl) w_q27, hk _ _ (List.mem_of_getElem? (i := 17) rfl) w_de, hk _ _ (List.mem_of_getElem? (i := 18) rfl) w_le, hk _ _ (List.mem_of_getElem? (i := 19) rfl) w_t, hk _ _ (List.mem_of_getElem? (i := 32) rfl) w_q16, hk _ _ (List.mem_of_getElem? (i := 33) rfl) w_r5, hk _ _ (List.mem_of_getElem? (i := 34) rfl) w_q5, fun j hj => hk _ _ (List.mem_cons_of_mem _ (List.mem_cons_of_mem _ (List.mem_cons_of_mem _ (List.mem_cons_of_mem _ (List.mem_cons_of_mem _ (List.mem_cons_of_mem _ (List.mem_cons_of_mem _ (List.mem_cons_of_mem _ (List.mem_cons_of_mem _ (List.mem_cons_of_mem _ (List.mem_cons_of_mem _ (List.mem_cons_of_mem _ (List.mem_cons_of_mem _ (List.mem_cons_of_mem _ (List.mem_cons_of_mem _ (List.mem_cons_of_mem _ (List.mem_cons_of_mem _ (List.mem_cons_of_mem _ (List.mem_cons_of_mem _ (List.mem_cons_of_mem _ (List.mem_append_left _ (List.mem_map.mpr ⟨j, List.mem_range.mpr hj, rfl⟩)))))))))))))))))))))) (hrow j hj), rfl⟩
theorem cc_La_cell (l : Launch) (D : va_G) (z : Nat) (M : mw_M) (b L : Nat) (xs : Nat → Int32) (hL : L < 2 ^ 31) (hbz : b < z) : Met l yy_La_cell (mw_w yy_La_cell bb_La_cell 2 (Option.some Jvm.ClassFile.FieldType.int)) ({ frames := 0, cells := 0, slots := 0, locals := 0 }) (va_Pc [.ref b, .int (nI 0)] (fun U => mw_B D z M U ∧ va_X b L xs U U.heap)) (mw_Q D z (fun v M' => v = some (.int (if 0 < L then xs 0 else 0)) ∧ M' = M)) 0 0 (mw_A z) := by
  refine Met.ofW (cc := bb_La_cell) (maxL := 2) (ret := some .int) (by decide) rfl ?_
  intro p e s m args below meth c s₁ B hml hv
  obtain ⟨rfl, ⟨hM, hK, hZ, hN⟩, hX⟩ := hv
  have hts := atoms_spec (ws := mw_w yy_La_cell bb_La_cell 2 (Option.some Jvm.ClassFile.FieldType.int)) B.pre
  have E : mw_E p m c bb_La_cell 2 s _ D z "IdentityIssuerLaw" := ⟨⟨B.exec, B.bytes, hml, findClass_of_methodNamed B.named, fun w hw => hts w (List.mem_cons_of_mem _ hw)⟩, hK, hM.1, hZ, hN⟩
  have hr := B.returns
  have hk := B.notSynchronized
  have hx := E.x
  have hb := E.b
  have hl := lv_entry ([.ref b, .int (nI 0)]) (n := 2) (Nat.le_of_ble_eq_true rfl)
  rw [lg_entry_eq]
  generalize (lg_sl ([.ref b, .int (nI 0)]) ++ List.replicate (2 - (lg_sl ([.ref b, .int (nI 0)])).length) Slot.unset).toArray = ls at hl ⊢
  have hl : lv_has ls 2 [(0, .ref b), (1, .int (nI 0))] := hl
  have hS : va_S (mw_A z) s.heap s.heap [] := va_S.rf
  have hbl : b < s.heap.size := Nat.lt_of_lt_of_le hbz hM.1
  have hbA : ¬ mw_A z b := Nat.not_le.mpr hbz
  refine lv_iload_n hx hb dd_La_cell_0 rfl (lv_at hl 1 rfl) ?_
  refine lv_aload_n hx hb dd_La_cell_1 rfl (lv_at hl 0 rfl) ?_
  refine va_slen hx hb hX hbl hbA hS dd_La_cell_2 ?_
  refine mw_topi (y := nI L) rfl ?_
  refine lv_icmp_ge (tgt := 12) hx hb dd_La_cell_3 (by decide) (fun h3 => ?_) (fun h3 => ?_)
  · rw [nI_leI hL (by decide)] at h3
    refine lv_iconst (v := 0) hx hb dd_La_cell_12 (by decide) ?_
    refine mr_i E hr hk hM hS (by decide) (by decide) ?_ dd_La_cell_13
    exact ⟨by rw [if_neg (by omega)], rfl⟩
  · rw [nI_leI hL (by decide)] at h3
    refine lv_aload_n hx hb dd_La_cell_6 rfl (lv_at hl 0 rfl) ?_
    refine lv_iload_n hx hb dd_La_cell_7 rfl (lv_at hl 1 rfl) ?_
    refine va_sld hx hb hX hbl hbA hS (vp_in_nI (by omega) hL) dd_La_cell_8 ?_
    refine mw_topi (y := xs 0) (by rw [nI_clamp (by decide)]) ?_
    refine lv_goto (tgt := 13) hx hb dd_La_cell_9 (by decide) ?_
    refine mr_i E hr hk hM hS (by decide) (by decide) ?_ dd_La_cell_13
    exact ⟨by rw [if_pos (by omega)], rfl⟩
set_option maxRecDepth 100000 in
set_option maxHeartbeats 4000000 in
/-- the law from its entry: two fresh objects, then the loop -/
theorem ls_start {p : Program} {e : Env} {s : State} {m : MethodId} {below : List Frame} {meth : Method} {c : Code} (l : Launch) {b L : Nat} {xs : Nat → Int32} (hL : L ≤ 3073) (C0 : lw_At p s m meth c b L xs)
    (hI : ∀ (D : va_G) (x mm : Nat) (life : Int32), ∃ Inv : Nat → mw_M → Prop, (∀ (M : mw_M) (L1 L2 : List Nat), lf_X D M x life [] L1 → lf_M D M mm life L1 L2 → mn_l L2 M → Inv 0 M) ∧
      (∀ (j : Nat) (M : mw_M) (k : Nat), Inv j M → 1 + 6 * (j + 1) ≤ L → k < 18 → xs (1 + 6 * j) &&& nI 31 = nI k → ls_case l D s.heap.size x mm (fun q => xs (1 + 6 * j + q)) M (Inv (j + 1)) k) ∧ ∀ (j : Nat) (M : mw_M), Inv j M → 1 + 6 * (j + 1) ≤ L → Inv (j + 1) M) :
    W p l e room_1 s m #[Value.ref b] below meth c s.heap [] 0 0 (lw_Z below #[Value.ref b] s) (entryFrame m ([Value.ref b] : List Value).toArray 4) := by
  obtain ⟨hx, hb, hr, hml, hown, hts, hX, hbl, hlk, hgv⟩ := C0
  obtain ⟨D, hK, hZ, hN⟩ := le_D hts hgv
  obtain ⟨z, hz⟩ : ∃ z, z = s.heap.size := ⟨_, rfl⟩
  have E : mw_E p m c code 4 s #[Value.ref b] D z "IdentityIssuerLaw" := ⟨⟨hx, hb, hml, hown, fun w hw => hts w (List.mem_filter.mp hw).1⟩, hK, by rw [hz]; exact Nat.le_refl _, by rw [hz]; exact hZ, hN⟩
  have hbz : b < z := by rw [hz]; exact hbl
  have hbA : ¬ mw_A z b := Nat.not_le.mpr hbz
  have hl := lv_entry ([.ref b]) (n := 4) (Nat.le_of_ble_eq_true rfl)
  rw [lg_entry_eq]
  generalize (lg_sl ([.ref b]) ++ List.replicate (4 - (lg_sl ([.ref b])).length) Slot.unset).toArray = ls at hl ⊢
  have hl : lv_has ls 4 [(0, .ref b)] := hl
  have hS : va_S (mw_A z) s.heap s.heap [] := va_S.rf
  have hM : mw_at D mg_cl z (fun _ => none) s.heap := ⟨by rw [hz]; exact Nat.le_refl _, [], fun k q h => by simp at h, ⟨fun i j p q h => by simp at h, fun k q h => by simp at h⟩, fun a e => ⟨fun h => absurd h (fun q => nomatch q), fun h => absurd h List.not_mem_nil⟩⟩
  have hA : mn_l [] (fun _ => none) := ⟨List.nodup_nil, fun a h => absurd h List.not_mem_nil⟩
  refine mw_new (C := "IdentityIssuer") (T := ff_Xi) (N := 14) (ci := 0) (fs := [.null, .null, .null, .null, .null, .null, .null, .null, .null, .int 0, .int 0, .int 0, .null, .null]) hx hb E.t in_Xi tt_Xi ty_Xi E.o (E.t _ tw_La_7) (E.t _ tw_inst_Xi) (E.t _ tw_ini_Xi) E.K hM E.zz hS rfl (by decide +kernel) (by decide) (by decide) dd_La_law_0 (fun x H hq hM hS => ?_)
  obtain ⟨M1, hM1⟩ : ∃ M9 : mw_M, M9 = va_up (fun _ => none) x (some (.inr (0, [.null, .null, .null, .null, .null, .null, .null, .null, .null, .int 0, .int 0, .int 0, .null, .null]))) := ⟨_, rfl⟩
  rw [← hM1] at hM
  have hA := mn_nn hM1 hq hA
  have wx := mw_us hM1
  refine lv_dup hx hb dd_La_law_3 rfl ?_
  refine lv_aload_n hx hb dd_La_law_4 rfl (lv_at hl 0 rfl) ?_
  refine lv_iconst (v := nI 0) hx hb dd_La_law_5 (by decide) ?_
  refine mw_call (va_runS (As := [.ref b, .int (nI 0)]) (rest := [.ref x, .ref x]) ⟨E.x, E.b, E.ml, E.o, E.t⟩ (cc_La_cell l D z M1 b L xs (by omega) hbz) (va_cwS 2 E.t (mw_goodS ky_La_cell.1 tw_La_9 kv_La_cell ky_La_cell.2.1) rfl rfl rfl ky_La_cell.2.2 (by decide)) ⟨fun _ _ _ _ q => ⟨q.1, q.2.1.calling, va_X.moved (Vm.Alike.refl _) q.2.2⟩, fun U hU hW => ⟨rfl, mw_B.of hM E.K E.Z E.N hS hU hW, by rw [hU]; exact va_X.moved hW.alike (hX.kept (hS.2.1 b hbl hbA))⟩⟩ rfl rfl hl.1 rfl (lv_room (Nat.le_of_ble_eq_true rfl)) dd_La_law_6 (by decide)) hS (fun v M2 H locs hp hM hS => ?_)
  obtain ⟨rfl, hq⟩ := hp
  have hq := hq.symm
  subst hq
  obtain ⟨life, hlife⟩ : ∃ y : Int32, y = (if 0 < L then xs 0 else 0) := ⟨_, rfl⟩
  rw [← hlife]
  refine W.eq (g2 := F0 m 9 ls [.int life, .ref x, .ref x]) rfl ?_
  refine mw_I (As := [.int life]) (rest := [.ref x]) E (cc_Xi_init l D z M1 x [] life hA wx) ky_Xi_init kv_Xi_init tw_La_15 hM hS rfl hl.1 rfl (Nat.le_of_ble_eq_true rfl) dd_La_law_9 (by decide) (by decide) (fun v M1 H locs hp hM hS => ?_)
  obtain ⟨rfl, r115, q115, l104, q104, q93, r82, y82, q82, r71, y71, q71, l60, q60, q49, q38, l27, q27, de, le, t, q16, r5, q5, wx, w_r115, w_q115, w_l104, w_q104, w_q93, w_r82, w_y82, w_q82, w_r71, w_y71, w_q71, w_l60, w_q60, w_q49, w_q38, w_l27, w_q27, w_de, w_le, w_t, w_q16, w_r5, w_q5, hrow, hA, -⟩ := hp
  have hfx : ∃ L1, lf_X D M1 x life [] L1 ∧ mn_l L1 M1 := ⟨_, ⟨r115, q115, l104, q104, q93, r82, y82, q82, r71, y71, q71, l60, q60, q49, q38, l27, q27, de, le, t, q16, r5, q5, wx, w_r115, w_q115, w_l104, w_q104, w_q93, w_r82, w_y82, w_q82, w_r71, w_y71, w_q71, w_l60, w_q60, w_q49, w_q38, w_l27, w_q27, w_de, w_le, w_t, w_q16, w_r5, w_q5, hrow, rfl⟩, hA⟩
  clear w_r115 w_q115 w_l104 w_q104 w_q93 w_r82 w_y82 w_q82 w_r71 w_y71 w_q71 w_l60 w_q60 w_q49 w_q38 w_l27 w_q27 w_de w_le w_t w_q16 w_r5 w_q5 hrow hA wx
  obtain ⟨L1, hfx, hA⟩ := hfx
  refine W.eq (g2 := F0 m 12 ls [.ref x]) rfl ?_
  refine lv_astore_n (lv' := [(1, .ref x), (0, .ref b)]) hx hb dd_La_law_12 rfl hl (by decide) rfl (fun ls hl => ?_)
  refine mw_new (C := "IdentityIssuerModel") (T := ff_Mo) (N := 52) (ci := 13) (fs := [.int 0, .int 0, .null, .int 0, .int 0, .null, .null, .null, .int 0, .int 0, .null, .int 0, .int 0, .null, .int 0, .int 0, .null, .null, .null, .null, .null, .null, .int 0, .int 0, .null, .null, .null, .null, .null, .null, .null, .null, .null, .int 0, .null, .null, .null, .null, .null, .null, .null, .int 0, .null, .int 0, .null, .int 0, .int 0, .null, .int 0, .null, .int 0, .int 0]) hx hb E.t in_Mo tt_Mo ty_Mo E.o (E.t _ tw_La_18) (E.t _ tw_inst_Mo) (E.t _ tw_ini_Mo) E.K hM E.zz hS rfl (by decide +kernel) (by decide) (by decide) dd_La_law_13 (fun mm H hq hM hS => ?_)
  obtain ⟨M1, hM1⟩ : ∃ M9 : mw_M, M9 = va_up M1 mm (some (.inr (13, [.int 0, .int 0, .null, .int 0, .int 0, .null, .null, .null, .int 0, .int 0, .null, .int 0, .int 0, .null, .int 0, .int 0, .null, .null, .null, .null, .null, .null, .int 0, .int 0, .null, .null, .null, .null, .null, .null, .null, .null, .null, .int 0, .null, .null, .null, .null, .null, .null, .null, .int 0, .null, .int 0, .null, .int 0, .int 0, .null, .int 0, .null, .int 0, .int 0]))) := ⟨_, rfl⟩
  rw [← hM1] at hM
  have hfx := hfx.kept (fun q e _ h => mw_un hM1 hq h)
  have hA := mn_nn hM1 hq hA
  have wm := mw_us hM1
  refine lv_dup hx hb dd_La_law_16 rfl ?_
  refine lv_aload_n hx hb dd_La_law_17 rfl (lv_at hl 1 rfl) ?_
  refine lv_iconst (v := nI 0) hx hb dd_La_law_18 (by decide) ?_
  refine mw_call (va_runS (As := [.ref b, .int (nI 0)]) (rest := [.ref mm, .ref mm]) ⟨E.x, E.b, E.ml, E.o, E.t⟩ (cc_La_cell l D z M1 b L xs (by omega) hbz) (va_cwS 2 E.t (mw_goodS ky_La_cell.1 tw_La_9 kv_La_cell ky_La_cell.2.1) rfl rfl rfl ky_La_cell.2.2 (by decide)) ⟨fun _ _ _ _ q => ⟨q.1, q.2.1.calling, va_X.moved (Vm.Alike.refl _) q.2.2⟩, fun U hU hW => ⟨rfl, mw_B.of hM E.K E.Z E.N hS hU hW, by rw [hU]; exact va_X.moved hW.alike (hX.kept (hS.2.1 b hbl hbA))⟩⟩ rfl rfl hl.1 rfl (lv_room (Nat.le_of_ble_eq_true rfl)) dd_La_law_19 (by decide)) hS (fun v M2 H locs hp hM hS => ?_)
  obtain ⟨rfl, hq⟩ := hp
  have hq := hq.symm
  subst hq
  rw [← hlife]
  refine W.eq (g2 := F0 m 22 ls [.int life, .ref mm, .ref mm]) rfl ?_
  refine mw_I (As := [.int life]) (rest := [.ref mm]) E (cc_Mo_init l D z M1 mm L1 life hA wm) ky_Mo_init kv_Mo_init tw_La_20 hM hS rfl hl.1 rfl (Nat.le_of_ble_eq_true rfl) dd_La_law_22 (by decide) (by decide) (fun v M1 H locs hp hM hS => ?_)
  obtain ⟨rfl, q250, q242, q234, q227, q219, q212, q204, q197, q189, q182, q175, q168, q161, q154, q146, q137, q128, q119, q110, q103, q96, q88, q80, q72, q64, q56, q48, q41, q32, q24, q16, q7, wm, hW, hA, hF2⟩ := hp
  have hfx := hfx.kept (fun q e hq h => hF2.at h (fun h9 => h9 hq))
  refine W.eq (g2 := F0 m 25 ls [.ref mm]) rfl ?_
  refine lv_astore_n (lv' := [(2, .ref mm), (1, .ref x), (0, .ref b)]) hx hb dd_La_law_25 rfl hl (by decide) rfl (fun ls hl => ?_)
  refine lv_iconst (v := nI 1) hx hb dd_La_law_26 (by decide) ?_
  refine lv_istore_n (lv' := [(3, .int (nI (1 + 6 * 0))), (2, .ref mm), (1, .ref x), (0, .ref b)]) hx hb dd_La_law_27 rfl hl (by decide) rfl (fun ls hl => ?_)
  refine W.widen (k := 100 + 50 * 0) (n := 5000 + 1500 * 0) (by decide) (by decide) ?_
  obtain ⟨Inv, h0, hstep, hskip⟩ := hI D x mm life
  exact ls_loop E hX hbl hbA hL hr hlk hz Inv (by rw [hz]; exact hstep) hskip 513 0 M1 H locs ls rfl (h0 M1 L1 _ hfx ⟨q250, q242, q234, q227, q219, q212, q204, q197, q189, q182, q175, q168, q161, q154, q146, q137, q128, q119, q110, q103, q96, q88, q80, q72, q64, q56, q48, q41, q32, q24, q16, q7, wm, hW, rfl⟩ hA) hM hS hl
