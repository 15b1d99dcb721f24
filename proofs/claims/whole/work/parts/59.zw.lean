/-! the class: writing -/
def bw_at (D : va_G) (M : mw_M) (y r : Nat) (L : List Nat) : Prop := ∃ f : Nat → Int32, M y = some (.inr (1, [.ref r, .int (nI L.length)])) ∧ M r = some (.inl (D.1 100, 100, .inl f)) ∧ by_l f L ∧ L.length ≤ 100
theorem bw_at.ne {D : va_G} {M : mw_M} {y r b ci : Nat} {L : List Nat} {vs : List Value} (h : bw_at D M y r L) (w : M b = some (.inr (ci, vs))) (hc : ci ≠ 1) : ¬ (b = y ∨ b = r) := fun q => by
  obtain ⟨f, h1, h2, -⟩ := h
  exact q.elim (mw_ne w h1 (fun q => by cases q; exact hc rfl)) (mw_ne w h2 (fun q => by cases q))
section BW
variable (l : Launch) (D : va_G) (z : Nat) (M : mw_M) {y r : Nat} {L : List Nat}
theorem bw_app {c : Nat} (h : bw_at D M y r L) (hl : L.length < 100) : mw_C l yy_By_append bb_By_append 2 (Option.none : Option Jvm.ClassFile.FieldType) 0 0 0 0 D z M [.ref y, .int (nI c)] (fun v M' => v = none ∧ bw_at D M' y r (L ++ [c]) ∧ mw_fr (fun q => q = y ∨ q = r) M M') := by
  obtain ⟨f, h1, h2, h3, -⟩ := h
  refine mw_mono (fun v M' hp => ?_) (cc_By_append l D z M y r f L.length (nI c) h1 h2 hl)
  obtain ⟨rfl, a1, a2, a3⟩ := hp
  exact ⟨rfl, ⟨_, by rw [List.length_append]; exact a1, a2, by_snoc h3 c, by rw [List.length_append, List.length_singleton]; omega⟩, a3⟩
theorem bw_rep {j c : Nat} (h : bw_at D M y r L) (hj : j < L.length) : mw_C l yy_By_replace bb_By_replace 3 (Option.none : Option Jvm.ClassFile.FieldType) 0 0 0 0 D z M [.ref y, .int (nI j), .int (nI c)] (fun v M' => v = none ∧ bw_at D M' y r (L.set j c) ∧ mw_fr (fun q => q = y ∨ q = r) M M') := by
  obtain ⟨f, h1, h2, h3, h4⟩ := h
  refine mw_mono (fun v M' hp => ?_) (cc_By_replace l D z M y r f L.length j (nI c) h1 h2 h4 hj)
  obtain ⟨rfl, a1, a2⟩ := hp
  have hy := a2.at h1 (mw_ne h1 h2 (fun q => by cases q))
  exact ⟨rfl, ⟨_, by rw [List.length_set]; exact hy, a1, by_set h3 j c, by rw [List.length_set]; exact h4⟩, a2.mono (fun q h => Or.inr h)⟩
theorem bw_len {n : Nat} (h : bw_at D M y r L) (hn : L.length = n) : mw_C l yy_By_length bb_By_length 1 (Option.some Jvm.ClassFile.FieldType.int) 0 0 0 0 D z M [.ref y] (fun v M' => v = some (.int (nI n)) ∧ M' = M) := by
  obtain ⟨f, h1, h2, h3, h4⟩ := h
  subst hn
  exact cc_By_length l D z M y r f L.length h1 h2 h4
theorem bw_clr (h : bw_at D M y r L) : mw_C l yy_By_clear bb_By_clear 1 (Option.none : Option Jvm.ClassFile.FieldType) 0 0 0 0 D z M [.ref y] (fun v M' => v = none ∧ bw_at D M' y r [] ∧ mw_fr (fun q => q = y ∨ q = r) M M') := by
  obtain ⟨f, h1, h2, h3, h4⟩ := h
  refine mw_mono (fun v M' hp => ?_) (cc_By_clear l D z M y r f L.length h1 h2 h4)
  obtain ⟨rfl, a1, a2⟩ := hp
  exact ⟨rfl, ⟨f, a1, a2.at h2 (mw_ne h2 h1 (fun q => by cases q)), by_nil f, by decide⟩, a2.mono (fun q h => Or.inl h)⟩
theorem sm_fold (L : List Nat) (a : Nat) : ∀ n : Nat, a + n ≤ L.length → by_sm (fun j => L.getD j 0) a n = ((L.drop a).take n).foldl (fun h b => (h * 257 + b + 1) % 1000000007) 1 := by
  intro n
  induction n with
  | zero => exact fun _ => rfl
  | succ n ih =>
    intro hn
    have hg : (L.drop a)[n]? = some (L.getD (a + n) 0) := by
      rw [List.getElem?_drop, List.getD_eq_getElem?_getD, List.getElem?_eq_getElem (by omega)]
      rfl
    rw [ls_take hg, List.foldl_append, ← ih (by omega)]
    rfl
theorem bw_sum {n : Nat} (h : bw_at D M y r L) (hn : L.length = n) (h2 : 2 ≤ n) (hb : ∀ c : Nat, c ∈ L → c < 256) : mw_C l yy_By_sum bb_By_sum 6 (Option.some Jvm.ClassFile.FieldType.int) 1 21 0 0 D z M [.ref y, .int (nI 2), .int (nI n)] (fun v M' => v = some (.int (nI (ec_sum L))) ∧ M' = M) := by
  obtain ⟨f, h1, h3, h4, h5⟩ := h
  subst hn
  refine mw_mono (fun v M' hp => ?_) (cc_By_sum l D z M y r f L.length (fun j => L.getD j 0) 2 L.length h1 h3 h5 (fun j hj => ?_) h2 (Nat.le_refl _))
  · rw [sm_fold L 2 (L.length - 2) (by omega), List.take_of_length_le (by rw [List.length_drop]; exact Nat.le_refl _)] at hp
    exact hp
  · have hg := es_gd hj
    exact ⟨h4 j _ hg, hb _ (List.mem_of_getElem? hg)⟩
end BW
theorem cc_Wr_writeNumber (l : Launch) (D : va_G) (z : Nat) (M : mw_M) (wt y r v0 : Nat) (ws : Int32) (L : List Nat) (ww : M wt = some (.inr (7, [.ref y, .int (ws)]))) (hbw : bw_at D M y r L) (hl94 : L.length ≤ 94) (hv0 : v0 < 2 ^ 31) : mw_C l yy_Wr_writeNumber bb_Wr_writeNumber 4 (Option.none : Option Jvm.ClassFile.FieldType) 1 21 0 0 D z M [.ref wt, .int (nI v0)] (fun v M' => v = none ∧ bw_at D M' y r (L ++ nm_l v0) ∧ mw_fr (fun q => q = y ∨ q = r) M M') := by
  refine mw_of (by decide) (Nat.le_of_ble_eq_true rfl) ?_
  intro p e s m below meth c ls E hr hk hnm hM hl
  have hx := E.x
  have hb := E.b
  have E : mw_E p m c bb_Wr_writeNumber 4 s _ D z "IdentityIssuer$Writer" := E
  have hl : lv_has ls 4 [(0, .ref wt), (1, .int (nI v0))] := hl
  have hS : va_S (mw_A z) s.heap s.heap [] := va_S.rf
  have hF : mw_fr (fun q => q = y ∨ q = r) M M := mw_fr.rf
  obtain ⟨f9, wy, -⟩ := id hbw
  have hsl := nm_s_le v0
  refine lv_iconst (v := nI 1) hx hb dd_Wr_writeNumber_0 (by decide) ?_
  refine lv_istore_n (lv' := [(2, .int (nI 1)), (0, .ref wt), (1, .int (nI v0))]) hx hb dd_Wr_writeNumber_1 rfl hl (by decide) rfl (fun ls hl => ?_)
  have join24 : ∀ (hT9 : True) (H : Heap) (locs : List Loc) (ls : Array Slot), True → mw_at D mg_cl z M H → va_S (mw_A z) s.heap H locs → lv_has ls 4 [(2, .int (nI (nm_s v0))), (0, .ref wt), (1, .int (nI v0))] → W p l e ({ frames := 1, cells := 0, slots := 0, locals := 21 } : Room) s m ([.ref wt, .int (nI v0)] : List Value).toArray below meth c H locs (0) (0) (MQ below (mw_Q D z (fun v M' => v = none ∧ bw_at D M' y r (L ++ nm_l v0) ∧ mw_fr (fun q => q = y ∨ q = r) M M')) ([.ref wt, .int (nI v0)] : List Value).toArray s 0 0 (mw_A z)) (F0 m 24 ls []) := by
    intro hT9 H locs ls hT hM hS hl
    refine lv_aload_n hx hb dd_Wr_writeNumber_24 rfl (lv_at hl 1 rfl) ?_
    refine gf_Wr_12 E hM ww rfl dd_Wr_writeNumber_25 ?_
    refine lv_iconst (v := nI 2) hx hb dd_Wr_writeNumber_28 (by decide) ?_
    refine mw_V (As := [.int (nI 2)]) (rest := []) E (bw_app (c := 2) l D z (M) hbw (by omega)) ky_By_append kv_By_append tw_Wr_30 hM hS wy rfl rfl rfl hl.1 rfl (Nat.le_of_ble_eq_true rfl) dd_Wr_writeNumber_29 (by first | decide | exact ⟨by dsimp only; omega, by dsimp only; omega⟩) (by decide) (fun v M1 H locs hp hM hS => ?_)
    obtain ⟨rfl, hbw2, hF2⟩ := hp
    have hbo := hbw
    have ww := hF2.at ww (hbo.ne ww (by decide))
    obtain ⟨K1, hK1⟩ : ∃ L9 : List Nat, L9 = L ++ [2] := ⟨_, rfl⟩
    have hnK1 : K1.length = L.length + 1 := by rw [hK1]; rw [List.length_append]; rfl
    have hbw := hbw2
    rw [← hK1] at hbw
    obtain ⟨f9, wy, -⟩ := id hbw
    have hF := hF.trans hF2
    refine W.eq (g2 := F0 m 32 ls []) rfl ?_
    refine lv_aload_n hx hb dd_Wr_writeNumber_32 rfl (lv_at hl 1 rfl) ?_
    refine gf_Wr_12 E hM ww rfl dd_Wr_writeNumber_33 ?_
    refine lv_iload_n hx hb dd_Wr_writeNumber_36 rfl (lv_at hl 0 rfl) ?_
    refine mw_V (As := [.int (nI (nm_s v0))]) (rest := []) E (bw_app (c := nm_s v0) l D z (M1) hbw (by omega)) ky_By_append kv_By_append tw_Wr_30 hM hS wy rfl rfl rfl hl.1 rfl (Nat.le_of_ble_eq_true rfl) dd_Wr_writeNumber_37 (by first | decide | exact ⟨by dsimp only; omega, by dsimp only; omega⟩) (by decide) (fun v M1 H locs hp hM hS => ?_)
    obtain ⟨rfl, hbw2, hF2⟩ := hp
    have hbo := hbw
    have ww := hF2.at ww (hbo.ne ww (by decide))
    obtain ⟨K2, hK2⟩ : ∃ L9 : List Nat, L9 = K1 ++ [nm_s v0] := ⟨_, rfl⟩
    have hnK2 : K2.length = K1.length + 1 := by rw [hK2]; rw [List.length_append]; rfl
    have hbw := hbw2
    rw [← hK2] at hbw
    obtain ⟨f9, wy, -⟩ := id hbw
    have hF := hF.trans hF2
    refine W.eq (g2 := F0 m 40 ls []) rfl ?_
    refine lv_iload_n hx hb dd_Wr_writeNumber_40 rfl (lv_at hl 0 rfl) ?_
    refine lv_iconst (v := nI 1) hx hb dd_Wr_writeNumber_41 (by decide) ?_
    refine lv_isub hx hb dd_Wr_writeNumber_42 ?_
    refine mw_topi (y := nI ((nm_s v0) - 1)) (pk_sub (by omega)) ?_
    refine lv_istore_n (lv' := [(3, .int (nI ((nm_s v0) - 1))), (2, .int (nI (nm_s v0))), (0, .ref wt), (1, .int (nI v0))]) hx hb dd_Wr_writeNumber_43 rfl hl (by decide) rfl (fun ls hl => ?_)
    have hK0 : K2 ++ nm_b v0 (nm_s v0) = L ++ nm_l v0 := by rw [hK2, hK1, List.append_assoc, List.append_assoc]; rfl
    have loop44 : ∀ (d9 : Nat) (L1 : List Nat) (M1 : mw_M) (H : Heap) (locs : List Loc) (ls : Array Slot), d9 ≤ 4 → L1 ++ nm_b v0 d9 = L ++ nm_l v0 → L1.length + d9 ≤ 100 → M1 wt = some (.inr (7, [.ref y, .int (ws)])) → bw_at D M1 y r L1 → mw_fr (fun q => q = y ∨ q = r) M M1 → mw_at D mg_cl z M1 H → va_S (mw_A z) s.heap H locs → lv_has ls 4 [(3, .int (nI d9 - nI 1)), (0, .ref wt), (1, .int (nI v0))] → W p l e ({ frames := 1, cells := 0, slots := 0, locals := 21 } : Room) s m ([.ref wt, .int (nI v0)] : List Value).toArray below meth c H locs (0) (0) (MQ below (mw_Q D z (fun v M' => v = none ∧ bw_at D M' y r (L ++ nm_l v0) ∧ mw_fr (fun q => q = y ∨ q = r) M M')) ([.ref wt, .int (nI v0)] : List Value).toArray s 0 0 (mw_A z)) (F0 m 44 ls []) := by
      intro d9
      induction d9 with
      | zero =>
        intro L1 M1 H locs ls hd9 hLL hl1 ww hbw hF hM hS hl
        obtain ⟨f9, wy, -⟩ := id hbw
        have hl : lv_has ls 4 [(3, .int (nI 0 - nI 1)), (0, .ref wt), (1, .int (nI v0))] := hl
        refine lv_iload_n hx hb dd_Wr_writeNumber_44 rfl (lv_at hl 0 rfl) ?_
        refine lv_if_lt (tgt := 71) hx hb dd_Wr_writeNumber_45 (by decide) (fun h45 => ?_) (fun h45 => ?_)
        ·
          refine mr_v E hr hk hM hS (by decide) (by decide) ?_ dd_Wr_writeNumber_71
          rw [show L1 = L ++ nm_l v0 by rw [← hLL]; exact (List.append_nil _).symm] at hbw
          exact ⟨rfl, hbw, hF⟩
        ·
          exact absurd h45 (by decide)
      | succ d9 ih =>
        intro L1 M1 H locs ls hd9 hLL hl1 ww hbw hF hM hS hl
        obtain ⟨f9, wy, -⟩ := id hbw
        rw [pt_pred] at hl
        refine lv_iload_n hx hb dd_Wr_writeNumber_44 rfl (lv_at hl 0 rfl) ?_
        refine lv_if_lt (tgt := 71) hx hb dd_Wr_writeNumber_45 (by decide) (fun h45 => ?_) (fun h45 => ?_)
        ·
          exact absurd h45 (nI_pos (by omega))
        ·
          refine lv_aload_n hx hb dd_Wr_writeNumber_48 rfl (lv_at hl 1 rfl) ?_
          refine gf_Wr_12 E hM ww rfl dd_Wr_writeNumber_49 ?_
          refine lv_iload_n hx hb dd_Wr_writeNumber_52 rfl (lv_at hl 2 rfl) ?_
          refine lv_bipush (v := nI 8) hx hb dd_Wr_writeNumber_53 (by decide) ?_
          refine lv_iload_n hx hb dd_Wr_writeNumber_55 rfl (lv_at hl 0 rfl) ?_
          refine lv_imul hx hb dd_Wr_writeNumber_56 ?_
          refine mw_topi (y := nI (8 * d9)) (pk_mul _ _) ?_
          refine lv_iushr (v := ((nI v0).toUInt32 >>> ((nI (8 * d9)).toUInt32 &&& Int32.toUInt32 31)).toInt32) hx hb dd_Wr_writeNumber_57 rfl ?_
          refine mw_topi (y := nI (v0 / 2 ^ (8 * d9))) (pk_ushrN (by omega) _ (8 * d9) (pt_sh d9 (by omega))) ?_
          refine lv_sipush (v := nI 255) hx hb dd_Wr_writeNumber_58 (by decide) ?_
          refine lv_iand hx hb dd_Wr_writeNumber_61 ?_
          refine mw_topi (y := nI (v0 / 2 ^ (8 * d9) % 256)) (pk_andN (by have := Nat.div_le_self v0 (2 ^ (8 * d9)); omega) 8 (by decide)) ?_
          refine mw_V (As := [.int (nI (v0 / 2 ^ (8 * d9) % 256))]) (rest := []) E (bw_app (c := v0 / 2 ^ (8 * d9) % 256) l D z (M1) hbw (by omega)) ky_By_append kv_By_append tw_Wr_30 hM hS wy rfl rfl rfl hl.1 rfl (Nat.le_of_ble_eq_true rfl) dd_Wr_writeNumber_62 (by first | decide | exact ⟨by dsimp only; omega, by dsimp only; omega⟩) (by decide) (fun v M1 H locs hp hM hS => ?_)
          obtain ⟨rfl, hbw2, hF2⟩ := hp
          have hbo := hbw
          have ww := hF2.at ww (hbo.ne ww (by decide))
          obtain ⟨K3, hK3⟩ : ∃ L9 : List Nat, L9 = L1 ++ [v0 / 2 ^ (8 * d9) % 256] := ⟨_, rfl⟩
          have hnK3 : K3.length = L1.length + 1 := by rw [hK3]; rw [List.length_append]; rfl
          have hbw := hbw2
          rw [← hK3] at hbw
          obtain ⟨f9, wy, -⟩ := id hbw
          have hF := hF.trans hF2
          refine W.eq (g2 := F0 m 65 ls []) rfl ?_
          refine lv_iinc (k := 0) (v := nI d9 - nI 1) (lv' := [(3, .int (nI d9 - nI 1)), (0, .ref wt), (1, .int (nI v0))]) hx hb dd_Wr_writeNumber_65 hl rfl (pt_dec d9) (by decide) rfl (fun ls hl => ?_)
          refine lv_goto (tgt := 44) hx hb dd_Wr_writeNumber_68 (by decide) ?_
          exact ih _ M1 H locs ls (by omega) (by rw [hK3, List.append_assoc]; exact hLL) (by omega) ww hbw hF hM hS (lv_sub hl [0, 1, 2] rfl)
    exact loop44 (nm_s v0) K2 M1 H locs ls (by omega) hK0 (by omega) ww hbw hF hM hS (by rw [pk_sub (by omega)]; exact (lv_sub hl [0, 2, 3] rfl))
  refine lv_iload_n hx hb dd_Wr_writeNumber_2 rfl (lv_at hl 0 rfl) ?_
  refine lv_iconst (v := nI 4) hx hb dd_Wr_writeNumber_3 (by decide) ?_
  refine lv_icmp_ge (tgt := 24) hx hb dd_Wr_writeNumber_4 (by decide) (fun h4 => ?_) (fun h4 => ?_)
  ·
    rw [nI_leI (by omega) (by omega)] at h4
    omega
  ·
    rw [nI_leI (by omega) (by omega)] at h4
    refine lv_iload_n hx hb dd_Wr_writeNumber_7 rfl (lv_at hl 2 rfl) ?_
    refine lv_bipush (v := nI 8) hx hb dd_Wr_writeNumber_8 (by decide) ?_
    refine lv_iload_n hx hb dd_Wr_writeNumber_10 rfl (lv_at hl 0 rfl) ?_
    refine lv_imul hx hb dd_Wr_writeNumber_11 ?_
    refine mw_topi (y := nI (8 * 1)) (pk_mul _ _) ?_
    refine lv_iconst (v := nI 1) hx hb dd_Wr_writeNumber_12 (by decide) ?_
    refine lv_isub hx hb dd_Wr_writeNumber_13 ?_
    refine mw_topi (y := nI ((8 * 1) - 1)) (pk_sub (by omega)) ?_
    refine mw_topi (y := nI 7) (by decide) ?_
    refine lv_iushr (v := ((nI v0).toUInt32 >>> ((nI 7).toUInt32 &&& Int32.toUInt32 31)).toInt32) hx hb dd_Wr_writeNumber_14 rfl ?_
    refine mw_topi (y := nI (v0 / 2 ^ 7)) (pk_ushrN (by omega) _ 7 (by decide)) ?_
    refine lv_if_eq (tgt := 24) hx hb dd_Wr_writeNumber_15 (by decide) (fun h15 => ?_) (fun h15 => ?_)
    ·
      have e7 := (nI_eq (b := 0) (by omega) (by decide)).mp h15
      exact join24 trivial s.heap [] ls trivial hM hS (by rw [nm_s_1 e7]; exact (lv_sub hl [0, 1, 2] rfl))
    ·
      have e7 : v0 / 2 ^ 7 ≠ 0 := fun q => h15 (by rw [q]; rfl)
      refine lv_iinc (k := 0) (v := nI (1 + 1)) (lv' := [(2, .int (nI (1 + 1))), (0, .ref wt), (1, .int (nI v0))]) hx hb dd_Wr_writeNumber_18 hl rfl (nI_1 _) (by decide) rfl (fun ls hl => ?_)
      refine lv_goto (tgt := 2) hx hb dd_Wr_writeNumber_21 (by decide) ?_
      refine lv_iload_n hx hb dd_Wr_writeNumber_2 rfl (lv_at hl 0 rfl) ?_
      refine lv_iconst (v := nI 4) hx hb dd_Wr_writeNumber_3 (by decide) ?_
      refine lv_icmp_ge (tgt := 24) hx hb dd_Wr_writeNumber_4 (by decide) (fun h4 => ?_) (fun h4 => ?_)
      ·
        rw [nI_leI (by omega) (by omega)] at h4
        omega
      ·
        rw [nI_leI (by omega) (by omega)] at h4
        refine lv_iload_n hx hb dd_Wr_writeNumber_7 rfl (lv_at hl 2 rfl) ?_
        refine lv_bipush (v := nI 8) hx hb dd_Wr_writeNumber_8 (by decide) ?_
        refine lv_iload_n hx hb dd_Wr_writeNumber_10 rfl (lv_at hl 0 rfl) ?_
        refine lv_imul hx hb dd_Wr_writeNumber_11 ?_
        refine mw_topi (y := nI (8 * (1 + 1))) (pk_mul _ _) ?_
        refine lv_iconst (v := nI 1) hx hb dd_Wr_writeNumber_12 (by decide) ?_
        refine lv_isub hx hb dd_Wr_writeNumber_13 ?_
        refine mw_topi (y := nI ((8 * (1 + 1)) - 1)) (pk_sub (by omega)) ?_
        refine mw_topi (y := nI 15) (by decide) ?_
        refine lv_iushr (v := ((nI v0).toUInt32 >>> ((nI 15).toUInt32 &&& Int32.toUInt32 31)).toInt32) hx hb dd_Wr_writeNumber_14 rfl ?_
        refine mw_topi (y := nI (v0 / 2 ^ 15)) (pk_ushrN (by omega) _ 15 (by decide)) ?_
        refine lv_if_eq (tgt := 24) hx hb dd_Wr_writeNumber_15 (by decide) (fun h15 => ?_) (fun h15 => ?_)
        ·
          have e15 := (nI_eq (b := 0) (by omega) (by decide)).mp h15
          exact join24 trivial s.heap [] ls trivial hM hS (by rw [nm_s_2 e7 e15]; exact (lv_sub hl [0, 1, 2] rfl))
        ·
          have e15 : v0 / 2 ^ 15 ≠ 0 := fun q => h15 (by rw [q]; rfl)
          refine lv_iinc (k := 0) (v := nI (1 + 1 + 1)) (lv' := [(2, .int (nI (1 + 1 + 1))), (0, .ref wt), (1, .int (nI v0))]) hx hb dd_Wr_writeNumber_18 hl rfl (nI_1 _) (by decide) rfl (fun ls hl => ?_)
          refine lv_goto (tgt := 2) hx hb dd_Wr_writeNumber_21 (by decide) ?_
          refine lv_iload_n hx hb dd_Wr_writeNumber_2 rfl (lv_at hl 0 rfl) ?_
          refine lv_iconst (v := nI 4) hx hb dd_Wr_writeNumber_3 (by decide) ?_
          refine lv_icmp_ge (tgt := 24) hx hb dd_Wr_writeNumber_4 (by decide) (fun h4 => ?_) (fun h4 => ?_)
          ·
            rw [nI_leI (by omega) (by omega)] at h4
            omega
          ·
            rw [nI_leI (by omega) (by omega)] at h4
            refine lv_iload_n hx hb dd_Wr_writeNumber_7 rfl (lv_at hl 2 rfl) ?_
            refine lv_bipush (v := nI 8) hx hb dd_Wr_writeNumber_8 (by decide) ?_
            refine lv_iload_n hx hb dd_Wr_writeNumber_10 rfl (lv_at hl 0 rfl) ?_
            refine lv_imul hx hb dd_Wr_writeNumber_11 ?_
            refine mw_topi (y := nI (8 * (1 + 1 + 1))) (pk_mul _ _) ?_
            refine lv_iconst (v := nI 1) hx hb dd_Wr_writeNumber_12 (by decide) ?_
            refine lv_isub hx hb dd_Wr_writeNumber_13 ?_
            refine mw_topi (y := nI ((8 * (1 + 1 + 1)) - 1)) (pk_sub (by omega)) ?_
            refine mw_topi (y := nI 23) (by decide) ?_
            refine lv_iushr (v := ((nI v0).toUInt32 >>> ((nI 23).toUInt32 &&& Int32.toUInt32 31)).toInt32) hx hb dd_Wr_writeNumber_14 rfl ?_
            refine mw_topi (y := nI (v0 / 2 ^ 23)) (pk_ushrN (by omega) _ 23 (by decide)) ?_
            refine lv_if_eq (tgt := 24) hx hb dd_Wr_writeNumber_15 (by decide) (fun h15 => ?_) (fun h15 => ?_)
            ·
              have e23 := (nI_eq (b := 0) (by omega) (by decide)).mp h15
              exact join24 trivial s.heap [] ls trivial hM hS (by rw [nm_s_3 e15 e23]; exact (lv_sub hl [0, 1, 2] rfl))
            ·
              have e23 : v0 / 2 ^ 23 ≠ 0 := fun q => h15 (by rw [q]; rfl)
              refine lv_iinc (k := 0) (v := nI (1 + 1 + 1 + 1)) (lv' := [(2, .int (nI (1 + 1 + 1 + 1))), (0, .ref wt), (1, .int (nI v0))]) hx hb dd_Wr_writeNumber_18 hl rfl (nI_1 _) (by decide) rfl (fun ls hl => ?_)
              refine lv_goto (tgt := 2) hx hb dd_Wr_writeNumber_21 (by decide) ?_
              refine lv_iload_n hx hb dd_Wr_writeNumber_2 rfl (lv_at hl 0 rfl) ?_
              refine lv_iconst (v := nI 4) hx hb dd_Wr_writeNumber_3 (by decide) ?_
              refine lv_icmp_ge (tgt := 24) hx hb dd_Wr_writeNumber_4 (by decide) (fun h4 => ?_) (fun h4 => ?_)
              ·
                rw [nI_leI (by omega) (by omega)] at h4
                exact join24 trivial s.heap [] ls trivial hM hS (by rw [nm_s_4 e23]; exact (lv_sub hl [0, 1, 2] rfl))
              ·
                rw [nI_leI (by omega) (by omega)] at h4
                omega
theorem cc_Id_writeTo (l : Launch) (D : va_G) (z : Nat) (M : mw_M) (d t le de ic : Nat) (Ln Dn : Nat → Nat) (G : Nat → Nat → Nat) (y r i : Nat) (L : List Nat) (hI : id_at D M d t le de ic Ln Dn G) (hO : id_ok ic Ln Dn G) (hbw : bw_at D M y r L) (hl50 : L.length ≤ 50) (hi : i < ic) (hrb : ∀ j : Nat, j < 12 → t + 1 + j ≠ r) (hlr : le ≠ r) (hdr : de ≠ r) : mw_C l yy_Id_writeTo bb_Id_writeTo 4 (Option.none : Option Jvm.ClassFile.FieldType) 1 21 0 0 D z M [.ref d, .ref y, .int (nI i)] (fun v M' => v = none ∧ bw_at D M' y r (L ++ [Ln i] ++ id_tx Ln G i) ∧ mw_fr (fun q => q = y ∨ q = r) M M') := by
  refine mw_of (by decide) (Nat.le_of_ble_eq_true rfl) ?_
  intro p e s m below meth c ls E hr hk hnm hM hl
  have hx := E.x
  have hb := E.b
  have E : mw_E p m c bb_Id_writeTo 4 s _ D z "IdentityIssuer$Ids" := E
  have hl : lv_has ls 4 [(0, .ref d), (1, .ref y), (2, .int (nI i))] := hl
  have hS : va_S (mw_A z) s.heap s.heap [] := va_S.rf
  have hF : mw_fr (fun q => q = y ∨ q = r) M M := mw_fr.rf
  obtain ⟨f9, wy, -⟩ := id hbw
  obtain ⟨hic, hO⟩ := hO
  obtain ⟨o1, o2, o3, o4, o5⟩ := hO i hi
  obtain ⟨o, fl, fd, T, wd, wt, ho, wl, we, hrow, hjj, hld, hrd⟩ := id hI
  obtain ⟨j1, j2, j3⟩ := hjj i hi
  refine lv_aload_n hx hb dd_Id_writeTo_0 rfl (lv_at hl 1 rfl) ?_
  refine lv_aload_n hx hb dd_Id_writeTo_1 rfl (lv_at hl 0 rfl) ?_
  refine gf_Id_16 E hM wd rfl dd_Id_writeTo_2 ?_
  refine lv_iload_n hx hb dd_Id_writeTo_5 rfl (lv_at hl 2 rfl) ?_
  refine mw_iald hx hb E.K hM 0 wl rfl (vp_in_nI (by omega) (by omega)) dd_Id_writeTo_6 ?_
  refine mw_topi (y := fl i) (by rw [nI_clamp (by omega)]) ?_
  refine mw_topi (y := nI (Ln i)) (j1) ?_
  refine mw_V (As := [.int (nI (Ln i))]) (rest := []) E (bw_app (c := Ln i) l D z (M) hbw (by omega)) ky_By_append kv_By_append tw_Id_74 hM hS wy rfl rfl rfl hl.1 rfl (Nat.le_of_ble_eq_true rfl) dd_Id_writeTo_7 (by first | decide | exact ⟨by dsimp only; omega, by dsimp only; omega⟩) (by decide) (fun v M1 H locs hp hM hS => ?_)
  obtain ⟨rfl, hbw2, hF2⟩ := hp
  have hbo := hbw
  obtain ⟨f8, wy8, wr8, -⟩ := id hbo
  have hI := hI.fr hF2 (hbo.ne wd (by decide)) (fun q => q.elim (mw_ne wt wy8 (fun q => by cases q)) (mw_neQ wt wr8)) (fun q => q.elim (mw_ne wl wy8 (fun q => by cases q)) hlr) (fun q => q.elim (mw_ne we wy8 (fun q => by cases q)) hdr) (fun j hj q => q.elim (mw_ne (hrow j hj) wy8 (fun q => by cases q)) (hrb j hj))
  have hbw := hbw2
  have hF := hF.trans hF2
  refine W.eq (g2 := F0 m 10 ls []) rfl ?_
  refine lv_iconst (v := nI 0) hx hb dd_Id_writeTo_10 (by decide) ?_
  refine lv_istore_n (lv' := [(3, .int (nI 0)), (0, .ref d), (1, .ref y), (2, .int (nI i))]) hx hb dd_Id_writeTo_11 rfl hl (by decide) rfl (fun ls hl => ?_)
  have loop12 : ∀ (d9 : Nat) (p0 : Nat) (L1 : List Nat) (M1 : mw_M) (H : Heap) (locs : List Loc) (ls : Array Slot), p0 + d9 = Ln i → L1 = L ++ [Ln i] ++ (List.range p0).map (G i) → id_at D M1 d t le de ic Ln Dn G → bw_at D M1 y r L1 → mw_fr (fun q => q = y ∨ q = r) M M1 → mw_at D mg_cl z M1 H → va_S (mw_A z) s.heap H locs → lv_has ls 4 [(3, .int (nI p0)), (0, .ref d), (1, .ref y), (2, .int (nI i))] → W p l e ({ frames := 1, cells := 0, slots := 0, locals := 21 } : Room) s m ([.ref d, .ref y, .int (nI i)] : List Value).toArray below meth c H locs (0) (0) (MQ below (mw_Q D z (fun v M' => v = none ∧ bw_at D M' y r (L ++ [Ln i] ++ id_tx Ln G i) ∧ mw_fr (fun q => q = y ∨ q = r) M M')) ([.ref d, .ref y, .int (nI i)] : List Value).toArray s 0 0 (mw_A z)) (F0 m 12 ls []) := by
    intro d9
    induction d9 with
    | zero =>
      intro p0 L1 M1 H locs ls hp0 hLL hI hbw hF hM hS hl
      obtain ⟨f9, wy, -⟩ := id hbw
      obtain ⟨o, fl, fd, T, wd, wt, ho, wl, we, hrow, hjj, hld, hrd⟩ := id hI
      obtain ⟨j1, j2, j3⟩ := hjj i hi
      have hll : L1.length = L.length + 1 + p0 := by rw [hLL, List.length_append, List.length_append, List.length_map, List.length_range]; rfl
      refine lv_iload_n hx hb dd_Id_writeTo_12 rfl (lv_at hl 0 rfl) ?_
      refine lv_aload_n hx hb dd_Id_writeTo_13 rfl (lv_at hl 1 rfl) ?_
      refine gf_Id_16 E hM wd rfl dd_Id_writeTo_14 ?_
      refine lv_iload_n hx hb dd_Id_writeTo_17 rfl (lv_at hl 3 rfl) ?_
      refine mw_iald hx hb E.K hM 0 wl rfl (vp_in_nI (by omega) (by omega)) dd_Id_writeTo_18 ?_
      refine mw_topi (y := fl i) (by rw [nI_clamp (by omega)]) ?_
      refine mw_topi (y := nI (Ln i)) (j1) ?_
      refine lv_icmp_ge (tgt := 40) hx hb dd_Id_writeTo_19 (by decide) (fun h19 => ?_) (fun h19 => ?_)
      ·
        rw [nI_leI (by omega) (by omega)] at h19
        refine mr_v E hr hk hM hS (by decide) (by decide) ?_ dd_Id_writeTo_40
        rw [hLL, show p0 = Ln i by omega] at hbw
        exact ⟨rfl, hbw, hF⟩
      ·
        rw [nI_leI (by omega) (by omega)] at h19
        omega
    | succ d9 ih =>
      intro p0 L1 M1 H locs ls hp0 hLL hI hbw hF hM hS hl
      obtain ⟨f9, wy, -⟩ := id hbw
      obtain ⟨o, fl, fd, T, wd, wt, ho, wl, we, hrow, hjj, hld, hrd⟩ := id hI
      obtain ⟨j1, j2, j3⟩ := hjj i hi
      have hll : L1.length = L.length + 1 + p0 := by rw [hLL, List.length_append, List.length_append, List.length_map, List.length_range]; rfl
      refine lv_iload_n hx hb dd_Id_writeTo_12 rfl (lv_at hl 0 rfl) ?_
      refine lv_aload_n hx hb dd_Id_writeTo_13 rfl (lv_at hl 1 rfl) ?_
      refine gf_Id_16 E hM wd rfl dd_Id_writeTo_14 ?_
      refine lv_iload_n hx hb dd_Id_writeTo_17 rfl (lv_at hl 3 rfl) ?_
      refine mw_iald hx hb E.K hM 0 wl rfl (vp_in_nI (by omega) (by omega)) dd_Id_writeTo_18 ?_
      refine mw_topi (y := fl i) (by rw [nI_clamp (by omega)]) ?_
      refine mw_topi (y := nI (Ln i)) (j1) ?_
      refine lv_icmp_ge (tgt := 40) hx hb dd_Id_writeTo_19 (by decide) (fun h19 => ?_) (fun h19 => ?_)
      ·
        rw [nI_leI (by omega) (by omega)] at h19
        omega
      ·
        rw [nI_leI (by omega) (by omega)] at h19
        refine lv_aload_n hx hb dd_Id_writeTo_22 rfl (lv_at hl 2 rfl) ?_
        refine lv_aload_n hx hb dd_Id_writeTo_23 rfl (lv_at hl 1 rfl) ?_
        refine gf_Id_13 E hM wd rfl dd_Id_writeTo_24 ?_
        refine lv_iload_n hx hb dd_Id_writeTo_27 rfl (lv_at hl 3 rfl) ?_
        refine mw_ald2 hx hb E.K hM 4 wt rfl (vp_in_nI (by omega) (by omega)) dd_Id_writeTo_28 ?_
        rw [nI_clamp (by omega)]
        rw [ho i (by omega)]
        refine W.eq (g2 := F0 m 29 ls [.ref (t + 1 + i), .ref y]) rfl ?_
        have hr9 := hrow i (by omega)
        refine lv_iload_n hx hb dd_Id_writeTo_29 rfl (lv_at hl 0 rfl) ?_
        refine mw_iald hx hb E.K hM 0 hr9 rfl (vp_in_nI (by omega) (by omega)) dd_Id_writeTo_30 ?_
        refine mw_topi (y := (T i) p0) (by rw [nI_clamp (by omega)]) ?_
        refine mw_topi (y := nI (G i p0)) (j3 p0 (by omega)) ?_
        refine mw_V (As := [.int (nI (G i p0))]) (rest := []) E (bw_app (c := G i p0) l D z (M1) hbw (by omega)) ky_By_append kv_By_append tw_Id_74 hM hS wy rfl rfl rfl hl.1 rfl (Nat.le_of_ble_eq_true rfl) dd_Id_writeTo_31 (by first | decide | exact ⟨by dsimp only; omega, by dsimp only; omega⟩) (by decide) (fun v M1 H locs hp hM hS => ?_)
        obtain ⟨rfl, hbw2, hF2⟩ := hp
        have hbo := hbw
        obtain ⟨f8, wy8, wr8, -⟩ := id hbo
        have hI := hI.fr hF2 (hbo.ne wd (by decide)) (fun q => q.elim (mw_ne wt wy8 (fun q => by cases q)) (mw_neQ wt wr8)) (fun q => q.elim (mw_ne wl wy8 (fun q => by cases q)) hlr) (fun q => q.elim (mw_ne we wy8 (fun q => by cases q)) hdr) (fun j hj q => q.elim (mw_ne (hrow j hj) wy8 (fun q => by cases q)) (hrb j hj))
        have hbw := hbw2
        have hF := hF.trans hF2
        refine W.eq (g2 := F0 m 34 ls []) rfl ?_
        refine lv_iinc (k := 0) (v := nI (p0 + 1)) (lv' := [(3, .int (nI (p0 + 1))), (0, .ref d), (1, .ref y), (2, .int (nI i))]) hx hb dd_Id_writeTo_34 hl rfl (nI_1 _) (by decide) rfl (fun ls hl => ?_)
        refine lv_goto (tgt := 12) hx hb dd_Id_writeTo_37 (by decide) ?_
        exact ih (p0 + 1) _ M1 H locs ls (by omega) (by rw [hLL, List.range_succ, List.map_append, List.append_assoc (L ++ [Ln i])]; rfl) hI hbw hF hM hS (lv_sub hl [0, 1, 2, 3] rfl)
  exact loop12 (Ln i) 0 (L ++ [Ln i]) M1 H locs ls (by omega) (List.append_nil _).symm hI hbw hF hM hS (lv_sub hl [0, 1, 2, 3] rfl)
