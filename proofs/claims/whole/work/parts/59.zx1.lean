/-! the class: writing a certificate, or reading what was written -/
theorem cc_Wr_write_c (l : Launch) (D : va_G) (z : Nat) (M : mw_M) (wt y r cc en xi q1 : Nat) (q2 q3 q4 : Int32) (ww : M wt = some (.inr (7, [.ref y, .int (nI q1)]))) (wc : M cc = some (.inr (11, [.ref en, .int (nI q1), .int q2, .int q3, .int q4]))) : mw_C l yy_Wr_write bb_Wr_write 4 (Option.some (Jvm.ClassFile.FieldType.object "IdentityIssuer$Bytes")) 0 0 0 0 D z M [.ref wt, .ref cc, .ref xi] (fun v M' => v = some (.ref y) ∧ M' = M) := by
  refine mw_of (by decide) (Nat.le_of_ble_eq_true rfl) ?_
  intro p e s m below meth c ls E hr hk hnm hM hl
  have hx := E.x
  have hb := E.b
  have E : mw_E p m c bb_Wr_write 4 s _ D z "IdentityIssuer$Writer" := E
  have hl : lv_has ls 4 [(0, .ref wt), (1, .ref cc), (2, .ref xi)] := hl
  have hS : va_S (mw_A z) s.heap s.heap [] := va_S.rf
  refine lv_aload_n hx hb dd_Wr_write_0 rfl (lv_at hl 1 rfl) ?_
  refine gf_Wr_18 E hM wc rfl dd_Wr_write_1 ?_
  refine lv_aload_n hx hb dd_Wr_write_4 rfl (lv_at hl 0 rfl) ?_
  refine gf_Wr_24 E hM ww rfl dd_Wr_write_5 ?_
  refine lv_icmp_eq (tgt := 96) hx hb dd_Wr_write_8 (by decide) (fun h8 => ?_) (fun h8 => ?_)
  ·
    refine lv_aload_n hx hb dd_Wr_write_96 rfl (lv_at hl 0 rfl) ?_
    refine gf_Wr_12 E hM ww rfl dd_Wr_write_97 ?_
    refine mr_a E hr hk (Or.inl ⟨_, rfl⟩) (Or.inr ⟨_, rfl⟩) hM hS (by decide) (by decide) ?_ dd_Wr_write_100
    exact ⟨rfl, rfl⟩
  ·
    exact absurd rfl h8
theorem id_tx_lt {Ln : Nat → Nat} {G : Nat → Nat → Nat} {i : Nat} (h : ∀ q : Nat, q < Ln i → G i q < 256) : ∀ c : Nat, c ∈ id_tx Ln G i → c < 256 := fun c hc => by
  unfold id_tx at hc
  obtain ⟨j, h1, rfl⟩ := List.mem_map.mp hc
  exact h j (List.mem_range.mp h1)
theorem ec_sum_lt (L : List Nat) : ec_sum L < 1000000007 := by
  unfold ec_sum
  have : ∀ (K : List Nat) (h : Nat), h < 1000000007 → K.foldl (fun h b => (h * 257 + b + 1) % 1000000007) h < 1000000007 := by
    intro K
    induction K with
    | nil => exact fun h hh => hh
    | cons b K ih => exact fun h hh => ih _ (Nat.mod_lt _ (by decide))
  exact this _ 1 (by decide)
theorem ec_0_lt {q1 q2 q3 q4 : Nat} {tx : List Nat} (h : ∀ c : Nat, c ∈ tx → c < 256) (hl : tx.length ≤ 40) : ∀ c : Nat, c ∈ ec_0 q1 q2 q3 q4 tx → c < 256 := by
  intro c hc
  unfold ec_0 at hc
  simp only [List.mem_append] at hc
  have hs : ∀ K : List Nat, (∀ x : Nat, x ∈ K → x < 256) → c ∈ K → c < 256 := fun K h1 h2 => h1 c h2
  rcases hc with ((((((((hc | hc) | hc) | hc) | hc) | hc) | hc) | hc) | hc)
  · exact hs [48, 0, 48, 0] (by decide) hc
  · exact nm_l_lt hc
  · exact nm_l_lt hc
  · exact nm_l_lt hc
  · exact nm_l_lt hc
  · exact hs [134] (by decide) hc
  · rw [List.mem_singleton.mp hc]
    omega
  · exact h c hc
  · exact hs [3, 2, 7, 128] (by decide) hc
theorem ec_1_lt {q1 q2 q3 q4 : Nat} {tx : List Nat} (h : ∀ c : Nat, c ∈ tx → c < 256) (hl : tx.length ≤ 40) : ∀ c : Nat, c ∈ ec_1 q1 q2 q3 q4 tx → c < 256 := by
  intro c hc
  unfold ec_1 at hc
  have hle := ec_0_len (q1 := q1) (q2 := q2) (q3 := q3) (q4 := q4) hl
  rcases List.mem_or_eq_of_mem_set hc with h1 | h1
  · exact ec_0_lt h hl c h1
  · omega
theorem cc_Wr_write_n (l : Launch) (D : va_G) (z : Nat) (M : mw_M) (wt y r cc en q1 q2 q3 q4 i0 t le de ic xi : Nat) (ws e_n e_p e_s e_t e_f : Int32) (Ln Dn : Nat → Nat) (G : Nat → Nat → Nat) (L0 : List Nat) (ww : M wt = some (.inr (7, [.ref y, .int (ws)]))) (hbw : bw_at D M y r L0) (wc : M cc = some (.inr (11, [.ref en, .int (nI q1), .int (nI q2), .int (nI q3), .int (nI q4)]))) (wn : M en = some (.inr (9, [.int (e_n), .int (nI i0), .int (e_p), .int (e_s), .int (e_t), .int (e_f)]))) (hI : id_at D M xi t le de ic Ln Dn G) (hO : id_ok ic Ln Dn G) (hi0 : i0 < ic) (hqb : q1 < 2 ^ 31 ∧ q2 < 2 ^ 31 ∧ q3 < 2 ^ 31 ∧ q4 < 2 ^ 31) (hrb : ∀ j : Nat, j < 12 → t + 1 + j ≠ r) (hlr : le ≠ r) (hdr : de ≠ r) (hws : ws ≠ nI q1) : mw_C l yy_Wr_write bb_Wr_write 4 (Option.some (Jvm.ClassFile.FieldType.object "IdentityIssuer$Bytes")) 3 67 0 0 D z M [.ref wt, .ref cc, .ref xi] (fun v M' => v = some (.ref y) ∧ M' wt = some (.inr (7, [.ref y, .int (nI q1)])) ∧ bw_at D M' y r (ec_3 q1 q2 q3 q4 (id_tx Ln G i0)) ∧ mw_fr (fun q => q = wt ∨ q = y ∨ q = r) M M') := by
  refine mw_of (by decide) (Nat.le_of_ble_eq_true rfl) ?_
  intro p e s m below meth c ls E hr hk hnm hM hl
  have hx := E.x
  have hb := E.b
  have E : mw_E p m c bb_Wr_write 4 s _ D z "IdentityIssuer$Writer" := E
  have hl : lv_has ls 4 [(0, .ref wt), (1, .ref cc), (2, .ref xi)] := hl
  have hS : va_S (mw_A z) s.heap s.heap [] := va_S.rf
  have hF : mw_fr (fun q => q = wt ∨ q = y ∨ q = r) M M := mw_fr.rf
  obtain ⟨f9, wy, -⟩ := id hbw
  have hic := hO.1
  obtain ⟨o1, o2, o3, o4, o5⟩ := hO.2 i0 hi0
  obtain ⟨o9, fl9, fd9, T9, wd9, wt9, -, wl9, we9, hrow9, -⟩ := id hI
  have htl : (id_tx Ln G i0).length = Ln i0 := by unfold id_tx; rw [List.length_map, List.length_range]
  have hel := ec_0_len (q1 := q1) (q2 := q2) (q3 := q3) (q4 := q4) (tx := id_tx Ln G i0) (by omega)
  refine lv_aload_n hx hb dd_Wr_write_0 rfl (lv_at hl 1 rfl) ?_
  refine gf_Wr_18 E hM wc rfl dd_Wr_write_1 ?_
  refine lv_aload_n hx hb dd_Wr_write_4 rfl (lv_at hl 0 rfl) ?_
  refine gf_Wr_24 E hM ww rfl dd_Wr_write_5 ?_
  refine lv_icmp_eq (tgt := 96) hx hb dd_Wr_write_8 (by decide) (fun h8 => ?_) (fun h8 => ?_)
  ·
    exact absurd h8.symm hws
  ·
    refine lv_aload_n hx hb dd_Wr_write_11 rfl (lv_at hl 0 rfl) ?_
    refine lv_aload_n hx hb dd_Wr_write_12 rfl (lv_at hl 1 rfl) ?_
    refine gf_Wr_18 E hM wc rfl dd_Wr_write_13 ?_
    have ww8 := ww
    have hbw8 := hbw
    have hI8 := hI
    refine pf_Wr_24 E hM hS ww (Nat.le_of_ble_eq_true rfl) dd_Wr_write_16 (fun H locs hM hS => ?_)
    have hM : mw_at D mg_cl z (va_up M wt (some (.inr (7, [.ref y, .int (nI q1)])))) H := hM
    obtain ⟨M1, hM1⟩ : ∃ M9 : mw_M, M9 = va_up M wt (some (.inr (7, [.ref y, .int (nI q1)]))) := ⟨_, rfl⟩
    rw [← hM1] at hM
    have wc := mw_uu hM1 wc (mw_ne wc ww (fun q => by cases q))
    have wn := mw_uu hM1 wn (mw_ne wn ww (fun q => by cases q))
    have wy := mw_uu hM1 wy (mw_ne wy ww (fun q => by cases q))
    have wd9 := mw_uu hM1 wd9 (mw_ne wd9 ww (fun q => by cases q))
    have ww := mw_us hM1
    have hF := mw_fu hM1 hF (Or.inl rfl)
    obtain ⟨fa, wya, wra, hla⟩ := id hbw8
    have hbw : bw_at D M1 y r L0 := ⟨fa, mw_uu hM1 wya (mw_ne wya ww8 (fun q => by cases q)), mw_uu hM1 wra (mw_ne wra ww8 (fun q => by cases q)), hla⟩
    have hI := hI8.fr1 (mw_fu hM1 mw_fr.rf (P := fun q => q = wt) rfl) ww8 (by decide)
    obtain ⟨o9, fl9, fd9, T9, wd9, wt9, -, wl9, we9, hrow9, -⟩ := id hI
    refine lv_aload_n hx hb dd_Wr_write_19 rfl (lv_at hl 0 rfl) ?_
    refine gf_Wr_12 E hM ww rfl dd_Wr_write_20 ?_
    refine mw_V (As := []) (rest := []) E (bw_clr l D z (M1) hbw) ky_By_clear kv_By_clear tw_Wr_27 hM hS wy rfl rfl rfl hl.1 rfl (Nat.le_of_ble_eq_true rfl) dd_Wr_write_23 (by first | decide | exact ⟨by dsimp only; omega, by dsimp only; omega⟩) (by decide) (fun v M1 H locs hp hM hS => ?_)
    obtain ⟨rfl, hbw2, hF2⟩ := hp
    have hbo := hbw
    obtain ⟨f8, wy8, wr8, -⟩ := id hbo
    have hI := hI.fr hF2 (hbo.ne wd9 (by decide)) (fun q => q.elim (mw_ne wt9 wy8 (fun q => by cases q)) (mw_neQ wt9 wr8)) (fun q => q.elim (mw_ne wl9 wy8 (fun q => by cases q)) hlr) (fun q => q.elim (mw_ne we9 wy8 (fun q => by cases q)) hdr) (fun j hj q => q.elim (mw_ne (hrow9 j hj) wy8 (fun q => by cases q)) (hrb j hj))
    obtain ⟨o9, fl9, fd9, T9, wd9, wt9, -, wl9, we9, hrow9, -⟩ := id hI
    have ww := hF2.at ww (hbo.ne ww (by decide))
    have wc := hF2.at wc (hbo.ne wc (by decide))
    have wn := hF2.at wn (hbo.ne wn (by decide))
    obtain ⟨K1, hK1⟩ : ∃ L9 : List Nat, L9 = ([] : List Nat) := ⟨_, rfl⟩
    have hnK1 : K1.length = 0 := by rw [hK1]; rfl
    have hbw := hbw2
    rw [← hK1] at hbw
    obtain ⟨f9, wy, -⟩ := id hbw
    have hF := hF.tr2 hF2 (fun q h => Or.inl (Or.inr h))
    refine W.eq (g2 := F0 m 26 ls []) rfl ?_
    refine lv_aload_n hx hb dd_Wr_write_26 rfl (lv_at hl 0 rfl) ?_
    refine gf_Wr_12 E hM ww rfl dd_Wr_write_27 ?_
    refine lv_bipush (v := nI 48) hx hb dd_Wr_write_30 (by decide) ?_
    refine mw_V (As := [.int (nI 48)]) (rest := []) E (bw_app (c := 48) l D z (M1) hbw (by omega)) ky_By_append kv_By_append tw_Wr_30 hM hS wy rfl rfl rfl hl.1 rfl (Nat.le_of_ble_eq_true rfl) dd_Wr_write_32 (by first | decide | exact ⟨by dsimp only; omega, by dsimp only; omega⟩) (by decide) (fun v M1 H locs hp hM hS => ?_)
    obtain ⟨rfl, hbw2, hF2⟩ := hp
    have hbo := hbw
    obtain ⟨f8, wy8, wr8, -⟩ := id hbo
    have hI := hI.fr hF2 (hbo.ne wd9 (by decide)) (fun q => q.elim (mw_ne wt9 wy8 (fun q => by cases q)) (mw_neQ wt9 wr8)) (fun q => q.elim (mw_ne wl9 wy8 (fun q => by cases q)) hlr) (fun q => q.elim (mw_ne we9 wy8 (fun q => by cases q)) hdr) (fun j hj q => q.elim (mw_ne (hrow9 j hj) wy8 (fun q => by cases q)) (hrb j hj))
    obtain ⟨o9, fl9, fd9, T9, wd9, wt9, -, wl9, we9, hrow9, -⟩ := id hI
    have ww := hF2.at ww (hbo.ne ww (by decide))
    have wc := hF2.at wc (hbo.ne wc (by decide))
    have wn := hF2.at wn (hbo.ne wn (by decide))
    obtain ⟨K2, hK2⟩ : ∃ L9 : List Nat, L9 = K1 ++ [48] := ⟨_, rfl⟩
    have hnK2 : K2.length = K1.length + 1 := by rw [hK2]; rw [List.length_append]; rfl
    have hbw := hbw2
    rw [← hK2] at hbw
    obtain ⟨f9, wy, -⟩ := id hbw
    have hF := hF.tr2 hF2 (fun q h => Or.inl (Or.inr h))
    refine W.eq (g2 := F0 m 35 ls []) rfl ?_
    refine lv_aload_n hx hb dd_Wr_write_35 rfl (lv_at hl 0 rfl) ?_
    refine gf_Wr_12 E hM ww rfl dd_Wr_write_36 ?_
    refine lv_iconst (v := nI 0) hx hb dd_Wr_write_39 (by decide) ?_
    refine mw_V (As := [.int (nI 0)]) (rest := []) E (bw_app (c := 0) l D z (M1) hbw (by omega)) ky_By_append kv_By_append tw_Wr_30 hM hS wy rfl rfl rfl hl.1 rfl (Nat.le_of_ble_eq_true rfl) dd_Wr_write_40 (by first | decide | exact ⟨by dsimp only; omega, by dsimp only; omega⟩) (by decide) (fun v M1 H locs hp hM hS => ?_)
    obtain ⟨rfl, hbw2, hF2⟩ := hp
    have hbo := hbw
    obtain ⟨f8, wy8, wr8, -⟩ := id hbo
    have hI := hI.fr hF2 (hbo.ne wd9 (by decide)) (fun q => q.elim (mw_ne wt9 wy8 (fun q => by cases q)) (mw_neQ wt9 wr8)) (fun q => q.elim (mw_ne wl9 wy8 (fun q => by cases q)) hlr) (fun q => q.elim (mw_ne we9 wy8 (fun q => by cases q)) hdr) (fun j hj q => q.elim (mw_ne (hrow9 j hj) wy8 (fun q => by cases q)) (hrb j hj))
    obtain ⟨o9, fl9, fd9, T9, wd9, wt9, -, wl9, we9, hrow9, -⟩ := id hI
    have ww := hF2.at ww (hbo.ne ww (by decide))
    have wc := hF2.at wc (hbo.ne wc (by decide))
    have wn := hF2.at wn (hbo.ne wn (by decide))
    obtain ⟨K3, hK3⟩ : ∃ L9 : List Nat, L9 = K2 ++ [0] := ⟨_, rfl⟩
    have hnK3 : K3.length = K2.length + 1 := by rw [hK3]; rw [List.length_append]; rfl
    have hbw := hbw2
    rw [← hK3] at hbw
    obtain ⟨f9, wy, -⟩ := id hbw
    have hF := hF.tr2 hF2 (fun q h => Or.inl (Or.inr h))
    refine W.eq (g2 := F0 m 43 ls []) rfl ?_
    refine lv_aload_n hx hb dd_Wr_write_43 rfl (lv_at hl 0 rfl) ?_
    refine lv_aload_n hx hb dd_Wr_write_44 rfl (lv_at hl 1 rfl) ?_
    refine lv_aload_n hx hb dd_Wr_write_45 rfl (lv_at hl 2 rfl) ?_
    have e48 : K3 = [48, 0] := by rw [hK3, hK2, hK1]; rfl
    rw [e48] at hbw
    refine mw_V (As := [.ref cc, .ref xi]) (rest := []) E (cc_Wr_writeBody l D z (M1) wt y r cc en q1 q2 q3 q4 i0 t le de ic xi (nI q1) e_n e_p e_s e_t e_f Ln Dn G ww hbw wc wn hI hO hi0 hqb hrb hlr hdr) ky_Wr_writeBody kv_Wr_writeBody tw_Wr_34 hM hS ww rfl rfl rfl hl.1 rfl (Nat.le_of_ble_eq_true rfl) dd_Wr_write_46 (by first | decide | exact ⟨by dsimp only; omega, by dsimp only; omega⟩) (by decide) (fun v M1 H locs hp hM hS => ?_)
    obtain ⟨rfl, hbw2, hF2⟩ := hp
    have hbo := hbw
    obtain ⟨f8, wy8, wr8, -⟩ := id hbo
    have hI := hI.fr hF2 (hbo.ne wd9 (by decide)) (fun q => q.elim (mw_ne wt9 wy8 (fun q => by cases q)) (mw_neQ wt9 wr8)) (fun q => q.elim (mw_ne wl9 wy8 (fun q => by cases q)) hlr) (fun q => q.elim (mw_ne we9 wy8 (fun q => by cases q)) hdr) (fun j hj q => q.elim (mw_ne (hrow9 j hj) wy8 (fun q => by cases q)) (hrb j hj))
    obtain ⟨o9, fl9, fd9, T9, wd9, wt9, -, wl9, we9, hrow9, -⟩ := id hI
    have ww := hF2.at ww (hbo.ne ww (by decide))
    have wc := hF2.at wc (hbo.ne wc (by decide))
    have wn := hF2.at wn (hbo.ne wn (by decide))
    obtain ⟨K4, hK4⟩ : ∃ L9 : List Nat, L9 = ec_1 q1 q2 q3 q4 (id_tx Ln G i0) := ⟨_, rfl⟩
    have hnK4 : K4.length = (ec_1 q1 q2 q3 q4 (id_tx Ln G i0)).length := by rw [hK4]; first | done | rfl
    have hbw := hbw2
    rw [← hK4] at hbw
    obtain ⟨f9, wy, -⟩ := id hbw
    have hF := hF.tr2 hF2 (fun q h => Or.inl (Or.inr h))
    have hl1 : (ec_1 q1 q2 q3 q4 (id_tx Ln G i0)).length = (ec_0 q1 q2 q3 q4 (id_tx Ln G i0)).length := List.length_set
    refine W.eq (g2 := F0 m 49 ls []) rfl ?_
    refine lv_aload_n hx hb dd_Wr_write_49 rfl (lv_at hl 0 rfl) ?_
    refine gf_Wr_12 E hM ww rfl dd_Wr_write_50 ?_
    refine lv_iconst (v := nI 2) hx hb dd_Wr_write_53 (by decide) ?_
    refine lv_aload_n hx hb dd_Wr_write_54 rfl (lv_at hl 0 rfl) ?_
    refine gf_Wr_12 E hM ww rfl dd_Wr_write_55 ?_
    obtain ⟨n9, hn9⟩ : ∃ n8 : Nat, n8 = K4.length := ⟨_, rfl⟩
    refine mw_V (As := []) (rest := [.int (nI 2), .ref y]) E (bw_len l D z (M1) hbw hn9.symm) ky_By_length kv_By_length tw_Wr_38 hM hS wy rfl rfl rfl hl.1 rfl (Nat.le_of_ble_eq_true rfl) dd_Wr_write_58 (by first | decide | exact ⟨by dsimp only; omega, by dsimp only; omega⟩) (by decide) (fun v M1 H locs hp hM hS => ?_)
    obtain ⟨rfl, hq⟩ := hp
    have hq := hq.symm
    subst hq
    refine W.eq (g2 := F0 m 61 ls [.int (nI n9), .int (nI 2), .ref y]) rfl ?_
    have hby : ∀ c : Nat, c ∈ K4 → c < 256 := by rw [hK4]; exact ec_1_lt (id_tx_lt o4) (by omega)
    refine mw_V (As := [.int (nI 2), .int (nI n9)]) (rest := []) E (bw_sum l D z (M1) hbw hn9.symm (by omega) hby) ky_By_sum kv_By_sum tw_Wr_42 hM hS wy rfl rfl rfl hl.1 rfl (Nat.le_of_ble_eq_true rfl) dd_Wr_write_61 (by first | decide | exact ⟨by dsimp only; omega, by dsimp only; omega⟩) (by decide) (fun v M1 H locs hp hM hS => ?_)
    obtain ⟨rfl, hq⟩ := hp
    have hq := hq.symm
    subst hq
    refine W.eq (g2 := F0 m 64 ls [.int (nI (ec_sum K4))]) rfl ?_
    have hsm : ec_sum K4 < 1000000007 := ec_sum_lt K4
    refine lv_istore_n (lv' := [(3, .int (nI (ec_sum K4))), (0, .ref wt), (1, .ref cc), (2, .ref xi)]) hx hb dd_Wr_write_64 rfl hl (by decide) rfl (fun ls hl => ?_)
    refine lv_aload_n hx hb dd_Wr_write_65 rfl (lv_at hl 1 rfl) ?_
    refine lv_iload_n hx hb dd_Wr_write_66 rfl (lv_at hl 0 rfl) ?_
    refine lv_aload_n hx hb dd_Wr_write_67 rfl (lv_at hl 2 rfl) ?_
    refine gf_Wr_46 E hM wc rfl dd_Wr_write_68 ?_
    have hmk := sk_lt q2
    refine mw_S (As := [.int (nI (ec_sum K4)), .int (nI q2)]) (rest := [.ref wt]) E (cc_Ky_signatureOf l D z (M1) (ec_sum K4) q2 (by omega) hqb.2.1) ky_Ky_signatureOf kv_Ky_signatureOf tw_Wr_49 hM hS rfl hl.1 rfl (Nat.le_of_ble_eq_true rfl) dd_Wr_write_71 (by first | decide | exact ⟨by dsimp only; omega, by dsimp only; omega⟩) (by decide) (fun v M1 H locs hp hM hS => ?_)
    obtain ⟨rfl, hq⟩ := hp
    have hq := hq.symm
    subst hq
    refine W.eq (g2 := F0 m 74 ls [.int (nI (pw_n (sk_m q2) 31 (sk_s q2) (ec_sum K4 % sk_m q2) 1)), .ref wt]) rfl ?_
    have hpl := pw_lt (show 1 < sk_m q2 by omega) 31 (sk_s q2) (ec_sum K4 % sk_m q2) 1 (by omega)
    refine mw_V (As := [.int (nI (pw_n (sk_m q2) 31 (sk_s q2) (ec_sum K4 % sk_m q2) 1))]) (rest := []) E (cc_Wr_writeNumber l D z (M1) wt y r (pw_n (sk_m q2) 31 (sk_s q2) (ec_sum K4 % sk_m q2) 1) (nI q1) K4 ww hbw (by omega) (by omega)) ky_Wr_writeNumber kv_Wr_writeNumber tw_Wr_54 hM hS ww rfl rfl rfl hl.1 rfl (Nat.le_of_ble_eq_true rfl) dd_Wr_write_74 (by first | decide | exact ⟨by dsimp only; omega, by dsimp only; omega⟩) (by decide) (fun v M1 H locs hp hM hS => ?_)
    obtain ⟨rfl, hbw2, hF2⟩ := hp
    have hnl := nm_l_len (pw_n (sk_m q2) 31 (sk_s q2) (ec_sum K4 % sk_m q2) 1)
    have hbo := hbw
    obtain ⟨f8, wy8, wr8, -⟩ := id hbo
    have hI := hI.fr hF2 (hbo.ne wd9 (by decide)) (fun q => q.elim (mw_ne wt9 wy8 (fun q => by cases q)) (mw_neQ wt9 wr8)) (fun q => q.elim (mw_ne wl9 wy8 (fun q => by cases q)) hlr) (fun q => q.elim (mw_ne we9 wy8 (fun q => by cases q)) hdr) (fun j hj q => q.elim (mw_ne (hrow9 j hj) wy8 (fun q => by cases q)) (hrb j hj))
    obtain ⟨o9, fl9, fd9, T9, wd9, wt9, -, wl9, we9, hrow9, -⟩ := id hI
    have ww := hF2.at ww (hbo.ne ww (by decide))
    have wc := hF2.at wc (hbo.ne wc (by decide))
    have wn := hF2.at wn (hbo.ne wn (by decide))
    obtain ⟨K5, hK5⟩ : ∃ L9 : List Nat, L9 = K4 ++ nm_l (pw_n (sk_m q2) 31 (sk_s q2) (ec_sum K4 % sk_m q2) 1) := ⟨_, rfl⟩
    have hnK5 : K5.length = K4.length + (nm_l (pw_n (sk_m q2) 31 (sk_s q2) (ec_sum K4 % sk_m q2) 1)).length := by rw [hK5]; rw [List.length_append]
    have hbw := hbw2
    rw [← hK5] at hbw
    obtain ⟨f9, wy, -⟩ := id hbw
    have hF := hF.tr2 hF2 (fun q h => Or.inl (Or.inr h))
    refine W.eq (g2 := F0 m 77 ls []) rfl ?_
    refine lv_aload_n hx hb dd_Wr_write_77 rfl (lv_at hl 1 rfl) ?_
    refine gf_Wr_12 E hM ww rfl dd_Wr_write_78 ?_
    refine lv_iconst (v := nI 1) hx hb dd_Wr_write_81 (by decide) ?_
    refine lv_aload_n hx hb dd_Wr_write_82 rfl (lv_at hl 1 rfl) ?_
    refine gf_Wr_12 E hM ww rfl dd_Wr_write_83 ?_
    obtain ⟨n9, hn9⟩ : ∃ n8 : Nat, n8 = K5.length := ⟨_, rfl⟩
    refine mw_V (As := []) (rest := [.int (nI 1), .ref y]) E (bw_len l D z (M1) hbw hn9.symm) ky_By_length kv_By_length tw_Wr_38 hM hS wy rfl rfl rfl hl.1 rfl (Nat.le_of_ble_eq_true rfl) dd_Wr_write_86 (by first | decide | exact ⟨by dsimp only; omega, by dsimp only; omega⟩) (by decide) (fun v M1 H locs hp hM hS => ?_)
    obtain ⟨rfl, hq⟩ := hp
    have hq := hq.symm
    subst hq
    refine W.eq (g2 := F0 m 89 ls [.int (nI n9), .int (nI 1), .ref y]) rfl ?_
    refine lv_iconst (v := nI 1) hx hb dd_Wr_write_89 (by decide) ?_
    refine lv_isub hx hb dd_Wr_write_90 ?_
    refine mw_topi (y := nI (n9 - 1)) (pk_sub (by omega)) ?_
    refine lv_iconst (v := nI 1) hx hb dd_Wr_write_91 (by decide) ?_
    refine lv_isub hx hb dd_Wr_write_92 ?_
    refine mw_topi (y := nI ((n9 - 1) - 1)) (pk_sub (by omega)) ?_
    refine mw_topi (y := nI (n9 - 2)) (congrArg nI (by omega)) ?_
    refine mw_V (As := [.int (nI 1), .int (nI (n9 - 2))]) (rest := []) E (bw_rep (j := 1) (c := n9 - 2) l D z (M1) hbw (by omega)) ky_By_replace kv_By_replace tw_Wr_57 hM hS wy rfl rfl rfl hl.1 rfl (Nat.le_of_ble_eq_true rfl) dd_Wr_write_93 (by first | decide | exact ⟨by dsimp only; omega, by dsimp only; omega⟩) (by decide) (fun v M1 H locs hp hM hS => ?_)
    obtain ⟨rfl, hbw2, hF2⟩ := hp
    have ww := hF2.at ww (hbw.ne ww (by decide))
    have hF := hF.tr2 hF2 (fun q h => Or.inl (Or.inr h))
    refine W.eq (g2 := F0 m 96 ls []) rfl ?_
    refine lv_aload_n hx hb dd_Wr_write_96 rfl (lv_at hl 1 rfl) ?_
    refine gf_Wr_12 E hM ww rfl dd_Wr_write_97 ?_
    refine mr_a E hr hk (Or.inl ⟨_, rfl⟩) (Or.inr ⟨_, rfl⟩) hM hS (by decide) (by decide) ?_ dd_Wr_write_100
    have hE : K5 = ec_2 q1 q2 q3 q4 (id_tx Ln G i0) := by rw [hK5, hK4]; rfl
    rw [hE] at hbw2
    rw [hE] at hn9
    unfold ec_3
    rw [← hn9]
    exact ⟨rfl, ww, hbw2, hF⟩
