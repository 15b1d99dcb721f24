/-! written, on both sides -/
def wr_ans (E : List Nat) (p : Int32) : Int32 := if xi_has E.length p = true then nI (E.getD p.toNatClampNeg 0) else -1001
theorem ec_3_lt {q1 q2 q3 q4 : Nat} {tx : List Nat} (h : ∀ c : Nat, c ∈ tx → c < 256) (hl : tx.length ≤ 40) : (∀ c : Nat, c ∈ ec_3 q1 q2 q3 q4 tx → c < 256) ∧ (ec_3 q1 q2 q3 q4 tx).length ≤ 100 := by
  have hle := ec_0_len (q1 := q1) (q2 := q2) (q3 := q3) (q4 := q4) hl
  have hn := nm_l_len (ec_sig q1 q2 q3 q4 tx)
  have h2 : (ec_2 q1 q2 q3 q4 tx).length ≤ 80 := by
    unfold ec_2 ec_1
    rw [List.length_append, List.length_set]
    omega
  refine ⟨fun c hc => ?_, by unfold ec_3; rw [List.length_set]; omega⟩
  unfold ec_3 at hc
  rcases List.mem_or_eq_of_mem_set hc with h1 | h1
  · unfold ec_2 at h1
    rcases List.mem_append.mp h1 with h1 | h1
    · exact ec_1_lt h hl c h1
    · exact nm_l_lt h1
  · omega
theorem wr_at {f : Nat → Int32} {E : List Nat} {p : Int32} (h : by_l f E) (hE : ∀ c : Nat, c ∈ E → c < 256) (hl : E.length ≤ 100) : wr_ans E p = if by_at f E.length p = -1 then -1001 else by_at f E.length p := by
  unfold wr_ans
  by_cases hp : xi_has E.length p = true
  · rw [if_pos hp]
    obtain ⟨j, hj, rfl⟩ := xi_has_of hp
    have hg := es_gd hj
    rw [by_at_nI (by omega) hj, h j _ hg, nI_clamp (by omega)]
    have := hE _ (List.mem_of_getElem? hg)
    rw [if_neg (fun q => nI_nm1 (by omega) q.symm)]
  · rw [if_neg hp]
    have e : by_at f E.length p = -1 := by
      unfold by_at
      simp only [xi_has, Bool.and_eq_true, decide_eq_true_eq] at hp
      exact if_neg hp
    rw [if_pos e]
theorem cc_Xi_written_c (l : Launch) (D : va_G) (z : Nat) (M : mw_M) (x xb xi xk xe xa xw xl xr xt rn cu : Nat) (fo ck se : Int32) (cl cr j n q2 q3 q4 i0 t le de ic y r : Nat) (ws r_f r_e r_g p0 : Int32) (Ln Dn : Nat → Nat) (G : Nat → Nat → Nat) (ss L0 : List Nat) (EF CF : Nat → Nat → Int32) (ent ca ce : Nat → Nat) (wx : M x = some (.inr (0, [.ref xb, .ref xi, .ref xk, .ref xe, .ref xa, .ref xw, .ref xl, .ref xr, .ref xt, .int (fo), .int (ck), .int (se), .ref rn, .ref cu]))) (wl : M xl = some (.inr (5, [.ref cl, .int (r_f), .int (r_e), .int (r_g)]))) (hcl : al_at D M cl cr (ss.map ca)) (hj : ss[j]? = some n) (hn : ct_is M EF CF ent ca ce n) (hei : EF (ce n) 1 = nI i0) (hcf : CF n 2 = nI q2 ∧ CF n 3 = nI q3 ∧ CF n 4 = nI q4) (wwt : M xt = some (.inr (7, [.ref y, .int ws]))) (hbw : bw_at D M y r L0) (hI : id_at D M xi t le de ic Ln Dn G) (hO : id_ok ic Ln Dn G) (hi0 : i0 < ic) (hqb : n < 2 ^ 31 ∧ q2 < 2 ^ 31 ∧ q3 < 2 ^ 31 ∧ q4 < 2 ^ 31) (hrb : ∀ j : Nat, j < 12 → t + 1 + j ≠ r) (hlr : le ≠ r) (hdr : de ≠ r) (hws : ws = nI n) (hLE : L0 = ec_3 n q2 q3 q4 (id_tx Ln G i0)) : mw_C l yy_Xi_written bb_Xi_written 4 (Option.some Jvm.ClassFile.FieldType.int) 4 85 0 0 D z M [.ref x, .int (nI j), .int (p0)] (fun v M' => v = some (.int (wr_ans (ec_3 n q2 q3 q4 (id_tx Ln G i0)) p0)) ∧ M' = M) := by
  refine mw_of (by decide) (Nat.le_of_ble_eq_true rfl) ?_
  intro p e s m below meth c ls E hr hk hnm hM hl
  have hx := E.x
  have hb := E.b
  have E : mw_E p m c bb_Xi_written 4 s _ D z "IdentityIssuer" := E
  have hl : lv_has ls 4 [(0, .ref x), (1, .int (nI j)), (2, .int (p0))] := hl
  have hS : va_S (mw_A z) s.heap s.heap [] := va_S.rf
  obtain ⟨moc, wc9⟩ := hcl.cell
  have hle := hcl.le
  have hjl : j < ss.length := (List.getElem?_eq_some_iff.mp hj).1
  rw [List.length_map] at hle wc9
  have wcc : M (ca n) = some (.inr (11, [.ref (ent (ce n)), .int (nI n), .int (nI q2), .int (nI q3), .int (nI q4)])) := by rw [← hcf.1, ← hcf.2.1, ← hcf.2.2]; exact hn.1
  have wnn : M (ent (ce n)) = some (.inr (9, [.int (EF (ce n) 0), .int (nI i0), .int (EF (ce n) 2), .int (EF (ce n) 3), .int (EF (ce n) 4), .int (EF (ce n) 5)])) := by rw [← hei]; exact hn.2
  obtain ⟨o1, o2, o3, o4, o5⟩ := hO.2 i0 hi0
  have htl : (id_tx Ln G i0).length ≤ 40 := by unfold id_tx; rw [List.length_map, List.length_range]; exact o3
  have hE3 := ec_3_lt (q1 := n) (q2 := q2) (q3 := q3) (q4 := q4) (id_tx_lt o4) htl
  obtain ⟨E9, hE9⟩ : ∃ L9 : List Nat, L9 = ec_3 n q2 q3 q4 (id_tx Ln G i0) := ⟨_, rfl⟩
  rw [← hE9] at hE3
  refine lv_aload_n hx hb dd_Xi_written_0 rfl (lv_at hl 0 rfl) ?_
  refine gf_Xi_43 E hM wx rfl dd_Xi_written_1 ?_
  refine lv_iload_n hx hb dd_Xi_written_4 rfl (lv_at hl 1 rfl) ?_
  refine mw_V (As := [.int (nI j)]) (rest := []) E (cc_Rs_hasCertificate l D z (M) xl cl cr ss.length r_f r_e r_g moc (nI j) wl wc9 (by omega)) ky_Rs_hasCertificate kv_Rs_hasCertificate tw_Xi_211 hM hS wl rfl rfl rfl hl.1 rfl (Nat.le_of_ble_eq_true rfl) dd_Xi_written_5 (by first | decide | exact ⟨by dsimp only; omega, by dsimp only; omega⟩) (by decide) (fun v M1 H locs hp hM hS => ?_)
  obtain ⟨rfl, hq⟩ := hp
  have hq := hq.symm
  subst hq
  rw [xi_hasN hjl (by omega)]
  refine W.eq (g2 := F0 m 8 ls [.int (zI true)]) rfl ?_
  refine lv_if_ne (tgt := 15) hx hb dd_Xi_written_8 (by decide) (fun h8 => ?_) (fun h8 => ?_)
  ·
    refine lv_aload_n hx hb dd_Xi_written_15 rfl (lv_at hl 0 rfl) ?_
    refine gf_Xi_57 E hM wx rfl dd_Xi_written_16 ?_
    refine lv_aload_n hx hb dd_Xi_written_19 rfl (lv_at hl 0 rfl) ?_
    refine gf_Xi_43 E hM wx rfl dd_Xi_written_20 ?_
    refine lv_iload_n hx hb dd_Xi_written_23 rfl (lv_at hl 1 rfl) ?_
    refine mw_V (As := [.int (nI j)]) (rest := [.ref xt]) E (cc_Rs_certificate l D z (M) xl cl cr r_f r_e r_g ss j n EF CF ent ca ce wl hcl hj hn) ky_Rs_certificate kv_Rs_certificate tw_Xi_214 hM hS wl rfl rfl rfl hl.1 rfl (Nat.le_of_ble_eq_true rfl) dd_Xi_written_24 (by first | decide | exact ⟨by dsimp only; omega, by dsimp only; omega⟩) (by decide) (fun v M1 H locs hp hM hS => ?_)
    obtain ⟨rfl, hq⟩ := hp
    have hq := hq.symm
    subst hq
    refine W.eq (g2 := F0 m 27 ls [.ref (ca n), .ref xt]) rfl ?_
    refine lv_aload_n hx hb dd_Xi_written_27 rfl (lv_at hl 0 rfl) ?_
    refine gf_Xi_19 E hM wx rfl dd_Xi_written_28 ?_
    rw [hws] at wwt
    have hbE : bw_at D M y r E9 := by rw [hE9, ← hLE]; exact hbw
    obtain ⟨f8, wy8, -⟩ := id hbE
    refine mw_V (As := [.ref (ca n), .ref xi]) (rest := []) E (cc_Wr_write_c l D z (M) xt y r (ca n) (ent (ce n)) xi n (nI q2) (nI q3) (nI q4) wwt wcc) ky_Wr_write kv_Wr_write tw_Xi_250 hM hS wwt rfl rfl rfl hl.1 rfl (Nat.le_of_ble_eq_true rfl) dd_Xi_written_31 (by first | decide | exact ⟨by dsimp only; omega, by dsimp only; omega⟩) (by decide) (fun v M1 H locs hp hM hS => ?_)
    obtain ⟨rfl, hq⟩ := hp
    have hq := hq.symm
    subst hq
    refine W.eq (g2 := F0 m 34 ls [.ref y]) rfl ?_
    refine lv_iload_n hx hb dd_Xi_written_34 rfl (lv_at hl 2 rfl) ?_
    obtain ⟨f7, wy7, wr7, hbl7, hl7⟩ := id hbE
    refine mw_V (As := [.int (p0)]) (rest := []) E (cc_By_at l D z (M) y r f7 E9.length p0 wy7 wr7 hl7) ky_By_at kv_By_at tw_Xi_254 hM hS wy8 rfl rfl rfl hl.1 rfl (Nat.le_of_ble_eq_true rfl) dd_Xi_written_35 (by first | decide | exact ⟨by dsimp only; omega, by dsimp only; omega⟩) (by decide) (fun v M1 H locs hp hM hS => ?_)
    obtain ⟨rfl, hq⟩ := hp
    have hq := hq.symm
    subst hq
    refine W.eq (g2 := F0 m 38 ls [.int (by_at f7 E9.length p0)]) rfl ?_
    refine lv_istore_n (lv' := [(3, .int (by_at f7 E9.length p0)), (0, .ref x), (1, .int (nI j)), (2, .int (p0))]) hx hb dd_Xi_written_38 rfl hl (by decide) rfl (fun ls hl => ?_)
    refine lv_iload_n hx hb dd_Xi_written_39 rfl (lv_at hl 0 rfl) ?_
    refine lv_iconst (v := -1) hx hb dd_Xi_written_40 (by decide) ?_
    refine lv_icmp_ne (tgt := 50) hx hb dd_Xi_written_41 (by decide) (fun h41 => ?_) (fun h41 => ?_)
    ·
      refine lv_iload_n hx hb dd_Xi_written_50 rfl (lv_at hl 0 rfl) ?_
      refine mr_i E hr hk hM hS (by decide) (by decide) ?_ dd_Xi_written_51
      exact ⟨by rw [← hE9, wr_at hbl7 hE3.1 hE3.2, if_neg h41], rfl⟩
    ·
      refine lv_sipush (v := -1001) hx hb dd_Xi_written_44 (by decide) ?_
      refine lv_goto (tgt := 51) hx hb dd_Xi_written_47 (by decide) ?_
      refine mr_i E hr hk hM hS (by decide) (by decide) ?_ dd_Xi_written_51
      exact ⟨by rw [← hE9, wr_at hbl7 hE3.1 hE3.2, if_pos h41], rfl⟩
  ·
    exact absurd h8 (by decide)
theorem cc_Xi_written_n (l : Launch) (D : va_G) (z : Nat) (M : mw_M) (x xb xi xk xe xa xw xl xr xt rn cu : Nat) (fo ck se : Int32) (cl cr j n q2 q3 q4 i0 t le de ic y r : Nat) (ws r_f r_e r_g p0 : Int32) (Ln Dn : Nat → Nat) (G : Nat → Nat → Nat) (ss L0 : List Nat) (EF CF : Nat → Nat → Int32) (ent ca ce : Nat → Nat) (wx : M x = some (.inr (0, [.ref xb, .ref xi, .ref xk, .ref xe, .ref xa, .ref xw, .ref xl, .ref xr, .ref xt, .int (fo), .int (ck), .int (se), .ref rn, .ref cu]))) (wl : M xl = some (.inr (5, [.ref cl, .int (r_f), .int (r_e), .int (r_g)]))) (hcl : al_at D M cl cr (ss.map ca)) (hj : ss[j]? = some n) (hn : ct_is M EF CF ent ca ce n) (hei : EF (ce n) 1 = nI i0) (hcf : CF n 2 = nI q2 ∧ CF n 3 = nI q3 ∧ CF n 4 = nI q4) (wwt : M xt = some (.inr (7, [.ref y, .int ws]))) (hbw : bw_at D M y r L0) (hI : id_at D M xi t le de ic Ln Dn G) (hO : id_ok ic Ln Dn G) (hi0 : i0 < ic) (hqb : n < 2 ^ 31 ∧ q2 < 2 ^ 31 ∧ q3 < 2 ^ 31 ∧ q4 < 2 ^ 31) (hrb : ∀ j : Nat, j < 12 → t + 1 + j ≠ r) (hlr : le ≠ r) (hdr : de ≠ r) (hws : ws ≠ nI n) : mw_C l yy_Xi_written bb_Xi_written 4 (Option.some Jvm.ClassFile.FieldType.int) 4 90 0 0 D z M [.ref x, .int (nI j), .int (p0)] (fun v M' => v = some (.int (wr_ans (ec_3 n q2 q3 q4 (id_tx Ln G i0)) p0)) ∧ M' xt = some (.inr (7, [.ref y, .int (nI n)])) ∧ bw_at D M' y r (ec_3 n q2 q3 q4 (id_tx Ln G i0)) ∧ mw_fr (fun q => q = xt ∨ q = y ∨ q = r) M M') := by
  refine mw_of (by decide) (Nat.le_of_ble_eq_true rfl) ?_
  intro p e s m below meth c ls E hr hk hnm hM hl
  have hx := E.x
  have hb := E.b
  have E : mw_E p m c bb_Xi_written 4 s _ D z "IdentityIssuer" := E
  have hl : lv_has ls 4 [(0, .ref x), (1, .int (nI j)), (2, .int (p0))] := hl
  have hS : va_S (mw_A z) s.heap s.heap [] := va_S.rf
  obtain ⟨moc, wc9⟩ := hcl.cell
  have hle := hcl.le
  have hjl : j < ss.length := (List.getElem?_eq_some_iff.mp hj).1
  rw [List.length_map] at hle wc9
  have wcc : M (ca n) = some (.inr (11, [.ref (ent (ce n)), .int (nI n), .int (nI q2), .int (nI q3), .int (nI q4)])) := by rw [← hcf.1, ← hcf.2.1, ← hcf.2.2]; exact hn.1
  have wnn : M (ent (ce n)) = some (.inr (9, [.int (EF (ce n) 0), .int (nI i0), .int (EF (ce n) 2), .int (EF (ce n) 3), .int (EF (ce n) 4), .int (EF (ce n) 5)])) := by rw [← hei]; exact hn.2
  obtain ⟨o1, o2, o3, o4, o5⟩ := hO.2 i0 hi0
  have htl : (id_tx Ln G i0).length ≤ 40 := by unfold id_tx; rw [List.length_map, List.length_range]; exact o3
  have hE3 := ec_3_lt (q1 := n) (q2 := q2) (q3 := q3) (q4 := q4) (id_tx_lt o4) htl
  obtain ⟨E9, hE9⟩ : ∃ L9 : List Nat, L9 = ec_3 n q2 q3 q4 (id_tx Ln G i0) := ⟨_, rfl⟩
  rw [← hE9] at hE3
  refine lv_aload_n hx hb dd_Xi_written_0 rfl (lv_at hl 0 rfl) ?_
  refine gf_Xi_43 E hM wx rfl dd_Xi_written_1 ?_
  refine lv_iload_n hx hb dd_Xi_written_4 rfl (lv_at hl 1 rfl) ?_
  refine mw_V (As := [.int (nI j)]) (rest := []) E (cc_Rs_hasCertificate l D z (M) xl cl cr ss.length r_f r_e r_g moc (nI j) wl wc9 (by omega)) ky_Rs_hasCertificate kv_Rs_hasCertificate tw_Xi_211 hM hS wl rfl rfl rfl hl.1 rfl (Nat.le_of_ble_eq_true rfl) dd_Xi_written_5 (by first | decide | exact ⟨by dsimp only; omega, by dsimp only; omega⟩) (by decide) (fun v M1 H locs hp hM hS => ?_)
  obtain ⟨rfl, hq⟩ := hp
  have hq := hq.symm
  subst hq
  rw [xi_hasN hjl (by omega)]
  refine W.eq (g2 := F0 m 8 ls [.int (zI true)]) rfl ?_
  refine lv_if_ne (tgt := 15) hx hb dd_Xi_written_8 (by decide) (fun h8 => ?_) (fun h8 => ?_)
  ·
    refine lv_aload_n hx hb dd_Xi_written_15 rfl (lv_at hl 0 rfl) ?_
    refine gf_Xi_57 E hM wx rfl dd_Xi_written_16 ?_
    refine lv_aload_n hx hb dd_Xi_written_19 rfl (lv_at hl 0 rfl) ?_
    refine gf_Xi_43 E hM wx rfl dd_Xi_written_20 ?_
    refine lv_iload_n hx hb dd_Xi_written_23 rfl (lv_at hl 1 rfl) ?_
    refine mw_V (As := [.int (nI j)]) (rest := [.ref xt]) E (cc_Rs_certificate l D z (M) xl cl cr r_f r_e r_g ss j n EF CF ent ca ce wl hcl hj hn) ky_Rs_certificate kv_Rs_certificate tw_Xi_214 hM hS wl rfl rfl rfl hl.1 rfl (Nat.le_of_ble_eq_true rfl) dd_Xi_written_24 (by first | decide | exact ⟨by dsimp only; omega, by dsimp only; omega⟩) (by decide) (fun v M1 H locs hp hM hS => ?_)
    obtain ⟨rfl, hq⟩ := hp
    have hq := hq.symm
    subst hq
    refine W.eq (g2 := F0 m 27 ls [.ref (ca n), .ref xt]) rfl ?_
    refine lv_aload_n hx hb dd_Xi_written_27 rfl (lv_at hl 0 rfl) ?_
    refine gf_Xi_19 E hM wx rfl dd_Xi_written_28 ?_
    refine mw_V (As := [.ref (ca n), .ref xi]) (rest := []) E (cc_Wr_write_n l D z (M) xt y r (ca n) (ent (ce n)) n q2 q3 q4 i0 t le de ic xi ws (EF (ce n) 0) (EF (ce n) 2) (EF (ce n) 3) (EF (ce n) 4) (EF (ce n) 5) Ln Dn G L0 wwt hbw wcc wnn hI hO hi0 hqb hrb hlr hdr hws) ky_Wr_write kv_Wr_write tw_Xi_250 hM hS wwt rfl rfl rfl hl.1 rfl (Nat.le_of_ble_eq_true rfl) dd_Xi_written_31 (by first | decide | exact ⟨by dsimp only; omega, by dsimp only; omega⟩) (by decide) (fun v M1 H locs hp hM hS => ?_)
    obtain ⟨rfl, a1, a2, a3⟩ := hp
    have hbE : bw_at D M1 y r E9 := by rw [hE9]; exact a2
    obtain ⟨f8, wy8, -⟩ := id hbE
    refine W.eq (g2 := F0 m 34 ls [.ref y]) rfl ?_
    refine lv_iload_n hx hb dd_Xi_written_34 rfl (lv_at hl 2 rfl) ?_
    obtain ⟨f7, wy7, wr7, hbl7, hl7⟩ := id hbE
    refine mw_V (As := [.int (p0)]) (rest := []) E (cc_By_at l D z (M1) y r f7 E9.length p0 wy7 wr7 hl7) ky_By_at kv_By_at tw_Xi_254 hM hS wy8 rfl rfl rfl hl.1 rfl (Nat.le_of_ble_eq_true rfl) dd_Xi_written_35 (by first | decide | exact ⟨by dsimp only; omega, by dsimp only; omega⟩) (by decide) (fun v M1 H locs hp hM hS => ?_)
    obtain ⟨rfl, hq⟩ := hp
    have hq := hq.symm
    subst hq
    refine W.eq (g2 := F0 m 38 ls [.int (by_at f7 E9.length p0)]) rfl ?_
    refine lv_istore_n (lv' := [(3, .int (by_at f7 E9.length p0)), (0, .ref x), (1, .int (nI j)), (2, .int (p0))]) hx hb dd_Xi_written_38 rfl hl (by decide) rfl (fun ls hl => ?_)
    refine lv_iload_n hx hb dd_Xi_written_39 rfl (lv_at hl 0 rfl) ?_
    refine lv_iconst (v := -1) hx hb dd_Xi_written_40 (by decide) ?_
    refine lv_icmp_ne (tgt := 50) hx hb dd_Xi_written_41 (by decide) (fun h41 => ?_) (fun h41 => ?_)
    ·
      refine lv_iload_n hx hb dd_Xi_written_50 rfl (lv_at hl 0 rfl) ?_
      refine mr_i E hr hk hM hS (by decide) (by decide) ?_ dd_Xi_written_51
      exact ⟨by rw [← hE9, wr_at hbl7 hE3.1 hE3.2, if_neg h41], a1, a2, a3⟩
    ·
      refine lv_sipush (v := -1001) hx hb dd_Xi_written_44 (by decide) ?_
      refine lv_goto (tgt := 51) hx hb dd_Xi_written_47 (by decide) ?_
      refine mr_i E hr hk hM hS (by decide) (by decide) ?_ dd_Xi_written_51
      exact ⟨by rw [← hE9, wr_at hbl7 hE3.1 hE3.2, if_pos h41], a1, a2, a3⟩
  ·
    exact absurd h8 (by decide)
theorem cc_Mo_written (l : Launch) (D : va_G) (z : Nat) (M : mw_M) (mm : Nat) (ra : Nat → Nat) (V : Nat → Int32) (A : Nat → Nat → Int32) (S : Nat → Int64) (ic : Nat) (Ln Dn : Nat → Nat) (G : Nat → Nat → Nat) (k e0 i0 q1 q2 q3 q4 : Nat) (nl : Nat) (p0 : Int32) (hR : mq_R D M mm ra V A S) (hJ : mi_at V A ic Ln Dn G) (hO : id_ok ic Ln Dn G) (hk12 : k < 12) (hfv : (A 42 (5 * k) = nI e0 ∧ A 42 (5 * k + 1) = nI q1 ∧ A 42 (5 * k + 2) = nI q2 ∧ A 42 (5 * k + 3) = nI q3 ∧ A 42 (5 * k + 4) = nI q4)) (he60 : e0 < 60) (hid : A 17 e0 = nI i0) (hi0 : i0 < ic) (hqb : q1 < 2 ^ 31 ∧ q2 < 2 ^ 31 ∧ q3 < 2 ^ 31 ∧ q4 < 2 ^ 31) (hso : (∀ j : Nat, j < 4 → S j = 0 ∨ S j = lN (sk_s j))) (hv41 : V 41 = nI nl) (hnl : nl ≤ 12) (hkn : k < nl) : mw_C l yy_Mo_written bb_Mo_written 3 (Option.some Jvm.ClassFile.FieldType.int) 3 72 0 0 D z M [.ref mm, .int (nI k), .int (p0)] (fun v M' => v = some (.int (wr_ans (ec_3 q1 q2 q3 q4 (id_tx Ln G i0)) p0)) ∧ (∃ V2 A2 S2, mq_R D M' mm ra V2 A2 S2 ∧ mo_ob V A V2 A2 (ec_3 q1 q2 q3 q4 (id_tx Ln G i0)) ∧ (∀ j : Nat, j < 4 → S2 j = 0 ∨ S2 j = lN (sk_s j))) ∧ mw_fr (mq_P mm ra) M M') := by
  refine mw_of (by decide) (Nat.le_of_ble_eq_true rfl) ?_
  intro p e s m below meth c ls E hr hk hnm hM hl
  have hx := E.x
  have hb := E.b
  have E : mw_E p m c bb_Mo_written 3 s _ D z "IdentityIssuerModel" := E
  have hl : lv_has ls 3 [(0, .ref mm), (1, .int (nI k)), (2, .int (p0))] := hl
  have hS : va_S (mw_A z) s.heap s.heap [] := va_S.rf
  have hF : mw_fr (mq_P mm ra) M M := mw_fr.rf
  refine lv_iload_n hx hb dd_Mo_written_0 rfl (lv_at hl 1 rfl) ?_
  refine lv_iconst (v := nI 0) hx hb dd_Mo_written_1 (by decide) ?_
  refine lv_aload_n hx hb dd_Mo_written_2 rfl (lv_at hl 0 rfl) ?_
  refine gf_Mo_208 E hM hR.m ((mo_at (by decide)).trans (congrArg some (mq_vi rfl hv41))) dd_Mo_written_3 ?_
  refine lv_iconst (v := nI 1) hx hb dd_Mo_written_6 (by decide) ?_
  refine lv_isub hx hb dd_Mo_written_7 ?_
  refine mw_S (As := [.int (nI k), .int (nI 0), .int ((nI nl) - (nI 1))]) (rest := []) E (cc_Mo_outside l D z (M) (nI k) (nI 0) (nI nl - nI 1)) ky_Mo_outside kv_Mo_outside tw_Mo_118 hM hS rfl hl.1 rfl (Nat.le_of_ble_eq_true rfl) dd_Mo_written_8 (by first | decide | exact ⟨by dsimp only; omega, by dsimp only; omega⟩) (by decide) (fun v M1 H locs hp hM hS => ?_)
  obtain ⟨rfl, hq⟩ := hp
  have hq := hq.symm
  subst hq
  rw [mo_out_has (by omega), mo_hasN hkn (by omega)]
  refine W.eq (g2 := F0 m 11 ls [.int (zI false)]) rfl ?_
  refine lv_if_eq (tgt := 18) hx hb dd_Mo_written_11 (by decide) (fun h11 => ?_) (fun h11 => ?_)
  ·
    refine lv_aload_n hx hb dd_Mo_written_18 rfl (lv_at hl 0 rfl) ?_
    refine lv_iload_n hx hb dd_Mo_written_19 rfl (lv_at hl 1 rfl) ?_
    refine mw_V (As := [.int (nI k)]) (rest := []) E (cc_Mo_make l D z (M) mm ra V A S ic Ln Dn G k e0 i0 q1 q2 q3 q4 hR hJ hO hk12 hfv he60 hid hi0 hqb hso) ky_Mo_make kv_Mo_make tw_Mo_285 hM hS hR.m rfl rfl rfl hl.1 rfl (Nat.le_of_ble_eq_true rfl) dd_Mo_written_20 (by first | decide | exact ⟨by dsimp only; omega, by dsimp only; omega⟩) (by decide) (fun v M1 H locs hp hM hS => ?_)
    obtain ⟨rfl, ⟨V2, A2, S2, hR, hob, hso2⟩, hF2⟩ := hp
    have hF := hF.trans hF2
    obtain ⟨E9, hE9⟩ : ∃ L9 : List Nat, L9 = ec_3 q1 q2 q3 q4 (id_tx Ln G i0) := ⟨_, rfl⟩
    have hob9 := hob
    rw [← hE9] at hob9
    have hl9 := hob9.2.2.2.2
    refine W.eq (g2 := F0 m 23 ls []) rfl ?_
    refine lv_iload_n hx hb dd_Mo_written_23 rfl (lv_at hl 2 rfl) ?_
    refine lv_iconst (v := nI 0) hx hb dd_Mo_written_24 (by decide) ?_
    refine lv_aload_n hx hb dd_Mo_written_25 rfl (lv_at hl 0 rfl) ?_
    refine gf_Mo_263 E hM hR.m ((mo_at (by decide)).trans (congrArg some (mq_vi rfl hob9.2.2.1))) dd_Mo_written_26 ?_
    refine lv_iconst (v := nI 1) hx hb dd_Mo_written_29 (by decide) ?_
    refine lv_isub hx hb dd_Mo_written_30 ?_
    refine mw_S (As := [.int (p0), .int (nI 0), .int ((nI E9.length) - (nI 1))]) (rest := []) E (cc_Mo_outside l D z (M1) p0 (nI 0) (nI E9.length - nI 1)) ky_Mo_outside kv_Mo_outside tw_Mo_118 hM hS rfl hl.1 rfl (Nat.le_of_ble_eq_true rfl) dd_Mo_written_31 (by first | decide | exact ⟨by dsimp only; omega, by dsimp only; omega⟩) (by decide) (fun v M1 H locs hp hM hS => ?_)
    obtain ⟨rfl, hq⟩ := hp
    have hq := hq.symm
    subst hq
    rw [mo_out_has (by omega)]
    refine W.eq (g2 := F0 m 34 ls [.int (zI (!xi_has E9.length p0))]) rfl ?_
    refine lv_if_eq (tgt := 43) hx hb dd_Mo_written_34 (by decide) (fun h34 => ?_) (fun h34 => ?_)
    ·
      have hxh : xi_has E9.length p0 = true := by
        have h9 := zI_0.mp h34
        cases hb8 : xi_has E9.length p0 with
        | true => rfl
        | false => rw [hb8] at h9; cases h9
      obtain ⟨j9, hj9, hpj⟩ := xi_has_of hxh
      have hgj := es_gd hj9
      refine lv_aload_n hx hb dd_Mo_written_43 rfl (lv_at hl 0 rfl) ?_
      refine gf_Mo_105 E hM hR.m ((mo_at (by decide)).trans (congrArg some (mq_va rfl))) dd_Mo_written_44 ?_
      have w49 : M1 (ra 49) = some (.inl (D.1 100, 100, .inl (A2 49))) := hR.w 49 rfl (by decide)
      refine lv_iload_n hx hb dd_Mo_written_47 rfl (lv_at hl 2 rfl) ?_
      refine mw_topi (y := nI j9) (hpj) ?_
      refine mw_iald hx hb E.K hM 0 w49 rfl (vp_in_nI (by omega) (by omega)) dd_Mo_written_48 ?_
      refine mw_topi (y := (A2 49) j9) (by rw [nI_clamp (by omega)]) ?_
      refine mw_topi (y := nI (E9.getD j9 0)) (hob9.2.2.2.1 j9 _ hgj) ?_
      refine mr_i E hr hk hM hS (by decide) (by decide) ?_ dd_Mo_written_49
      refine ⟨?_, ⟨V2, A2, S2, hR, hob, hso2⟩, hF⟩
      rw [← hE9]
      unfold wr_ans
      rw [if_pos hxh, hpj, nI_clamp (by omega)]
    ·
      have hxh : xi_has E9.length p0 = false := by
        cases hb8 : xi_has E9.length p0 with
        | false => rfl
        | true => exact absurd (show zI (!xi_has E9.length p0) = 0 by rw [hb8]; rfl) h34
      refine lv_sipush (v := -1001) hx hb dd_Mo_written_37 (by decide) ?_
      refine lv_goto (tgt := 49) hx hb dd_Mo_written_40 (by decide) ?_
      refine mr_i E hr hk hM hS (by decide) (by decide) ?_ dd_Mo_written_49
      refine ⟨?_, ⟨V2, A2, S2, hR, hob, hso2⟩, hF⟩
      rw [← hE9]
      unfold wr_ans
      rw [if_neg (by rw [hxh]; decide)]
  ·
    exact absurd rfl h11
