/-! put -/
def pt_n (word : Int32) (d : Nat) : Nat := word.toBitVec.toNat / 2 ^ (8 * d) % 256
theorem pt_lt (word : Int32) (d : Nat) : pt_n word d < 256 := Nat.mod_lt _ (by decide)
theorem pt_sh : ∀ d, d < 4 → (((nI (8 * d)).toUInt32 &&& Int32.toUInt32 31).toBitVec % 32).toNat = 8 * d := by decide
theorem pt_u {word : Int32} {d : Nat} (h : d < 4) : (word.toUInt32 >>> ((nI (8 * d)).toUInt32 &&& Int32.toUInt32 31)).toInt32 &&& nI 255 = nI (pt_n word d) := by
  rw [pk_and _ 8 (by decide), pk_ushr word (nI (8 * d)) (8 * d) (pt_sh d h)]
  rfl
theorem pt_pred (d : Nat) : nI (d + 1) - nI 1 = nI d := nI_pred d
theorem pt_dec (d : Nat) : nI d + Int32.ofInt (-1) = nI d - nI 1 := by
  rw [Int32.sub_eq_add_neg]
  rfl
/-- the bytes d - 1 .. 0 of a word, behind k places -/
def pt_f (word : Int32) : Nat → (Nat → Int32) → Nat → (Nat → Int32)
  | 0, f, _ => f
  | d + 1, f, k => pt_f word d (upd f k (nI (pt_n word d))) (k + 1)
theorem cc_Xi_put_n (l : Launch) (D : va_G) (z : Nat) (M : mw_M) (x xb xi xk xe xa xw xl xr xt rn cu : Nat) (fo ck se : Int32) (r k : Nat) (f : Nat → Int32) (word n : Int32) (wx : M x = some (.inr (0, [.ref xb, .ref xi, .ref xk, .ref xe, .ref xa, .ref xw, .ref xl, .ref xr, .ref xt, .int (fo), .int (ck), .int (se), .ref rn, .ref cu]))) (wb : M xb = some (.inr (1, [.ref r, .int (nI k)]))) (wr : M r = some (.inl (D.1 100, 100, .inl f))) (hk0 : k ≤ 100) (hn : n < nI 1 ∨ nI 4 < n ∨ ∃ j : Nat, n = nI j ∧ j < 2 ^ 20 ∧ 100 < k + j) : mw_C l yy_Xi_put bb_Xi_put 4 (Option.some Jvm.ClassFile.FieldType.boolean) 1 20 0 0 D z M [.ref x, .int (word), .int (n)] (fun v M' => v = some (.int 0) ∧ M' = M) := by
  refine mw_of (by decide) (Nat.le_of_ble_eq_true rfl) ?_
  intro p e s m below meth c ls E hr hk hnm hM hl
  have hx := E.x
  have hb := E.b
  have E : mw_E p m c bb_Xi_put 4 s _ D z "IdentityIssuer" := E
  have hl : lv_has ls 4 [(0, .ref x), (1, .int (word)), (2, .int (n))] := hl
  have hS : va_S (mw_A z) s.heap s.heap [] := va_S.rf
  refine lv_iload_n hx hb dd_Xi_put_0 rfl (lv_at hl 2 rfl) ?_
  refine lv_iconst (v := nI 1) hx hb dd_Xi_put_1 (by decide) ?_
  refine lv_icmp_lt (tgt := 24) hx hb dd_Xi_put_2 (by decide) (fun h2 => ?_) (fun h2 => ?_)
  ·
    refine lv_iconst (v := nI 0) hx hb dd_Xi_put_24 (by decide) ?_
    refine mr_z E hr hk hM hS (by decide) (by decide) (rfl) ?_ dd_Xi_put_25
    exact ⟨rfl, rfl⟩
  ·
    refine lv_iload_n hx hb dd_Xi_put_5 rfl (lv_at hl 2 rfl) ?_
    refine lv_iconst (v := nI 4) hx hb dd_Xi_put_6 (by decide) ?_
    refine lv_icmp_gt (tgt := 24) hx hb dd_Xi_put_7 (by decide) (fun h7 => ?_) (fun h7 => ?_)
    ·
      refine lv_iconst (v := nI 0) hx hb dd_Xi_put_24 (by decide) ?_
      refine mr_z E hr hk hM hS (by decide) (by decide) (rfl) ?_ dd_Xi_put_25
      exact ⟨rfl, rfl⟩
    ·
      refine lv_aload_n hx hb dd_Xi_put_10 rfl (lv_at hl 0 rfl) ?_
      refine gf_Xi_10 E hM wx rfl dd_Xi_put_11 ?_
      refine mw_V (As := []) (rest := []) E (cc_By_length l D z M xb r f k wb wr (by omega)) ky_By_length kv_By_length tw_Xi_85 hM hS wb rfl rfl rfl hl.1 rfl (Nat.le_of_ble_eq_true rfl) dd_Xi_put_14 (by decide) (by decide) (fun v M1 H locs hp hM hS => ?_)
      obtain ⟨rfl, hq⟩ := hp
      have hq := hq.symm
      subst hq
      refine W.eq (g2 := F0 m 17 ls [.int (nI k)]) rfl ?_
      refine lv_iload_n hx hb dd_Xi_put_17 rfl (lv_at hl 2 rfl) ?_
      refine lv_iadd hx hb dd_Xi_put_18 ?_
      refine lv_bipush (v := nI 100) hx hb dd_Xi_put_19 (by decide) ?_
      refine lv_icmp_le (tgt := 26) hx hb dd_Xi_put_21 (by decide) (fun h21 => ?_) (fun h21 => ?_)
      ·
        rcases hn with hn | hn | ⟨j, rfl, hj, hn⟩
        · exact absurd hn h2
        · exact absurd hn h7
        · rw [nI_add, nI_leI (by omega) (by decide)] at h21
          omega
      ·
        refine lv_iconst (v := nI 0) hx hb dd_Xi_put_24 (by decide) ?_
        refine mr_z E hr hk hM hS (by decide) (by decide) (rfl) ?_ dd_Xi_put_25
        exact ⟨rfl, rfl⟩
theorem cc_Xi_put_y (l : Launch) (D : va_G) (z : Nat) (M : mw_M) (x xb xi xk xe xa xw xl xr xt rn cu : Nat) (fo ck se : Int32) (r k : Nat) (f : Nat → Int32) (word : Int32) (n : Nat) (wx : M x = some (.inr (0, [.ref xb, .ref xi, .ref xk, .ref xe, .ref xa, .ref xw, .ref xl, .ref xr, .ref xt, .int (fo), .int (ck), .int (se), .ref rn, .ref cu]))) (wb : M xb = some (.inr (1, [.ref r, .int (nI k)]))) (wr : M r = some (.inl (D.1 100, 100, .inl f))) (hn1 : 1 ≤ n) (hn4 : n ≤ 4) (hkn : k + n ≤ 100) : mw_C l yy_Xi_put bb_Xi_put 4 (Option.some Jvm.ClassFile.FieldType.boolean) 1 21 0 0 D z M [.ref x, .int (word), .int (nI n)] (fun v M' => v = some (.int 1) ∧ M' xb = some (.inr (1, [.ref r, .int (nI (k + n))])) ∧ M' r = some (.inl (D.1 100, 100, .inl (pt_f word n f k))) ∧ mw_fr (fun q => q = xb ∨ q = r) M M') := by
  refine mw_of (by decide) (Nat.le_of_ble_eq_true rfl) ?_
  intro p e s m below meth c ls E hr hk hnm hM hl
  have hx := E.x
  have hb := E.b
  have E : mw_E p m c bb_Xi_put 4 s _ D z "IdentityIssuer" := E
  have hl : lv_has ls 4 [(0, .ref x), (1, .int (word)), (2, .int (nI n))] := hl
  have hS : va_S (mw_A z) s.heap s.heap [] := va_S.rf
  have hF : mw_fr (fun q => q = xb ∨ q = r) M M := mw_fr.rf
  refine lv_iload_n hx hb dd_Xi_put_0 rfl (lv_at hl 2 rfl) ?_
  refine lv_iconst (v := nI 1) hx hb dd_Xi_put_1 (by decide) ?_
  refine lv_icmp_lt (tgt := 24) hx hb dd_Xi_put_2 (by decide) (fun h2 => ?_) (fun h2 => ?_)
  ·
    rw [nI_ltI (by omega) (by omega)] at h2
    omega
  ·
    rw [nI_ltI (by omega) (by omega)] at h2
    refine lv_iload_n hx hb dd_Xi_put_5 rfl (lv_at hl 2 rfl) ?_
    refine lv_iconst (v := nI 4) hx hb dd_Xi_put_6 (by decide) ?_
    refine lv_icmp_gt (tgt := 24) hx hb dd_Xi_put_7 (by decide) (fun h7 => ?_) (fun h7 => ?_)
    ·
      rw [nI_ltI (by omega) (by omega)] at h7
      omega
    ·
      rw [nI_ltI (by omega) (by omega)] at h7
      refine lv_aload_n hx hb dd_Xi_put_10 rfl (lv_at hl 0 rfl) ?_
      refine gf_Xi_10 E hM wx rfl dd_Xi_put_11 ?_
      refine mw_V (As := []) (rest := []) E (cc_By_length l D z M xb r f k wb wr (by omega)) ky_By_length kv_By_length tw_Xi_85 hM hS wb rfl rfl rfl hl.1 rfl (Nat.le_of_ble_eq_true rfl) dd_Xi_put_14 (by decide) (by decide) (fun v M1 H locs hp hM hS => ?_)
      obtain ⟨rfl, hq⟩ := hp
      have hq := hq.symm
      subst hq
      refine W.eq (g2 := F0 m 17 ls [.int (nI k)]) rfl ?_
      refine lv_iload_n hx hb dd_Xi_put_17 rfl (lv_at hl 2 rfl) ?_
      refine lv_iadd hx hb dd_Xi_put_18 ?_
      refine mw_topi (y := nI (k + n)) (nI_add _ _) ?_
      refine lv_bipush (v := nI 100) hx hb dd_Xi_put_19 (by decide) ?_
      refine lv_icmp_le (tgt := 26) hx hb dd_Xi_put_21 (by decide) (fun h21 => ?_) (fun h21 => ?_)
      ·
        rw [nI_leI (by omega) (by omega)] at h21
        refine lv_iload_n hx hb dd_Xi_put_26 rfl (lv_at hl 2 rfl) ?_
        refine lv_iconst (v := nI 1) hx hb dd_Xi_put_27 (by decide) ?_
        refine lv_isub hx hb dd_Xi_put_28 ?_
        refine lv_istore_n (lv' := [(3, .int ((nI n) - (nI 1))), (0, .ref x), (1, .int (word)), (2, .int (nI n))]) hx hb dd_Xi_put_29 rfl hl (by decide) rfl (fun ls hl => ?_)
        have loop30 : ∀ (d : Nat) (k1 : Nat) (f1 : Nat → Int32) (M1 : mw_M) (H : Heap) (locs : List Loc) (ls : Array Slot), k1 + d = k + n → d ≤ 4 → pt_f word n f k = pt_f word d f1 k1 → M1 x = some (.inr (0, [.ref xb, .ref xi, .ref xk, .ref xe, .ref xa, .ref xw, .ref xl, .ref xr, .ref xt, .int (fo), .int (ck), .int (se), .ref rn, .ref cu])) → M1 xb = some (.inr (1, [.ref r, .int (nI k1)])) → M1 r = some (.inl (D.1 100, 100, .inl f1)) → mw_fr (fun q => q = xb ∨ q = r) M M1 → mw_at D mg_cl z M1 H → va_S (mw_A z) s.heap H locs → lv_has ls 4 [(3, .int (nI d - nI 1)), (0, .ref x), (1, .int (word)), (2, .int (nI n))] → W p l e ({ frames := 1, cells := 0, slots := 0, locals := 21 } : Room) s m ([.ref x, .int (word), .int (nI n)] : List Value).toArray below meth c H locs (0) (0) (MQ below (mw_Q D z (fun v M' => v = some (.int 1) ∧ M' xb = some (.inr (1, [.ref r, .int (nI (k + n))])) ∧ M' r = some (.inl (D.1 100, 100, .inl (pt_f word n f k))) ∧ mw_fr (fun q => q = xb ∨ q = r) M M')) ([.ref x, .int (word), .int (nI n)] : List Value).toArray s 0 0 (mw_A z)) (F0 m 30 ls []) := by
          intro d
          induction d with
          | zero =>
            intro k1 f1 M1 H locs ls hk1 hd hv wx wb wr hF hM hS hl
            have hl : lv_has ls 4 [(3, .int (nI 0 - nI 1)), (0, .ref x), (1, .int (word)), (2, .int (nI n))] := hl
            refine lv_iload_n hx hb dd_Xi_put_30 rfl (lv_at hl 0 rfl) ?_
            refine lv_if_lt (tgt := 57) hx hb dd_Xi_put_31 (by decide) (fun h31 => ?_) (fun h31 => ?_)
            ·
              refine lv_iconst (v := nI 1) hx hb dd_Xi_put_57 (by decide) ?_
              refine mr_z E hr hk hM hS (by decide) (by decide) (rfl) ?_ dd_Xi_put_58
              exact ⟨rfl, by rw [show k + n = k1 by omega]; exact wb, by rw [hv]; exact wr, hF⟩
            ·
              exact absurd h31 (by decide)
          | succ d ih =>
            intro k1 f1 M1 H locs ls hk1 hd hv wx wb wr hF hM hS hl
            rw [pt_pred] at hl
            refine lv_iload_n hx hb dd_Xi_put_30 rfl (lv_at hl 0 rfl) ?_
            refine lv_if_lt (tgt := 57) hx hb dd_Xi_put_31 (by decide) (fun h31 => ?_) (fun h31 => ?_)
            ·
              exact absurd h31 (nI_pos (by omega))
            ·
              refine lv_aload_n hx hb dd_Xi_put_34 rfl (lv_at hl 1 rfl) ?_
              refine gf_Xi_10 E hM wx rfl dd_Xi_put_35 ?_
              refine lv_iload_n hx hb dd_Xi_put_38 rfl (lv_at hl 2 rfl) ?_
              refine lv_bipush (v := nI 8) hx hb dd_Xi_put_39 (by decide) ?_
              refine lv_iload_n hx hb dd_Xi_put_41 rfl (lv_at hl 0 rfl) ?_
              refine lv_imul hx hb dd_Xi_put_42 ?_
              refine mw_topi (y := nI (8 * d)) (pk_mul _ _) ?_
              refine lv_iushr (v := (word.toUInt32 >>> ((nI (8 * d)).toUInt32 &&& Int32.toUInt32 31)).toInt32) hx hb dd_Xi_put_43 rfl ?_
              refine lv_sipush (v := nI 255) hx hb dd_Xi_put_44 (by decide) ?_
              refine lv_iand hx hb dd_Xi_put_47 ?_
              refine mw_topi (y := nI (pt_n word d)) (pt_u (by omega)) ?_
              have nex_b := mw_ne wx wb (fun q => by cases q)
              have nex_r := mw_ne wx wr (fun q => by cases q)
              refine mw_V (As := [.int (nI (pt_n word d))]) (rest := []) E (cc_By_append l D z M1 xb r f1 k1 (nI (pt_n word d)) wb wr (by omega)) ky_By_append kv_By_append tw_Xi_89 hM hS wb rfl rfl rfl hl.1 rfl (Nat.le_of_ble_eq_true rfl) dd_Xi_put_48 (by decide) (by decide) (fun v M1 H locs hp hM hS => ?_)
              obtain ⟨rfl, wb, wr, hF2⟩ := hp
              have wx := hF2.at wx (fun q => q.elim (fun q => nex_b q) (fun q => nex_r q))
              have hF := hF.trans hF2
              refine W.eq (g2 := F0 m 51 ls []) rfl ?_
              refine lv_iinc (k := 0) (v := nI d - nI 1) (lv' := [(3, .int (nI d - nI 1)), (0, .ref x), (1, .int (word)), (2, .int (nI n))]) hx hb dd_Xi_put_51 hl rfl (pt_dec d) (by decide) rfl (fun ls hl => ?_)
              refine lv_goto (tgt := 30) hx hb dd_Xi_put_54 (by decide) ?_
              exact ih (k1 + 1) (upd f1 k1 (nI (pt_n word d))) M1 H locs ls (by omega) (by omega) hv wx wb wr hF hM hS hl
        exact loop30 n k f M H locs ls rfl (by omega) rfl wx wb wr mw_fr.rf hM hS hl
      ·
        rw [nI_leI (by omega) (by omega)] at h21
        omega
