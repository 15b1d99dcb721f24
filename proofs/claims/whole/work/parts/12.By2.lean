/-! the sum of a row's bytes -/
def by_sm (g : Nat → Nat) (a : Nat) : Nat → Nat
  | 0 => 1
  | i + 1 => (by_sm g a i * 257 + g (a + i) + 1) % 1000000007
theorem by_sm_lt (g : Nat → Nat) (a : Nat) : ∀ i, by_sm g a i < 1000000007
  | 0 => by show 1 < 1000000007; decide
  | i + 1 => Nat.mod_lt _ (by decide)
theorem by_sm_step {h b : Nat} (hh : h < 1000000007) (hb : b < 256) : lN h * lN 257 + lN b + lN 1 - (lN h * lN 257 + lN b + lN 1) / lN 1000000007 * lN 1000000007 = lN ((h * 257 + b + 1) % 1000000007) := by
  rw [lN_mul, lN_add, lN_add]
  exact pk_lRem (by omega) (by decide) (by decide)
theorem by_sm_out {h : Nat} : (lN h).toInt32 = nI h := lN_i h
theorem cc_By_sum (l : Launch) (D : va_G) (z : Nat) (M : mw_M) (b r : Nat) (f : Nat → Int32) (k : Nat) (g : Nat → Nat) (a0 n0 : Nat) (wb : M b = some (.inr (1, [.ref r, .int (nI k)]))) (wr : M r = some (.inl (D.1 100, 100, .inl f))) (hk0 : k ≤ 100) (hg : ∀ j, j < k → f j = nI (g j) ∧ g j < 256) (ha0 : a0 ≤ n0) (hn0 : n0 ≤ k) : mw_C l yy_By_sum bb_By_sum 6 (Option.some Jvm.ClassFile.FieldType.int) 1 21 0 0 D z M [.ref b, .int (nI a0), .int (nI n0)] (fun v M' => v = some (.int (nI (by_sm g a0 (n0 - a0)))) ∧ M' = M) := by
  refine mw_of (by decide) (Nat.le_of_ble_eq_true rfl) ?_
  intro p e s m below meth c ls E hr hk hnm hM hl
  have hx := E.x
  have hb := E.b
  have E : mw_E p m c bb_By_sum 6 s _ D z "IdentityIssuer$Bytes" := E
  have hl : lv_has ls 6 [(0, .ref b), (1, .int (nI a0)), (2, .int (nI n0))] := hl
  have hS : va_S (mw_A z) s.heap s.heap [] := va_S.rf
  refine lv_lconst (v := lN 1) hx hb dd_By_sum_0 (by decide) ?_
  refine lv_lstore_n (lv' := [(3, .long (lN 1)), (0, .ref b), (1, .int (nI a0)), (2, .int (nI n0))]) hx hb dd_By_sum_1 rfl hl (by decide) rfl (fun ls hl => ?_)
  refine lv_iload_n hx hb dd_By_sum_2 rfl (lv_at hl 2 rfl) ?_
  refine lv_istore (lv' := [(5, .int (nI a0)), (3, .long (lN 1)), (0, .ref b), (1, .int (nI a0)), (2, .int (nI n0))]) hx hb dd_By_sum_3 hl (by decide) rfl (fun ls hl => ?_)
  have loop5 : ∀ (d : Nat) (i : Nat) (H : Heap) (locs : List Loc) (ls : Array Slot), i + d = n0 - a0 → mw_at D mg_cl z M H → va_S (mw_A z) s.heap H locs → lv_has ls 6 [(5, .int (nI (a0 + i))), (3, .long (lN (by_sm g a0 i))), (0, .ref b), (1, .int (nI a0)), (2, .int (nI n0))] → W p l e ({ frames := 1, cells := 0, slots := 0, locals := 21 } : Room) s m ([.ref b, .int (nI a0), .int (nI n0)] : List Value).toArray below meth c H locs (0) (0) (MQ below (mw_Q D z (fun v M' => v = some (.int (nI (by_sm g a0 (n0 - a0)))) ∧ M' = M)) ([.ref b, .int (nI a0), .int (nI n0)] : List Value).toArray s 0 0 (mw_A z)) (F0 m 5 ls []) := by
    intro d
    induction d with
    | zero =>
      intro i H locs ls hi hM hS hl
      refine lv_iload hx hb dd_By_sum_5 (lv_at hl 0 rfl) ?_
      refine lv_iload_n hx hb dd_By_sum_7 rfl (lv_at hl 4 rfl) ?_
      refine lv_icmp_ge (tgt := 37) hx hb dd_By_sum_8 (by decide) (fun h8 => ?_) (fun h8 => ?_)
      ·
        rw [nI_leI (by omega) (by omega)] at h8
        refine lv_lload_n hx hb dd_By_sum_37 rfl (lv_at hl 1 rfl) ?_
        refine lv_l2i (v := (lN (by_sm g a0 i)).toInt32) hx hb dd_By_sum_38 rfl ?_
        refine mr_i E hr hk hM hS (by decide) (by decide) ?_ dd_By_sum_39
        exact ⟨by rw [by_sm_out, show n0 - a0 = i by omega], rfl⟩
      ·
        rw [nI_leI (by omega) (by omega)] at h8
        omega
    | succ d ih =>
      intro i H locs ls hi hM hS hl
      refine lv_iload hx hb dd_By_sum_5 (lv_at hl 0 rfl) ?_
      refine lv_iload_n hx hb dd_By_sum_7 rfl (lv_at hl 4 rfl) ?_
      refine lv_icmp_ge (tgt := 37) hx hb dd_By_sum_8 (by decide) (fun h8 => ?_) (fun h8 => ?_)
      ·
        rw [nI_leI (by omega) (by omega)] at h8
        omega
      ·
        rw [nI_leI (by omega) (by omega)] at h8
        refine lv_lload_n hx hb dd_By_sum_11 rfl (lv_at hl 1 rfl) ?_
        refine lv_ldc2 (v := 257) hx hb E.o (E.t _ tw_By_19) dd_By_sum_12 ?_
        refine mw_topl (y := lN 257) (by decide) ?_
        refine lv_lmul hx hb dd_By_sum_15 ?_
        refine lv_aload_n hx hb dd_By_sum_16 rfl (lv_at hl 2 rfl) ?_
        refine lv_iload hx hb dd_By_sum_17 (lv_at hl 0 rfl) ?_
        refine mw_V (As := [.int (nI (a0 + i))]) (rest := [.long ((lN (by_sm g a0 i)) * (lN 257))]) E (cc_By_at l D z M b r f k (nI (a0 + i)) wb wr hk0) ky_By_at kv_By_at tw_By_21 hM hS wb rfl rfl rfl hl.1 rfl (Nat.le_of_ble_eq_true rfl) dd_By_sum_19 (by decide) (by decide) (fun v M1 H locs hp hM hS => ?_)
        obtain ⟨rfl, hq⟩ := hp
        have hq := hq.symm
        subst hq
        rw [by_at_nI (by omega) (by omega), (hg (a0 + i) (by omega)).1]
        have hgb := (hg (a0 + i) (by omega)).2
        refine W.eq (g2 := F0 m 22 ls [.int (nI (g (a0 + i))), .long ((lN (by_sm g a0 i)) * (lN 257))]) rfl ?_
        refine lv_i2l (v := lN (g (a0 + i))) hx hb dd_By_sum_22 (nI_l (by omega)) ?_
        refine lv_ladd hx hb dd_By_sum_23 ?_
        refine lv_lconst (v := lN 1) hx hb dd_By_sum_24 (by decide) ?_
        refine lv_ladd hx hb dd_By_sum_25 ?_
        refine lv_ldc2 (v := 1000000007) hx hb E.o (E.t _ tw_By_25) dd_By_sum_26 ?_
        refine mw_topl (y := lN 1000000007) (by decide) ?_
        refine lv_lrem hx hb dd_By_sum_29 (by decide) ?_
        refine mw_topl (y := lN (by_sm g a0 (i + 1))) (by_sm_step (by_sm_lt g a0 i) hgb) ?_
        refine lv_lstore_n (lv' := [(3, .long (lN (by_sm g a0 (i + 1)))), (5, .int (nI (a0 + i))), (0, .ref b), (1, .int (nI a0)), (2, .int (nI n0))]) hx hb dd_By_sum_30 rfl hl (by decide) rfl (fun ls hl => ?_)
        refine lv_iinc (k := 1) (v := nI (a0 + i + 1)) (lv' := [(5, .int (nI (a0 + i + 1))), (3, .long (lN (by_sm g a0 (i + 1)))), (0, .ref b), (1, .int (nI a0)), (2, .int (nI n0))]) hx hb dd_By_sum_31 hl rfl (nI_1 _) (by decide) rfl (fun ls hl => ?_)
        refine lv_goto (tgt := 5) hx hb dd_By_sum_34 (by decide) ?_
        exact ih (i + 1) H locs ls (by omega) hM hS (lv_sub hl [0, 1, 2, 3, 4] rfl)
  exact loop5 (n0 - a0) 0 s.heap [] ls (by omega) hM hS (lv_sub hl [0, 1, 2, 3, 4] rfl)
