/-! powers and secret exponents, walked -/
section LCMP
variable {p : Program} {l : Launch} {e : Env} {R : Room} {s : State} {m : MethodId} {args : Array Value} {below : List Frame} {meth : Method} {c : Code} {H : Heap} {locs : List Loc} {cells slots : Nat} {Q : State → Prop}
variable {cc : ByteArray} {pc : Nat} {ls : Array Slot} {rest : List Value}
theorem mw_lcmp (hexec : p.tables.exec = Jvm.exec) (hb : c.code = cc) {x y : Int64} {v : Int32} (hv : (if x > y then (1 : Int32) else if x = y then 0 else -1) = v) (hdg : decode cc pc = .ok (.lcmp, 1))
    (k : W p l e R s m args below meth c H locs cells slots Q (F0 m (pc + 1) ls (.int v :: rest))) : W p l e R s m args below meth c H locs cells slots Q (F0 m pc ls (.long y :: .long x :: rest)) := by
  intro T hT X
  obtain ⟨t, a, b⟩ := k T hT X
  refine ⟨t, ?_, b⟩
  subst hv
  jvm_step X.here [X.here.top, hexec, hb, hdg]
  by_cases h1 : x > y
  · simp only [h1, if_true] at a ⊢
    exact a
  · by_cases h2 : x = y
    · simp [h2] at a ⊢
      exact a
    · simp [h1, h2] at a ⊢
      exact a
end LCMP
def lc (a b : Nat) : Int32 := if b < a then 1 else if a = b then 0 else -1
theorem lc_n {a b : Nat} (ha : a < 2 ^ 63) (hb : b < 2 ^ 63) : (if lN a > lN b then (1 : Int32) else if lN a = lN b then 0 else -1) = lc a b := by
  unfold lc
  by_cases h : b < a
  · rw [if_pos h, if_pos ((pk_lLT hb ha).mpr h)]
  · rw [if_neg h, if_neg (fun q => h ((pk_lLT hb ha).mp q))]
    by_cases h2 : a = b
    · rw [if_pos h2, if_pos ((pk_lEQ ha hb).mpr h2)]
    · rw [if_neg h2, if_neg (fun q => h2 ((pk_lEQ ha hb).mp q))]
theorem lc_cases (a b : Nat) : (b < a ∧ lc a b = 1) ∨ (a = b ∧ lc a b = 0) ∨ (a < b ∧ lc a b = -1) := by
  unfold lc
  by_cases h : b < a
  · exact Or.inl ⟨h, if_pos h⟩
  · by_cases h2 : a = b
    · exact Or.inr (Or.inl ⟨h2, by rw [if_neg h, if_pos h2]⟩)
    · exact Or.inr (Or.inr ⟨by omega, by rw [if_neg h, if_neg h2]⟩)
theorem lc_le {a b : Nat} : lc a b ≤ 0 ↔ a ≤ b := by
  rcases lc_cases a b with ⟨h, e⟩ | ⟨h, e⟩ | ⟨h, e⟩ <;> rw [e] <;> constructor <;> intro q <;> first | omega | exact absurd q (by decide) | decide
theorem lc_ge {a b : Nat} : 0 ≤ lc a b ↔ b ≤ a := by
  rcases lc_cases a b with ⟨h, e⟩ | ⟨h, e⟩ | ⟨h, e⟩ <;> rw [e] <;> constructor <;> intro q <;> first | omega | exact absurd q (by decide) | decide
theorem lc_eq {a b : Nat} : lc a b = 0 ↔ a = b := by
  rcases lc_cases a b with ⟨h, e⟩ | ⟨h, e⟩ | ⟨h, e⟩ <;> rw [e] <;> constructor <;> intro q <;> first | omega | exact absurd q (by decide) | decide
theorem lN_nz {a : Nat} (h0 : 0 < a) (h : a < 2 ^ 63) : ¬ lN a = 0 := fun q => by
  have := (pk_lEQ (b := 0) h (by decide)).mp q
  omega
theorem pw_sm : ∀ i : Nat, i < 31 → ((nI i &&& 31).toBitVec.smod 32).toNat = i := by decide
theorem sk_tab (k : Nat) : ([1071514531, 1070271221, 1069289951, 1067328611] : List Int64).getD (k % 4) 0 = lN (sk_m k) := by
  have h : ∀ j : Nat, j < 4 → ([1071514531, 1070271221, 1069289951, 1067328611] : List Int64).getD j 0 = lN (sk_m j) := by decide
  have e : sk_m (k % 4) = sk_m k := by unfold sk_m; rw [Nat.mod_mod]
  rw [h _ (Nat.mod_lt _ (by decide)), e]
theorem sk_tabS (k : Nat) : ([278664713, 526488929, 399288977, 940729625] : List Int32).getD (k % 4) 0 = nI (sk_s k) := by
  have h : ∀ j : Nat, j < 4 → ([278664713, 526488929, 399288977, 940729625] : List Int32).getD j 0 = nI (sk_s j) := by decide
  have e : sk_s (k % 4) = sk_s k := by unfold sk_s; rw [Nat.mod_mod]
  rw [h _ (Nat.mod_lt _ (by decide)), e]
theorem pw_st {m d e q r : Nat} (h : e % 2 = 1) : pw_n m (d + 1) e q r = pw_n m d (e / 2) (q * q % m) (r * q % m) := by
  show pw_n m d (e / 2) (q * q % m) (if e % 2 = 1 then r * q % m else r) = _
  rw [if_pos h]
theorem pw_sf {m d e q r : Nat} (h : ¬ e % 2 = 1) : pw_n m (d + 1) e q r = pw_n m d (e / 2) (q * q % m) r := by
  show pw_n m d (e / 2) (q * q % m) (if e % 2 = 1 then r * q % m else r) = _
  rw [if_neg h]
theorem pw_2 {a b m : Nat} (ha : a < m) (hb : b < m) (hm : m < 2 ^ 30) : a * b < 2 ^ 63 := by
  have : a * b ≤ 2 ^ 30 * 2 ^ 30 := Nat.mul_le_mul (by omega) (by omega)
  omega
theorem pw_dv (e i : Nat) : e / 2 ^ i / 2 = e / 2 ^ (i + 1) := by rw [Nat.div_div_eq_div_mul, Nat.pow_succ]
theorem cc_Ky_power (l : Launch) (D : va_G) (z : Nat) (M : mw_M) (b0 e0 k : Nat) (hb0 : b0 < 2 ^ 31) (he0 : e0 < 2 ^ 31) (hk0 : k < 2 ^ 31) : mw_C l yy_Ky_power bb_Ky_power 10 (Option.some Jvm.ClassFile.FieldType.int) 0 0 0 0 D z M [.int (nI b0), .int (nI e0), .int (nI k)] (fun v M' => v = some (.int (nI (pw_n (sk_m k) 31 e0 (b0 % sk_m k) 1))) ∧ M' = M) := by
  refine mw_of (by decide) (Nat.le_of_ble_eq_true rfl) ?_
  intro p e s m below meth c ls E hr hk hnm hM hl
  have hx := E.x
  have hb := E.b
  have E : mw_E p m c bb_Ky_power 10 s _ D z "IdentityIssuer$Keys" := E
  have hl : lv_has ls 10 [(0, .int (nI b0)), (1, .int (nI e0)), (2, .int (nI k))] := hl
  have hS : va_S (mw_A z) s.heap s.heap [] := va_S.rf
  have hmk := sk_lt k
  refine va_gets hx hb E.Z.2.2.2.1.1 hS E.o (E.t _ tw_Ky_52) (fun _ h => h) dd_Ky_power_0 ?_
  refine lv_iload_n hx hb dd_Ky_power_3 rfl (lv_at hl 2 rfl) ?_
  refine lv_iconst (v := nI 3) hx hb dd_Ky_power_4 (by decide) ?_
  refine lv_iand hx hb dd_Ky_power_5 ?_
  refine mw_topi (y := nI (k % 4)) (ky_and3 hk0) ?_
  refine va_tl (v := .long (([1071514531, 1070271221, 1069289951, 1067328611] : List Int64).getD (nI (k % 4)).toNatClampNeg 0)) hx hb E.Z.2.2.2.1.2 hS (vp_in_nI (by omega) (by omega)) rfl dd_Ky_power_6 ?_
  refine mw_topl (y := ([1071514531, 1070271221, 1069289951, 1067328611] : List Int64).getD (k % 4) 0) (by rw [nI_clamp (by omega)]) ?_
  refine mw_topl (y := lN (sk_m k)) (sk_tab k) ?_
  refine lv_lstore_n (lv' := [(3, .long (lN (sk_m k))), (0, .int (nI b0)), (1, .int (nI e0)), (2, .int (nI k))]) hx hb dd_Ky_power_7 rfl hl (by decide) rfl (fun ls hl => ?_)
  refine lv_iload_n hx hb dd_Ky_power_8 rfl (lv_at hl 1 rfl) ?_
  refine lv_i2l (v := lN b0) hx hb dd_Ky_power_9 (nI_l (by omega)) ?_
  refine lv_lload_n hx hb dd_Ky_power_10 rfl (lv_at hl 0 rfl) ?_
  refine lv_lrem hx hb dd_Ky_power_11 (lN_nz (by omega) (by omega)) ?_
  refine mw_topl (y := lN (b0 % sk_m k)) (pk_lRem (by omega) (by omega) (by omega)) ?_
  refine lv_lstore (lv' := [(5, .long (lN (b0 % sk_m k))), (3, .long (lN (sk_m k))), (0, .int (nI b0)), (1, .int (nI e0)), (2, .int (nI k))]) hx hb dd_Ky_power_12 hl (by decide) rfl (fun ls hl => ?_)
  refine lv_lconst (v := lN 1) hx hb dd_Ky_power_14 (by decide) ?_
  refine lv_lstore (lv' := [(7, .long (lN 1)), (5, .long (lN (b0 % sk_m k))), (3, .long (lN (sk_m k))), (0, .int (nI b0)), (1, .int (nI e0)), (2, .int (nI k))]) hx hb dd_Ky_power_15 hl (by decide) rfl (fun ls hl => ?_)
  refine lv_iconst (v := nI 0) hx hb dd_Ky_power_17 (by decide) ?_
  refine lv_istore (lv' := [(9, .int (nI 0)), (7, .long (lN 1)), (5, .long (lN (b0 % sk_m k))), (3, .long (lN (sk_m k))), (0, .int (nI b0)), (1, .int (nI e0)), (2, .int (nI k))]) hx hb dd_Ky_power_18 hl (by decide) rfl (fun ls hl => ?_)
  have loop20 : ∀ (d9 : Nat) (i q0 r0 : Nat) (H : Heap) (locs : List Loc) (ls : Array Slot), i + d9 = 31 → pw_n (sk_m k) 31 e0 (b0 % sk_m k) 1 = pw_n (sk_m k) d9 (e0 / 2 ^ i) q0 r0 → q0 < sk_m k → r0 < sk_m k → mw_at D mg_cl z M H → va_S (mw_A z) s.heap H locs → lv_has ls 10 [(9, .int (nI i)), (7, .long (lN r0)), (5, .long (lN q0)), (3, .long (lN (sk_m k))), (0, .int (nI b0)), (1, .int (nI e0)), (2, .int (nI k))] → W p l e ({ frames := 0, cells := 0, slots := 0, locals := 0 } : Room) s m ([.int (nI b0), .int (nI e0), .int (nI k)] : List Value).toArray below meth c H locs (0) (0) (MQ below (mw_Q D z (fun v M' => v = some (.int (nI (pw_n (sk_m k) 31 e0 (b0 % sk_m k) 1))) ∧ M' = M)) ([.int (nI b0), .int (nI e0), .int (nI k)] : List Value).toArray s 0 0 (mw_A z)) (F0 m 20 ls []) := by
    intro d9
    induction d9 with
    | zero =>
      intro i q0 r0 H locs ls hi hu hq0 hr0 hM hS hl
      refine lv_iload hx hb dd_Ky_power_20 (lv_at hl 0 rfl) ?_
      refine lv_bipush (v := nI 31) hx hb dd_Ky_power_22 (by decide) ?_
      refine lv_icmp_ge (tgt := 61) hx hb dd_Ky_power_24 (by decide) (fun h24 => ?_) (fun h24 => ?_)
      ·
        rw [nI_leI (by omega) (by omega)] at h24
        refine lv_lload hx hb dd_Ky_power_61 (lv_at hl 1 rfl) ?_
        refine lv_l2i (v := (lN r0).toInt32) hx hb dd_Ky_power_63 rfl ?_
        refine mw_topi (y := nI r0) (lN_i _) ?_
        refine mr_i E hr hk hM hS (by decide) (by decide) ?_ dd_Ky_power_64
        exact ⟨by rw [hu]; rfl, rfl⟩
      ·
        rw [nI_leI (by omega) (by omega)] at h24
        omega
    | succ d9 ih =>
      intro i q0 r0 H locs ls hi hu hq0 hr0 hM hS hl
      refine lv_iload hx hb dd_Ky_power_20 (lv_at hl 0 rfl) ?_
      refine lv_bipush (v := nI 31) hx hb dd_Ky_power_22 (by decide) ?_
      refine lv_icmp_ge (tgt := 61) hx hb dd_Ky_power_24 (by decide) (fun h24 => ?_) (fun h24 => ?_)
      ·
        rw [nI_leI (by omega) (by omega)] at h24
        omega
      ·
        rw [nI_leI (by omega) (by omega)] at h24
        refine lv_iload_n hx hb dd_Ky_power_27 rfl (lv_at hl 5 rfl) ?_
        refine lv_iload hx hb dd_Ky_power_28 (lv_at hl 0 rfl) ?_
        refine lv_ishr hx hb dd_Ky_power_30 ?_
        refine mw_topi (y := nI (e0 / 2 ^ i)) (pk_shrN he0 _ i (pw_sm i (by omega))) ?_
        refine lv_iconst (v := nI 1) hx hb dd_Ky_power_31 (by decide) ?_
        refine lv_iand hx hb dd_Ky_power_32 ?_
        refine mw_topi (y := nI (e0 / 2 ^ i % 2)) (pk_andN (by have := Nat.div_le_self e0 (2 ^ i); omega) 1 (by decide)) ?_
        refine lv_iconst (v := nI 1) hx hb dd_Ky_power_33 (by decide) ?_
        refine lv_icmp_ne (tgt := 46) hx hb dd_Ky_power_34 (by decide) (fun h34 => ?_) (fun h34 => ?_)
        ·
          rw [nI_eq (by omega) (by omega)] at h34
          refine lv_lload hx hb dd_Ky_power_46 (lv_at hl 2 rfl) ?_
          refine lv_lload hx hb dd_Ky_power_48 (lv_at hl 2 rfl) ?_
          refine lv_lmul hx hb dd_Ky_power_50 ?_
          refine mw_topl (y := lN (q0 * q0)) (lN_mul _ _) ?_
          refine lv_lload_n hx hb dd_Ky_power_51 rfl (lv_at hl 3 rfl) ?_
          refine lv_lrem hx hb dd_Ky_power_52 (lN_nz (by omega) (by omega)) ?_
          refine mw_topl (y := lN (q0 * q0 % sk_m k)) (pk_lRem (pw_2 hq0 hq0 hmk.2.1) (by omega) (by omega)) ?_
          refine lv_lstore (lv' := [(5, .long (lN (q0 * q0 % sk_m k))), (9, .int (nI i)), (7, .long (lN r0)), (3, .long (lN (sk_m k))), (0, .int (nI b0)), (1, .int (nI e0)), (2, .int (nI k))]) hx hb dd_Ky_power_53 hl (by decide) rfl (fun ls hl => ?_)
          refine lv_iinc (k := 1) (v := nI (i + 1)) (lv' := [(9, .int (nI (i + 1))), (5, .long (lN (q0 * q0 % sk_m k))), (7, .long (lN r0)), (3, .long (lN (sk_m k))), (0, .int (nI b0)), (1, .int (nI e0)), (2, .int (nI k))]) hx hb dd_Ky_power_55 hl rfl (nI_1 _) (by decide) rfl (fun ls hl => ?_)
          refine lv_goto (tgt := 20) hx hb dd_Ky_power_58 (by decide) ?_
          exact ih (i + 1) _ _ H locs ls (by omega) (hu.trans ((pw_sf h34).trans (by rw [pw_dv]))) (Nat.mod_lt _ (by omega)) hr0 hM hS (lv_sub hl [0, 2, 1, 3, 4, 5, 6] rfl)
        ·
          rw [nI_eq (by omega) (by omega)] at h34
          refine lv_lload hx hb dd_Ky_power_37 (lv_at hl 1 rfl) ?_
          refine lv_lload hx hb dd_Ky_power_39 (lv_at hl 2 rfl) ?_
          refine lv_lmul hx hb dd_Ky_power_41 ?_
          refine mw_topl (y := lN (r0 * q0)) (lN_mul _ _) ?_
          refine lv_lload_n hx hb dd_Ky_power_42 rfl (lv_at hl 3 rfl) ?_
          refine lv_lrem hx hb dd_Ky_power_43 (lN_nz (by omega) (by omega)) ?_
          refine mw_topl (y := lN (r0 * q0 % sk_m k)) (pk_lRem (pw_2 hr0 hq0 hmk.2.1) (by omega) (by omega)) ?_
          refine lv_lstore (lv' := [(7, .long (lN (r0 * q0 % sk_m k))), (9, .int (nI i)), (5, .long (lN q0)), (3, .long (lN (sk_m k))), (0, .int (nI b0)), (1, .int (nI e0)), (2, .int (nI k))]) hx hb dd_Ky_power_44 hl (by decide) rfl (fun ls hl => ?_)
          refine lv_lload hx hb dd_Ky_power_46 (lv_at hl 2 rfl) ?_
          refine lv_lload hx hb dd_Ky_power_48 (lv_at hl 2 rfl) ?_
          refine lv_lmul hx hb dd_Ky_power_50 ?_
          refine mw_topl (y := lN (q0 * q0)) (lN_mul _ _) ?_
          refine lv_lload_n hx hb dd_Ky_power_51 rfl (lv_at hl 3 rfl) ?_
          refine lv_lrem hx hb dd_Ky_power_52 (lN_nz (by omega) (by omega)) ?_
          refine mw_topl (y := lN (q0 * q0 % sk_m k)) (pk_lRem (pw_2 hq0 hq0 hmk.2.1) (by omega) (by omega)) ?_
          refine lv_lstore (lv' := [(5, .long (lN (q0 * q0 % sk_m k))), (7, .long (lN (r0 * q0 % sk_m k))), (9, .int (nI i)), (3, .long (lN (sk_m k))), (0, .int (nI b0)), (1, .int (nI e0)), (2, .int (nI k))]) hx hb dd_Ky_power_53 hl (by decide) rfl (fun ls hl => ?_)
          refine lv_iinc (k := 2) (v := nI (i + 1)) (lv' := [(9, .int (nI (i + 1))), (5, .long (lN (q0 * q0 % sk_m k))), (7, .long (lN (r0 * q0 % sk_m k))), (3, .long (lN (sk_m k))), (0, .int (nI b0)), (1, .int (nI e0)), (2, .int (nI k))]) hx hb dd_Ky_power_55 hl rfl (nI_1 _) (by decide) rfl (fun ls hl => ?_)
          refine lv_goto (tgt := 20) hx hb dd_Ky_power_58 (by decide) ?_
          exact ih (i + 1) _ _ H locs ls (by omega) (hu.trans ((pw_st h34).trans (by rw [pw_dv]))) (Nat.mod_lt _ (by omega)) (Nat.mod_lt _ (by omega)) hM hS (lv_sub hl [0, 2, 1, 3, 4, 5, 6] rfl)
  exact loop20 31 0 (b0 % sk_m k) 1 s.heap [] ls (by omega) (by rw [Nat.pow_zero, Nat.div_one]) (Nat.mod_lt _ (by omega)) (by omega) hM hS (lv_sub hl [0, 1, 2, 3, 4, 5, 6] rfl)
theorem cc_Ky_signatureOf (l : Launch) (D : va_G) (z : Nat) (M : mw_M) (b0 k : Nat) (hb0 : b0 < 2 ^ 31) (hk0 : k < 2 ^ 31) : mw_C l yy_Ky_signatureOf bb_Ky_signatureOf 2 (Option.some Jvm.ClassFile.FieldType.int) 1 29 0 0 D z M [.int (nI b0), .int (nI k)] (fun v M' => v = some (.int (nI (pw_n (sk_m k) 31 (sk_s k) (b0 % sk_m k) 1))) ∧ M' = M) := by
  refine mw_of (by decide) (Nat.le_of_ble_eq_true rfl) ?_
  intro p e s m below meth c ls E hr hk hnm hM hl
  have hx := E.x
  have hb := E.b
  have E : mw_E p m c bb_Ky_signatureOf 2 s _ D z "IdentityIssuer$Keys" := E
  have hl : lv_has ls 2 [(0, .int (nI b0)), (1, .int (nI k))] := hl
  have hS : va_S (mw_A z) s.heap s.heap [] := va_S.rf
  refine lv_iload_n hx hb dd_Ky_signatureOf_0 rfl (lv_at hl 0 rfl) ?_
  refine va_gets hx hb E.Z.2.2.1.1 hS E.o (E.t _ tw_Ky_45) (fun _ h => h) dd_Ky_signatureOf_1 ?_
  refine lv_iload_n hx hb dd_Ky_signatureOf_4 rfl (lv_at hl 1 rfl) ?_
  refine lv_iconst (v := nI 3) hx hb dd_Ky_signatureOf_5 (by decide) ?_
  refine lv_iand hx hb dd_Ky_signatureOf_6 ?_
  refine mw_topi (y := nI (k % 4)) (ky_and3 hk0) ?_
  refine va_ti (v := .int (([278664713, 526488929, 399288977, 940729625] : List Int32).getD (nI (k % 4)).toNatClampNeg 0)) hx hb E.Z.2.2.1.2 hS (vp_in_nI (by omega) (by omega)) rfl dd_Ky_signatureOf_7 ?_
  refine mw_topi (y := ([278664713, 526488929, 399288977, 940729625] : List Int32).getD (k % 4) 0) (by rw [nI_clamp (by omega)]) ?_
  refine mw_topi (y := nI (sk_s k)) (sk_tabS k) ?_
  refine lv_iload_n hx hb dd_Ky_signatureOf_8 rfl (lv_at hl 1 rfl) ?_
  refine mw_S (As := [.int (nI b0), .int (nI (sk_s k)), .int (nI k)]) (rest := []) E (cc_Ky_power l D z (M) b0 (sk_s k) k hb0 (by have := (sk_at k).2.2.2.1; omega) hk0) ky_Ky_power kv_Ky_power tw_Ky_48 hM hS rfl hl.1 rfl (Nat.le_of_ble_eq_true rfl) dd_Ky_signatureOf_9 (by first | decide | exact ⟨by dsimp only; omega, by dsimp only; omega⟩) (by decide) (fun v M1 H locs hp hM hS => ?_)
  obtain ⟨rfl, hq⟩ := hp
  have hq := hq.symm
  subst hq
  refine W.eq (g2 := F0 m 12 ls [.int (nI (pw_n (sk_m k) 31 (sk_s k) (b0 % sk_m k) 1))]) rfl ?_
  refine mr_i E hr hk hM hS (by decide) (by decide) ?_ dd_Ky_signatureOf_12
  exact ⟨rfl, rfl⟩
theorem cc_Ky_isSignature (l : Launch) (D : va_G) (z : Nat) (M : mw_M) (s0 h0 k : Nat) (hs0 : s0 < 2 ^ 31) (hh0 : h0 < 2 ^ 31) (hk0 : k < 2 ^ 31) : mw_C l yy_Ky_isSignature bb_Ky_isSignature 3 (Option.some Jvm.ClassFile.FieldType.boolean) 1 29 0 0 D z M [.int (nI s0), .int (nI h0), .int (nI k)] (fun v M' => ∃ bb : Bool, v = some (.int (zI bb)) ∧ (bb = true ↔ s0 < sk_m k ∧ pw_n (sk_m k) 31 65537 (s0 % sk_m k) 1 = h0) ∧ M' = M) := by
  refine mw_of (by decide) (Nat.le_of_ble_eq_true rfl) ?_
  intro p e s m below meth c ls E hr hk hnm hM hl
  have hx := E.x
  have hb := E.b
  have E : mw_E p m c bb_Ky_isSignature 3 s _ D z "IdentityIssuer$Keys" := E
  have hl : lv_has ls 3 [(0, .int (nI s0)), (1, .int (nI h0)), (2, .int (nI k))] := hl
  have hS : va_S (mw_A z) s.heap s.heap [] := va_S.rf
  have hmk := sk_lt k
  refine lv_iload_n hx hb dd_Ky_isSignature_0 rfl (lv_at hl 0 rfl) ?_
  refine lv_i2l (v := lN s0) hx hb dd_Ky_isSignature_1 (nI_l (by omega)) ?_
  refine va_gets hx hb E.Z.2.2.2.1.1 hS E.o (E.t _ tw_Ky_52) (fun _ h => h) dd_Ky_isSignature_2 ?_
  refine lv_iload_n hx hb dd_Ky_isSignature_5 rfl (lv_at hl 2 rfl) ?_
  refine lv_iconst (v := nI 3) hx hb dd_Ky_isSignature_6 (by decide) ?_
  refine lv_iand hx hb dd_Ky_isSignature_7 ?_
  refine mw_topi (y := nI (k % 4)) (ky_and3 hk0) ?_
  refine va_tl (v := .long (([1071514531, 1070271221, 1069289951, 1067328611] : List Int64).getD (nI (k % 4)).toNatClampNeg 0)) hx hb E.Z.2.2.2.1.2 hS (vp_in_nI (by omega) (by omega)) rfl dd_Ky_isSignature_8 ?_
  refine mw_topl (y := ([1071514531, 1070271221, 1069289951, 1067328611] : List Int64).getD (k % 4) 0) (by rw [nI_clamp (by omega)]) ?_
  refine mw_topl (y := lN (sk_m k)) (sk_tab k) ?_
  refine mw_lcmp (v := lc s0 (sk_m k)) hx hb (lc_n (by omega) (by omega)) dd_Ky_isSignature_9 ?_
  refine lv_if_ge (tgt := 28) hx hb dd_Ky_isSignature_10 (by decide) (fun h10 => ?_) (fun h10 => ?_)
  ·
    refine lv_iconst (v := nI 0) hx hb dd_Ky_isSignature_28 (by decide) ?_
    refine mr_z E hr hk hM hS (by decide) (by decide) (rfl) ?_ dd_Ky_isSignature_29
    exact ⟨false, rfl, ⟨fun q => (by cases q), fun q => absurd q.1 (by have := lc_ge.mp h10; omega)⟩, rfl⟩
  ·
    refine lv_iload_n hx hb dd_Ky_isSignature_13 rfl (lv_at hl 0 rfl) ?_
    refine lv_ldc (v := 65537) hx hb E.o (E.t _ tw_Ky_56) dd_Ky_isSignature_14 ?_
    refine mw_topi (y := nI 65537) (by decide) ?_
    refine lv_iload_n hx hb dd_Ky_isSignature_16 rfl (lv_at hl 2 rfl) ?_
    refine mw_S (As := [.int (nI s0), .int (nI 65537), .int (nI k)]) (rest := []) E (cc_Ky_power l D z (M) s0 (65537) k hs0 (by decide) hk0) ky_Ky_power kv_Ky_power tw_Ky_48 hM hS rfl hl.1 rfl (Nat.le_of_ble_eq_true rfl) dd_Ky_isSignature_17 (by first | decide | exact ⟨by dsimp only; omega, by dsimp only; omega⟩) (by decide) (fun v M1 H locs hp hM hS => ?_)
    obtain ⟨rfl, hq⟩ := hp
    have hq := hq.symm
    subst hq
    refine W.eq (g2 := F0 m 20 ls [.int (nI (pw_n (sk_m k) 31 65537 (s0 % sk_m k) 1))]) rfl ?_
    refine lv_iload_n hx hb dd_Ky_isSignature_20 rfl (lv_at hl 1 rfl) ?_
    have hpw := pw_lt (show 1 < sk_m k by omega) 31 65537 (s0 % sk_m k) 1 (by omega)
    refine lv_icmp_ne (tgt := 28) hx hb dd_Ky_isSignature_21 (by decide) (fun h21 => ?_) (fun h21 => ?_)
    ·
      rw [nI_eq (by omega) (by omega)] at h21
      refine lv_iconst (v := nI 0) hx hb dd_Ky_isSignature_28 (by decide) ?_
      refine mr_z E hr hk hM hS (by decide) (by decide) (rfl) ?_ dd_Ky_isSignature_29
      exact ⟨false, rfl, ⟨fun q => (by cases q), fun q => absurd q.2 h21⟩, rfl⟩
    ·
      rw [nI_eq (by omega) (by omega)] at h21
      refine lv_iconst (v := nI 1) hx hb dd_Ky_isSignature_24 (by decide) ?_
      refine lv_goto (tgt := 29) hx hb dd_Ky_isSignature_25 (by decide) ?_
      refine mr_z E hr hk hM hS (by decide) (by decide) (rfl) ?_ dd_Ky_isSignature_29
      exact ⟨true, rfl, ⟨fun _ => ⟨Nat.lt_of_not_le (fun q => h10 (lc_ge.mpr q)), h21⟩, fun _ => rfl⟩, rfl⟩
theorem cc_Mo_power (l : Launch) (D : va_G) (z : Nat) (M : mw_M) (b0 e0 m0 : Nat) (hb0 : b0 < 2 ^ 62) (he0 : e0 < 2 ^ 31) (hm0 : 1 < m0) (hm1 : m0 < 2 ^ 30) : mw_C l yy_Mo_power bb_Mo_power 12 (Option.some Jvm.ClassFile.FieldType.long) 0 0 0 0 D z M [.long (lN b0), .long (lN e0), .long (lN m0)] (fun v M' => v = some (.long (lN (pw_n m0 31 e0 (b0 % m0) 1))) ∧ M' = M) := by
  refine mw_of (by decide) (Nat.le_of_ble_eq_true rfl) ?_
  intro p e s m below meth c ls E hr hk hnm hM hl
  have hx := E.x
  have hb := E.b
  have E : mw_E p m c bb_Mo_power 12 s _ D z "IdentityIssuerModel" := E
  have hl : lv_has ls 12 [(0, .long (lN b0)), (2, .long (lN e0)), (4, .long (lN m0))] := hl
  have hS : va_S (mw_A z) s.heap s.heap [] := va_S.rf
  refine lv_lconst (v := lN 1) hx hb dd_Mo_power_0 (by decide) ?_
  refine lv_lstore (lv' := [(6, .long (lN 1)), (0, .long (lN b0)), (2, .long (lN e0)), (4, .long (lN m0))]) hx hb dd_Mo_power_1 hl (by decide) rfl (fun ls hl => ?_)
  refine lv_lload_n hx hb dd_Mo_power_3 rfl (lv_at hl 1 rfl) ?_
  refine lv_lload hx hb dd_Mo_power_4 (lv_at hl 3 rfl) ?_
  refine lv_lrem hx hb dd_Mo_power_6 (lN_nz (by omega) (by omega)) ?_
  refine mw_topl (y := lN (b0 % m0)) (pk_lRem (by omega) (by omega) (by omega)) ?_
  refine lv_lstore (lv' := [(8, .long (lN (b0 % m0))), (6, .long (lN 1)), (0, .long (lN b0)), (2, .long (lN e0)), (4, .long (lN m0))]) hx hb dd_Mo_power_7 hl (by decide) rfl (fun ls hl => ?_)
  refine lv_lload_n hx hb dd_Mo_power_9 rfl (lv_at hl 3 rfl) ?_
  refine lv_lstore (lv' := [(10, .long (lN e0)), (8, .long (lN (b0 % m0))), (6, .long (lN 1)), (0, .long (lN b0)), (2, .long (lN e0)), (4, .long (lN m0))]) hx hb dd_Mo_power_10 hl (by decide) rfl (fun ls hl => ?_)
  have loop12 : ∀ (d9 : Nat) (e1 q0 r0 : Nat) (H : Heap) (locs : List Loc) (ls : Array Slot), pw_n m0 31 e0 (b0 % m0) 1 = pw_n m0 d9 e1 q0 r0 → e1 < 2 ^ d9 → e1 < 2 ^ 31 → q0 < m0 → r0 < m0 → mw_at D mg_cl z M H → va_S (mw_A z) s.heap H locs → lv_has ls 12 [(10, .long (lN e1)), (8, .long (lN q0)), (6, .long (lN r0)), (4, .long (lN m0))] → W p l e ({ frames := 0, cells := 0, slots := 0, locals := 0 } : Room) s m ([.long (lN b0), .long (lN e0), .long (lN m0)] : List Value).toArray below meth c H locs (0) (0) (MQ below (mw_Q D z (fun v M' => v = some (.long (lN (pw_n m0 31 e0 (b0 % m0) 1))) ∧ M' = M)) ([.long (lN b0), .long (lN e0), .long (lN m0)] : List Value).toArray s 0 0 (mw_A z)) (F0 m 12 ls []) := by
    intro d9
    induction d9 with
    | zero =>
      intro e1 q0 r0 H locs ls hu he1 he31 hq0 hr0 hM hS hl
      refine lv_lload hx hb dd_Mo_power_12 (lv_at hl 0 rfl) ?_
      refine lv_lconst (v := lN 0) hx hb dd_Mo_power_14 (by decide) ?_
      refine mw_lcmp (v := lc e1 0) hx hb (lc_n (by omega) (by omega)) dd_Mo_power_15 ?_
      refine lv_if_le (tgt := 66) hx hb dd_Mo_power_16 (by decide) (fun h16 => ?_) (fun h16 => ?_)
      ·
        refine lv_lload hx hb dd_Mo_power_66 (lv_at hl 2 rfl) ?_
        refine mr_l E hr hk hM hS (by decide) (by decide) ?_ dd_Mo_power_68
        exact ⟨by rw [hu]; rfl, rfl⟩
      ·
        exact absurd (lc_le.mpr (by omega)) h16
    | succ d9 ih =>
      intro e1 q0 r0 H locs ls hu he1 he31 hq0 hr0 hM hS hl
      refine lv_lload hx hb dd_Mo_power_12 (lv_at hl 0 rfl) ?_
      refine lv_lconst (v := lN 0) hx hb dd_Mo_power_14 (by decide) ?_
      refine mw_lcmp (v := lc e1 0) hx hb (lc_n (by omega) (by omega)) dd_Mo_power_15 ?_
      refine lv_if_le (tgt := 66) hx hb dd_Mo_power_16 (by decide) (fun h16 => ?_) (fun h16 => ?_)
      ·
        refine lv_lload hx hb dd_Mo_power_66 (lv_at hl 2 rfl) ?_
        refine mr_l E hr hk hM hS (by decide) (by decide) ?_ dd_Mo_power_68
        exact ⟨by rw [hu, show e1 = 0 by have := lc_le.mp h16; omega, pw_0], rfl⟩
      ·
        refine lv_lload hx hb dd_Mo_power_19 (lv_at hl 0 rfl) ?_
        refine lv_ldc2 (v := 2) hx hb E.o (E.t _ tw_Mo_257) dd_Mo_power_21 ?_
        refine mw_topl (y := lN 2) (by decide) ?_
        refine lv_lrem hx hb dd_Mo_power_24 (by decide) ?_
        refine mw_topl (y := lN (e1 % 2)) (pk_lRem (by omega) (by decide) (by decide)) ?_
        refine lv_lconst (v := lN 1) hx hb dd_Mo_power_25 (by decide) ?_
        refine mw_lcmp (v := lc (e1 % 2) 1) hx hb (lc_n (by omega) (by omega)) dd_Mo_power_26 ?_
        refine lv_if_ne (tgt := 41) hx hb dd_Mo_power_27 (by decide) (fun h27 => ?_) (fun h27 => ?_)
        ·
          refine lv_lload hx hb dd_Mo_power_41 (lv_at hl 2 rfl) ?_
          refine lv_lstore (lv' := [(6, .long (lN r0)), (10, .long (lN e1)), (8, .long (lN q0)), (4, .long (lN m0))]) hx hb dd_Mo_power_43 hl (by decide) rfl (fun ls hl => ?_)
          refine lv_lload hx hb dd_Mo_power_45 (lv_at hl 2 rfl) ?_
          refine lv_lload hx hb dd_Mo_power_47 (lv_at hl 2 rfl) ?_
          refine lv_lmul hx hb dd_Mo_power_49 ?_
          refine mw_topl (y := lN (q0 * q0)) (lN_mul _ _) ?_
          refine lv_lload hx hb dd_Mo_power_50 (lv_at hl 3 rfl) ?_
          refine lv_lrem hx hb dd_Mo_power_52 (lN_nz (by omega) (by omega)) ?_
          refine mw_topl (y := lN (q0 * q0 % m0)) (pk_lRem (pw_2 hq0 hq0 hm1) (by omega) (by omega)) ?_
          refine lv_lstore (lv' := [(8, .long (lN (q0 * q0 % m0))), (6, .long (lN r0)), (10, .long (lN e1)), (4, .long (lN m0))]) hx hb dd_Mo_power_53 hl (by decide) rfl (fun ls hl => ?_)
          refine lv_lload hx hb dd_Mo_power_55 (lv_at hl 2 rfl) ?_
          refine lv_ldc2 (v := 2) hx hb E.o (E.t _ tw_Mo_257) dd_Mo_power_57 ?_
          refine mw_topl (y := lN 2) (by decide) ?_
          refine lv_ldiv hx hb dd_Mo_power_60 (by decide) ?_
          refine mw_topl (y := lN (e1 / 2)) (pk_lDiv (by omega) (by decide) (by decide)) ?_
          refine lv_lstore (lv' := [(10, .long (lN (e1 / 2))), (8, .long (lN (q0 * q0 % m0))), (6, .long (lN r0)), (4, .long (lN m0))]) hx hb dd_Mo_power_61 hl (by decide) rfl (fun ls hl => ?_)
          refine lv_goto (tgt := 12) hx hb dd_Mo_power_63 (by decide) ?_
          exact ih _ _ _ H locs ls (hu.trans (pw_sf (fun q => h27 (lc_eq.mpr q)))) (by rw [Nat.pow_succ] at he1; omega) (by omega) (Nat.mod_lt _ (by omega)) hr0 hM hS (lv_sub hl [0, 1, 2, 3] rfl)
        ·
          refine lv_lload hx hb dd_Mo_power_30 (lv_at hl 2 rfl) ?_
          refine lv_lload hx hb dd_Mo_power_32 (lv_at hl 1 rfl) ?_
          refine lv_lmul hx hb dd_Mo_power_34 ?_
          refine mw_topl (y := lN (r0 * q0)) (lN_mul _ _) ?_
          refine lv_lload hx hb dd_Mo_power_35 (lv_at hl 3 rfl) ?_
          refine lv_lrem hx hb dd_Mo_power_37 (lN_nz (by omega) (by omega)) ?_
          refine mw_topl (y := lN (r0 * q0 % m0)) (pk_lRem (pw_2 hr0 hq0 hm1) (by omega) (by omega)) ?_
          refine lv_goto (tgt := 43) hx hb dd_Mo_power_38 (by decide) ?_
          refine lv_lstore (lv' := [(6, .long (lN (r0 * q0 % m0))), (10, .long (lN e1)), (8, .long (lN q0)), (4, .long (lN m0))]) hx hb dd_Mo_power_43 hl (by decide) rfl (fun ls hl => ?_)
          refine lv_lload hx hb dd_Mo_power_45 (lv_at hl 2 rfl) ?_
          refine lv_lload hx hb dd_Mo_power_47 (lv_at hl 2 rfl) ?_
          refine lv_lmul hx hb dd_Mo_power_49 ?_
          refine mw_topl (y := lN (q0 * q0)) (lN_mul _ _) ?_
          refine lv_lload hx hb dd_Mo_power_50 (lv_at hl 3 rfl) ?_
          refine lv_lrem hx hb dd_Mo_power_52 (lN_nz (by omega) (by omega)) ?_
          refine mw_topl (y := lN (q0 * q0 % m0)) (pk_lRem (pw_2 hq0 hq0 hm1) (by omega) (by omega)) ?_
          refine lv_lstore (lv' := [(8, .long (lN (q0 * q0 % m0))), (6, .long (lN (r0 * q0 % m0))), (10, .long (lN e1)), (4, .long (lN m0))]) hx hb dd_Mo_power_53 hl (by decide) rfl (fun ls hl => ?_)
          refine lv_lload hx hb dd_Mo_power_55 (lv_at hl 2 rfl) ?_
          refine lv_ldc2 (v := 2) hx hb E.o (E.t _ tw_Mo_257) dd_Mo_power_57 ?_
          refine mw_topl (y := lN 2) (by decide) ?_
          refine lv_ldiv hx hb dd_Mo_power_60 (by decide) ?_
          refine mw_topl (y := lN (e1 / 2)) (pk_lDiv (by omega) (by decide) (by decide)) ?_
          refine lv_lstore (lv' := [(10, .long (lN (e1 / 2))), (8, .long (lN (q0 * q0 % m0))), (6, .long (lN (r0 * q0 % m0))), (4, .long (lN m0))]) hx hb dd_Mo_power_61 hl (by decide) rfl (fun ls hl => ?_)
          refine lv_goto (tgt := 12) hx hb dd_Mo_power_63 (by decide) ?_
          exact ih _ _ _ H locs ls (hu.trans (pw_st (lc_eq.mp h27))) (by rw [Nat.pow_succ] at he1; omega) (by omega) (Nat.mod_lt _ (by omega)) (Nat.mod_lt _ (by omega)) hM hS (lv_sub hl [0, 1, 2, 3] rfl)
  exact loop12 31 e0 (b0 % m0) 1 s.heap [] ls rfl he0 he0 (Nat.mod_lt _ (by omega)) (by omega) hM hS (lv_sub hl [0, 1, 2, 5] rfl)
theorem cc_Mo_modulus (l : Launch) (D : va_G) (z : Nat) (M : mw_M) (k : Nat) (hk0 : k < 2 ^ 31) : mw_C l yy_Mo_modulus bb_Mo_modulus 1 (Option.some Jvm.ClassFile.FieldType.long) 0 0 0 0 D z M [.int (nI k)] (fun v M' => v = some (.long (lN (sk_m k))) ∧ M' = M) := by
  refine mw_of (by decide) (Nat.le_of_ble_eq_true rfl) ?_
  intro p e s m below meth c ls E hr hk hnm hM hl
  have hx := E.x
  have hb := E.b
  have E : mw_E p m c bb_Mo_modulus 1 s _ D z "IdentityIssuerModel" := E
  have hl : lv_has ls 1 [(0, .int (nI k))] := hl
  have hS : va_S (mw_A z) s.heap s.heap [] := va_S.rf
  refine lv_iload_n hx hb dd_Mo_modulus_0 rfl (lv_at hl 0 rfl) ?_
  refine lv_iconst (v := nI 4) hx hb dd_Mo_modulus_1 (by decide) ?_
  refine lv_irem hx hb dd_Mo_modulus_2 (by decide) ?_
  refine mw_topi (y := nI (k % 4)) (pk_rem (by omega) (by decide) (by decide)) ?_
  refine lv_if_ne (tgt := 12) hx hb dd_Mo_modulus_3 (by decide) (fun h3 => ?_) (fun h3 => ?_)
  ·
    have h3 : ¬ k % 4 = 0 := fun q => h3 (by rw [q]; rfl)
    refine lv_iload_n hx hb dd_Mo_modulus_12 rfl (lv_at hl 0 rfl) ?_
    refine lv_iconst (v := nI 4) hx hb dd_Mo_modulus_13 (by decide) ?_
    refine lv_irem hx hb dd_Mo_modulus_14 (by decide) ?_
    refine mw_topi (y := nI (k % 4)) (pk_rem (by omega) (by decide) (by decide)) ?_
    refine lv_iconst (v := nI 1) hx hb dd_Mo_modulus_15 (by decide) ?_
    refine lv_icmp_ne (tgt := 25) hx hb dd_Mo_modulus_16 (by decide) (fun h16 => ?_) (fun h16 => ?_)
    ·
      rw [nI_eq (by omega) (by omega)] at h16
      refine lv_iload_n hx hb dd_Mo_modulus_25 rfl (lv_at hl 0 rfl) ?_
      refine lv_iconst (v := nI 4) hx hb dd_Mo_modulus_26 (by decide) ?_
      refine lv_irem hx hb dd_Mo_modulus_27 (by decide) ?_
      refine mw_topi (y := nI (k % 4)) (pk_rem (by omega) (by decide) (by decide)) ?_
      refine lv_iconst (v := nI 2) hx hb dd_Mo_modulus_28 (by decide) ?_
      refine lv_icmp_ne (tgt := 38) hx hb dd_Mo_modulus_29 (by decide) (fun h29 => ?_) (fun h29 => ?_)
      ·
        rw [nI_eq (by omega) (by omega)] at h29
        refine lv_ldc2 (v := 1067328611) hx hb E.o (E.t _ tw_Mo_238) dd_Mo_modulus_38 ?_
        refine mw_topl (y := lN 1067328611) (by decide) ?_
        refine mr_l E hr hk hM hS (by decide) (by decide) ?_ dd_Mo_modulus_41
        exact ⟨by unfold sk_m; rw [if_neg h3, if_neg h16, if_neg h29], rfl⟩
      ·
        rw [nI_eq (by omega) (by omega)] at h29
        refine lv_ldc2 (v := 1069289951) hx hb E.o (E.t _ tw_Mo_236) dd_Mo_modulus_32 ?_
        refine mw_topl (y := lN 1069289951) (by decide) ?_
        refine lv_goto (tgt := 41) hx hb dd_Mo_modulus_35 (by decide) ?_
        refine mr_l E hr hk hM hS (by decide) (by decide) ?_ dd_Mo_modulus_41
        exact ⟨by unfold sk_m; rw [if_neg h3, if_neg h16, if_pos h29], rfl⟩
    ·
      rw [nI_eq (by omega) (by omega)] at h16
      refine lv_ldc2 (v := 1070271221) hx hb E.o (E.t _ tw_Mo_234) dd_Mo_modulus_19 ?_
      refine mw_topl (y := lN 1070271221) (by decide) ?_
      refine lv_goto (tgt := 41) hx hb dd_Mo_modulus_22 (by decide) ?_
      refine mr_l E hr hk hM hS (by decide) (by decide) ?_ dd_Mo_modulus_41
      exact ⟨by unfold sk_m; rw [if_neg h3, if_pos h16], rfl⟩
  ·
    have h3 : k % 4 = 0 := (nI_eq (b := 0) (by omega) (by decide)).mp h3
    refine lv_ldc2 (v := 1071514531) hx hb E.o (E.t _ tw_Mo_232) dd_Mo_modulus_6 ?_
    refine mw_topl (y := lN 1071514531) (by decide) ?_
    refine lv_goto (tgt := 41) hx hb dd_Mo_modulus_9 (by decide) ?_
    refine mr_l E hr hk hM hS (by decide) (by decide) ?_ dd_Mo_modulus_41
    exact ⟨by unfold sk_m; rw [if_pos h3], rfl⟩
theorem cc_Mo_factor (l : Launch) (D : va_G) (z : Nat) (M : mw_M) (k : Nat) (hk0 : k < 2 ^ 31) : mw_C l yy_Mo_factor bb_Mo_factor 1 (Option.some Jvm.ClassFile.FieldType.long) 0 0 0 0 D z M [.int (nI k)] (fun v M' => v = some (.long (lN (sk_f k))) ∧ M' = M) := by
  refine mw_of (by decide) (Nat.le_of_ble_eq_true rfl) ?_
  intro p e s m below meth c ls E hr hk hnm hM hl
  have hx := E.x
  have hb := E.b
  have E : mw_E p m c bb_Mo_factor 1 s _ D z "IdentityIssuerModel" := E
  have hl : lv_has ls 1 [(0, .int (nI k))] := hl
  have hS : va_S (mw_A z) s.heap s.heap [] := va_S.rf
  refine lv_iload_n hx hb dd_Mo_factor_0 rfl (lv_at hl 0 rfl) ?_
  refine lv_iconst (v := nI 4) hx hb dd_Mo_factor_1 (by decide) ?_
  refine lv_irem hx hb dd_Mo_factor_2 (by decide) ?_
  refine mw_topi (y := nI (k % 4)) (pk_rem (by omega) (by decide) (by decide)) ?_
  refine lv_if_ne (tgt := 12) hx hb dd_Mo_factor_3 (by decide) (fun h3 => ?_) (fun h3 => ?_)
  ·
    have h3 : ¬ k % 4 = 0 := fun q => h3 (by rw [q]; rfl)
    refine lv_iload_n hx hb dd_Mo_factor_12 rfl (lv_at hl 0 rfl) ?_
    refine lv_iconst (v := nI 4) hx hb dd_Mo_factor_13 (by decide) ?_
    refine lv_irem hx hb dd_Mo_factor_14 (by decide) ?_
    refine mw_topi (y := nI (k % 4)) (pk_rem (by omega) (by decide) (by decide)) ?_
    refine lv_iconst (v := nI 1) hx hb dd_Mo_factor_15 (by decide) ?_
    refine lv_icmp_ne (tgt := 25) hx hb dd_Mo_factor_16 (by decide) (fun h16 => ?_) (fun h16 => ?_)
    ·
      rw [nI_eq (by omega) (by omega)] at h16
      refine lv_iload_n hx hb dd_Mo_factor_25 rfl (lv_at hl 0 rfl) ?_
      refine lv_iconst (v := nI 4) hx hb dd_Mo_factor_26 (by decide) ?_
      refine lv_irem hx hb dd_Mo_factor_27 (by decide) ?_
      refine mw_topi (y := nI (k % 4)) (pk_rem (by omega) (by decide) (by decide)) ?_
      refine lv_iconst (v := nI 2) hx hb dd_Mo_factor_28 (by decide) ?_
      refine lv_icmp_ne (tgt := 38) hx hb dd_Mo_factor_29 (by decide) (fun h29 => ?_) (fun h29 => ?_)
      ·
        rw [nI_eq (by omega) (by omega)] at h29
        refine lv_ldc2 (v := 32653) hx hb E.o (E.t _ tw_Mo_246) dd_Mo_factor_38 ?_
        refine mw_topl (y := lN 32653) (by decide) ?_
        refine mr_l E hr hk hM hS (by decide) (by decide) ?_ dd_Mo_factor_41
        exact ⟨by unfold sk_f; rw [if_neg h3, if_neg h16, if_neg h29], rfl⟩
      ·
        rw [nI_eq (by omega) (by omega)] at h29
        refine lv_ldc2 (v := 32693) hx hb E.o (E.t _ tw_Mo_244) dd_Mo_factor_32 ?_
        refine mw_topl (y := lN 32693) (by decide) ?_
        refine lv_goto (tgt := 41) hx hb dd_Mo_factor_35 (by decide) ?_
        refine mr_l E hr hk hM hS (by decide) (by decide) ?_ dd_Mo_factor_41
        exact ⟨by unfold sk_f; rw [if_neg h3, if_neg h16, if_pos h29], rfl⟩
    ·
      rw [nI_eq (by omega) (by omega)] at h16
      refine lv_ldc2 (v := 32713) hx hb E.o (E.t _ tw_Mo_242) dd_Mo_factor_19 ?_
      refine mw_topl (y := lN 32713) (by decide) ?_
      refine lv_goto (tgt := 41) hx hb dd_Mo_factor_22 (by decide) ?_
      refine mr_l E hr hk hM hS (by decide) (by decide) ?_ dd_Mo_factor_41
      exact ⟨by unfold sk_f; rw [if_neg h3, if_pos h16], rfl⟩
  ·
    have h3 : k % 4 = 0 := (nI_eq (b := 0) (by omega) (by decide)).mp h3
    refine lv_ldc2 (v := 32719) hx hb E.o (E.t _ tw_Mo_240) dd_Mo_factor_6 ?_
    refine mw_topl (y := lN 32719) (by decide) ?_
    refine lv_goto (tgt := 41) hx hb dd_Mo_factor_9 (by decide) ?_
    refine mr_l E hr hk hM hS (by decide) (by decide) ?_ dd_Mo_factor_41
    exact ⟨by unfold sk_f; rw [if_pos h3], rfl⟩
theorem cc_Mo_mix (l : Launch) (D : va_G) (z : Nat) (M : mw_M) (h0 b0 : Nat) (hh0 : h0 < 1000000007) (hb0 : b0 < 256) : mw_C l yy_Mo_mix bb_Mo_mix 3 (Option.some Jvm.ClassFile.FieldType.long) 0 0 0 0 D z M [.long (lN h0), .int (nI b0)] (fun v M' => v = some (.long (lN ((h0 * 257 + b0 + 1) % 1000000007))) ∧ M' = M) := by
  refine mw_of (by decide) (Nat.le_of_ble_eq_true rfl) ?_
  intro p e s m below meth c ls E hr hk hnm hM hl
  have hx := E.x
  have hb := E.b
  have E : mw_E p m c bb_Mo_mix 3 s _ D z "IdentityIssuerModel" := E
  have hl : lv_has ls 3 [(0, .long (lN h0)), (2, .int (nI b0))] := hl
  have hS : va_S (mw_A z) s.heap s.heap [] := va_S.rf
  refine lv_lload_n hx hb dd_Mo_mix_0 rfl (lv_at hl 0 rfl) ?_
  refine lv_ldc2 (v := 257) hx hb E.o (E.t _ tw_Mo_259) dd_Mo_mix_1 ?_
  refine mw_topl (y := lN 257) (by decide) ?_
  refine lv_lmul hx hb dd_Mo_mix_4 ?_
  refine lv_iload_n hx hb dd_Mo_mix_5 rfl (lv_at hl 1 rfl) ?_
  refine lv_i2l (v := lN b0) hx hb dd_Mo_mix_6 (nI_l (by omega)) ?_
  refine lv_ladd hx hb dd_Mo_mix_7 ?_
  refine lv_lconst (v := lN 1) hx hb dd_Mo_mix_8 (by decide) ?_
  refine lv_ladd hx hb dd_Mo_mix_9 ?_
  refine lv_ldc2 (v := 1000000007) hx hb E.o (E.t _ tw_Mo_261) dd_Mo_mix_10 ?_
  refine mw_topl (y := lN 1000000007) (by decide) ?_
  refine lv_lrem hx hb dd_Mo_mix_13 (by decide) ?_
  refine mw_topl (y := lN ((h0 * 257 + b0 + 1) % 1000000007)) (by_sm_step hh0 hb0) ?_
  refine mr_l E hr hk hM hS (by decide) (by decide) ?_ dd_Mo_mix_14
  exact ⟨rfl, rfl⟩
theorem sk_q (k : Nat) : 1 ≤ sk_m k / sk_f k := by
  have h : ∀ j : Nat, j < 4 → 1 ≤ sk_m j / sk_f j := by decide
  have e1 : sk_m (k % 4) = sk_m k := by unfold sk_m; rw [Nat.mod_mod]
  have e2 : sk_f (k % 4) = sk_f k := by unfold sk_f; rw [Nat.mod_mod]
  have := h (k % 4) (Nat.mod_lt _ (by decide))
  rw [e1, e2] at this
  exact this
theorem cc_Mo_secretOf (l : Launch) (D : va_G) (z : Nat) (M : mw_M) (mm : Nat) (ra : Nat → Nat) (V : Nat → Int32) (A : Nat → Nat → Int32) (S : Nat → Int64) (k : Nat) (hR : mq_R D M mm ra V A S) (hk0 : k < 2 ^ 31) (hso : (∀ j : Nat, j < 4 → S j = 0 ∨ S j = lN (sk_s j))) : mw_C l yy_Mo_secretOf bb_Mo_secretOf 8 (Option.some Jvm.ClassFile.FieldType.long) 1 20 0 0 D z M [.ref mm, .int (nI k)] (fun v M' => v = some (.long (lN (sk_s k))) ∧ (∃ S1, mq_R D M' mm ra V A S1 ∧ (∀ j : Nat, j < 4 → S1 j = 0 ∨ S1 j = lN (sk_s j))) ∧ mw_fr (mq_P mm ra) M M') := by
  refine mw_of (by decide) (Nat.le_of_ble_eq_true rfl) ?_
  intro p e s m below meth c ls E hr hk hnm hM hl
  have hx := E.x
  have hb := E.b
  have E : mw_E p m c bb_Mo_secretOf 8 s _ D z "IdentityIssuerModel" := E
  have hl : lv_has ls 8 [(0, .ref mm), (1, .int (nI k))] := hl
  have hS : va_S (mw_A z) s.heap s.heap [] := va_S.rf
  have hF : mw_fr (mq_P mm ra) M M := mw_fr.rf
  have hmk := sk_lt k
  have hat := sk_at k
  have ek : sk_s (k % 4) = sk_s k := by unfold sk_s; rw [Nat.mod_mod]
  have hphi : sk_phi k = (sk_f k - 1) * (sk_m k / sk_f k - 1) := rfl
  refine lv_aload_n hx hb dd_Mo_secretOf_0 rfl (lv_at hl 0 rfl) ?_
  refine gf_Mo_25 E hM hR.m ((mo_at (by decide)).trans (congrArg some (mq_va rfl))) dd_Mo_secretOf_1 ?_
  have w13 : M (ra 13) = some (.inl (D.1 101, 4, .inr (.inl S))) := hR.2.2.1
  refine lv_iload_n hx hb dd_Mo_secretOf_4 rfl (lv_at hl 1 rfl) ?_
  refine lv_iconst (v := nI 4) hx hb dd_Mo_secretOf_5 (by decide) ?_
  refine lv_irem hx hb dd_Mo_secretOf_6 (by decide) ?_
  refine mw_topi (y := nI (k % 4)) (pk_rem (by omega) (by decide) (by decide)) ?_
  refine mw_lald hx hb E.K hM 1 w13 rfl (vp_in_nI (by omega) (by omega)) dd_Mo_secretOf_7 ?_
  refine mw_topl (y := S (k % 4)) (by rw [nI_clamp (by omega)]) ?_
  refine lv_lconst (v := lN 0) hx hb dd_Mo_secretOf_8 (by decide) ?_
  rcases hso (k % 4) (Nat.mod_lt _ (by decide)) with hs0 | hs0
  ·
    rw [show S (k % 4) = lN 0 from hs0]
    refine mw_lcmp (v := lc 0 0) hx hb (lc_n (by decide) (by decide)) dd_Mo_secretOf_9 ?_
    refine lv_if_ne (tgt := 73) hx hb dd_Mo_secretOf_10 (by decide) (fun h10 => ?_) (fun h10 => ?_)
    ·
      exact absurd (lc_eq.mpr rfl) h10
    ·
      refine lv_iload_n hx hb dd_Mo_secretOf_13 rfl (lv_at hl 1 rfl) ?_
      refine mw_S (As := [.int (nI k)]) (rest := []) E (cc_Mo_factor l D z (M) k hk0) ky_Mo_factor kv_Mo_factor tw_Mo_248 hM hS rfl hl.1 rfl (Nat.le_of_ble_eq_true rfl) dd_Mo_secretOf_14 (by first | decide | exact ⟨by dsimp only; omega, by dsimp only; omega⟩) (by decide) (fun v M1 H locs hp hM hS => ?_)
      obtain ⟨rfl, hq⟩ := hp
      have hq := hq.symm
      subst hq
      refine W.eq (g2 := F0 m 17 ls [.long (lN (sk_f k))]) rfl ?_
      refine lv_lstore_n (lv' := [(2, .long (lN (sk_f k))), (0, .ref mm), (1, .int (nI k))]) hx hb dd_Mo_secretOf_17 rfl hl (by decide) rfl (fun ls hl => ?_)
      refine lv_lload_n hx hb dd_Mo_secretOf_18 rfl (lv_at hl 0 rfl) ?_
      refine lv_lconst (v := lN 1) hx hb dd_Mo_secretOf_19 (by decide) ?_
      refine lv_lsub hx hb dd_Mo_secretOf_20 ?_
      refine mw_topl (y := lN (sk_f k - 1)) (lN_sub (by omega)) ?_
      refine lv_iload_n hx hb dd_Mo_secretOf_21 rfl (lv_at hl 2 rfl) ?_
      refine mw_S (As := [.int (nI k)]) (rest := [.long (lN (sk_f k - 1))]) E (cc_Mo_modulus l D z (M) k hk0) ky_Mo_modulus kv_Mo_modulus tw_Mo_252 hM hS rfl hl.1 rfl (Nat.le_of_ble_eq_true rfl) dd_Mo_secretOf_22 (by first | decide | exact ⟨by dsimp only; omega, by dsimp only; omega⟩) (by decide) (fun v M1 H locs hp hM hS => ?_)
      obtain ⟨rfl, hq⟩ := hp
      have hq := hq.symm
      subst hq
      refine W.eq (g2 := F0 m 25 ls [.long (lN (sk_m k)), .long (lN (sk_f k - 1))]) rfl ?_
      refine lv_lload_n hx hb dd_Mo_secretOf_25 rfl (lv_at hl 0 rfl) ?_
      refine lv_ldiv hx hb dd_Mo_secretOf_26 (lN_nz (by omega) (by omega)) ?_
      refine mw_topl (y := lN (sk_m k / sk_f k)) (pk_lDiv (by omega) (by omega) (by omega)) ?_
      refine lv_lconst (v := lN 1) hx hb dd_Mo_secretOf_27 (by decide) ?_
      refine lv_lsub hx hb dd_Mo_secretOf_28 ?_
      refine mw_topl (y := lN (sk_m k / sk_f k - 1)) (lN_sub (sk_q k)) ?_
      refine lv_lmul hx hb dd_Mo_secretOf_29 ?_
      refine mw_topl (y := lN (sk_phi k)) (lN_mul _ _) ?_
      refine lv_lstore (lv' := [(4, .long (lN (sk_phi k))), (2, .long (lN (sk_f k))), (0, .ref mm), (1, .int (nI k))]) hx hb dd_Mo_secretOf_30 hl (by decide) rfl (fun ls hl => ?_)
      refine lv_lconst (v := lN 1) hx hb dd_Mo_secretOf_32 (by decide) ?_
      refine lv_lload hx hb dd_Mo_secretOf_33 (lv_at hl 0 rfl) ?_
      refine lv_ladd hx hb dd_Mo_secretOf_35 ?_
      refine mw_topl (y := lN (1 + 1 * sk_phi k)) ((lN_add _ _).trans (by rw [Nat.one_mul])) ?_
      refine lv_lstore (lv' := [(6, .long (lN (1 + 1 * sk_phi k))), (4, .long (lN (sk_phi k))), (2, .long (lN (sk_f k))), (0, .ref mm), (1, .int (nI k))]) hx hb dd_Mo_secretOf_36 hl (by decide) rfl (fun ls hl => ?_)
      have loop38 : ∀ (d9 : Nat) (t0 : Nat) (H : Heap) (locs : List Loc) (ls : Array Slot), t0 + d9 = sk_t k → 1 ≤ t0 → mw_at D mg_cl z M H → va_S (mw_A z) s.heap H locs → lv_has ls 8 [(6, .long (lN (1 + t0 * sk_phi k))), (4, .long (lN (sk_phi k))), (0, .ref mm), (1, .int (nI k))] → W p l e ({ frames := 1, cells := 0, slots := 0, locals := 20 } : Room) s m ([.ref mm, .int (nI k)] : List Value).toArray below meth c H locs (0) (0) (MQ below (mw_Q D z (fun v M' => v = some (.long (lN (sk_s k))) ∧ (∃ S1, mq_R D M' mm ra V A S1 ∧ (∀ j : Nat, j < 4 → S1 j = 0 ∨ S1 j = lN (sk_s j))) ∧ mw_fr (mq_P mm ra) M M')) ([.ref mm, .int (nI k)] : List Value).toArray s 0 0 (mw_A z)) (F0 m 38 ls []) := by
        intro d9
        induction d9 with
        | zero =>
          intro t0 H locs ls ht0 ht1 hM hS hl
          have hbt : t0 * sk_phi k ≤ 65537 * 2 ^ 31 := Nat.mul_le_mul (by omega) (by omega)
          refine lv_lload hx hb dd_Mo_secretOf_38 (lv_at hl 0 rfl) ?_
          refine lv_ldc2 (v := 65537) hx hb E.o (E.t _ tw_Mo_255) dd_Mo_secretOf_40 ?_
          refine mw_topl (y := lN 65537) (by decide) ?_
          refine lv_lrem hx hb dd_Mo_secretOf_43 (by decide) ?_
          refine mw_topl (y := lN ((1 + t0 * sk_phi k) % 65537)) (pk_lRem (by omega) (by decide) (by decide)) ?_
          refine lv_lconst (v := lN 0) hx hb dd_Mo_secretOf_44 (by decide) ?_
          refine mw_lcmp (v := lc ((1 + t0 * sk_phi k) % 65537) 0) hx hb (lc_n (by have := Nat.mod_lt (1 + t0 * sk_phi k) (show 65537 > 0 by decide); omega) (by decide)) dd_Mo_secretOf_45 ?_
          refine lv_if_eq (tgt := 59) hx hb dd_Mo_secretOf_46 (by decide) (fun h46 => ?_) (fun h46 => ?_)
          ·
            refine lv_aload_n hx hb dd_Mo_secretOf_59 rfl (lv_at hl 2 rfl) ?_
            refine gf_Mo_25 E hM hR.m ((mo_at (by decide)).trans (congrArg some (mq_va rfl))) dd_Mo_secretOf_60 ?_
            have w13 : M (ra 13) = some (.inl (D.1 101, 4, .inr (.inl S))) := hR.2.2.1
            refine lv_iload_n hx hb dd_Mo_secretOf_63 rfl (lv_at hl 3 rfl) ?_
            refine lv_iconst (v := nI 4) hx hb dd_Mo_secretOf_64 (by decide) ?_
            refine lv_irem hx hb dd_Mo_secretOf_65 (by decide) ?_
            refine mw_topi (y := nI (k % 4)) (pk_rem (by omega) (by decide) (by decide)) ?_
            refine lv_lload hx hb dd_Mo_secretOf_66 (lv_at hl 0 rfl) ?_
            refine lv_ldc2 (v := 65537) hx hb E.o (E.t _ tw_Mo_255) dd_Mo_secretOf_68 ?_
            refine mw_topl (y := lN 65537) (by decide) ?_
            refine lv_ldiv hx hb dd_Mo_secretOf_71 (by decide) ?_
            refine mw_topl (y := lN (sk_s k)) ((pk_lDiv (by omega) (by decide) (by decide)).trans (by rw [show t0 = sk_t k by omega, (sk_yes k).2])) ?_
            have w13 : M (ra 13) = some (.inl (D.1 101, 4, .inr (.inl S))) := hR.2.2.1
            refine mw_last hx hb E.K hM E.zz hS 1 w13 rfl (vp_in_nI (by omega) (by omega)) dd_Mo_secretOf_72 (fun H locs hM hS => ?_)
            rw [nI_clamp (by omega)] at hM
            have hM : mw_at D mg_cl z (va_up M (ra 13) (some (.inl (D.1 101, 4, .inr (.inl (vp_updL S (k % 4) (lN (sk_s k)))))))) H := hM
            obtain ⟨M1, hM1⟩ : ∃ M9 : mw_M, M9 = va_up M (ra 13) (some (.inl (D.1 101, 4, .inr (.inl (vp_updL S (k % 4) (lN (sk_s k))))))) := ⟨_, rfl⟩
            rw [← hM1] at hM
            have hR := hR.setS hM1
            have hF := mw_fu hM1 hF (mq_Pa (k := 13) rfl)
            refine lv_aload_n hx hb dd_Mo_secretOf_73 rfl (lv_at hl 2 rfl) ?_
            refine gf_Mo_25 E hM hR.m ((mo_at (by decide)).trans (congrArg some (mq_va rfl))) dd_Mo_secretOf_74 ?_
            have w13 : M1 (ra 13) = some (.inl (D.1 101, 4, .inr (.inl (vp_updL S (k % 4) (lN (sk_s k)))))) := hR.2.2.1
            refine lv_iload_n hx hb dd_Mo_secretOf_77 rfl (lv_at hl 3 rfl) ?_
            refine lv_iconst (v := nI 4) hx hb dd_Mo_secretOf_78 (by decide) ?_
            refine lv_irem hx hb dd_Mo_secretOf_79 (by decide) ?_
            refine mw_topi (y := nI (k % 4)) (pk_rem (by omega) (by decide) (by decide)) ?_
            refine mw_lald hx hb E.K hM 1 w13 rfl (vp_in_nI (by omega) (by omega)) dd_Mo_secretOf_80 ?_
            refine mw_topl (y := ((vp_updL S (k % 4) (lN (sk_s k)))) (k % 4)) (by rw [nI_clamp (by omega)]) ?_
            refine mw_topl (y := lN (sk_s k)) (pk_uLs) ?_
            refine mr_l E hr hk hM hS (by decide) (by decide) ?_ dd_Mo_secretOf_81
            refine ⟨rfl, ⟨_, hR, fun j hj => ?_⟩, hF⟩
            by_cases e9 : j = k % 4
            · rw [e9, pk_uLs, ek]
              exact Or.inr rfl
            · rw [pk_uLn e9]
              exact hso j hj
          ·
            exact absurd (lc_eq.mpr (by rw [show t0 = sk_t k by omega]; exact (sk_yes k).1)) h46
        | succ d9 ih =>
          intro t0 H locs ls ht0 ht1 hM hS hl
          have hbt : t0 * sk_phi k ≤ 65537 * 2 ^ 31 := Nat.mul_le_mul (by omega) (by omega)
          refine lv_lload hx hb dd_Mo_secretOf_38 (lv_at hl 0 rfl) ?_
          refine lv_ldc2 (v := 65537) hx hb E.o (E.t _ tw_Mo_255) dd_Mo_secretOf_40 ?_
          refine mw_topl (y := lN 65537) (by decide) ?_
          refine lv_lrem hx hb dd_Mo_secretOf_43 (by decide) ?_
          refine mw_topl (y := lN ((1 + t0 * sk_phi k) % 65537)) (pk_lRem (by omega) (by decide) (by decide)) ?_
          refine lv_lconst (v := lN 0) hx hb dd_Mo_secretOf_44 (by decide) ?_
          refine mw_lcmp (v := lc ((1 + t0 * sk_phi k) % 65537) 0) hx hb (lc_n (by have := Nat.mod_lt (1 + t0 * sk_phi k) (show 65537 > 0 by decide); omega) (by decide)) dd_Mo_secretOf_45 ?_
          refine lv_if_eq (tgt := 59) hx hb dd_Mo_secretOf_46 (by decide) (fun h46 => ?_) (fun h46 => ?_)
          ·
            exact absurd (lc_eq.mp h46) (sk_no (by omega) (by omega))
          ·
            refine lv_lload hx hb dd_Mo_secretOf_49 (lv_at hl 0 rfl) ?_
            refine lv_lload hx hb dd_Mo_secretOf_51 (lv_at hl 1 rfl) ?_
            refine lv_ladd hx hb dd_Mo_secretOf_53 ?_
            refine mw_topl (y := lN (1 + (t0 + 1) * sk_phi k)) ((lN_add _ _).trans (by rw [Nat.add_assoc, ← Nat.succ_mul])) ?_
            refine lv_lstore (lv' := [(6, .long (lN (1 + (t0 + 1) * sk_phi k))), (4, .long (lN (sk_phi k))), (0, .ref mm), (1, .int (nI k))]) hx hb dd_Mo_secretOf_54 hl (by decide) rfl (fun ls hl => ?_)
            refine lv_goto (tgt := 38) hx hb dd_Mo_secretOf_56 (by decide) ?_
            exact ih (t0 + 1) H locs ls (by omega) (by omega) hM hS (lv_sub hl [0, 1, 2, 3] rfl)
      exact loop38 (sk_t k - 1) 1 H locs ls (by omega) (by omega) hM hS (lv_sub hl [0, 1, 3, 4] rfl)
  ·
    rw [ek] at hs0
    rw [hs0]
    refine mw_lcmp (v := lc (sk_s k) 0) hx hb (lc_n (by omega) (by decide)) dd_Mo_secretOf_9 ?_
    refine lv_if_ne (tgt := 73) hx hb dd_Mo_secretOf_10 (by decide) (fun h10 => ?_) (fun h10 => ?_)
    ·
      refine lv_aload_n hx hb dd_Mo_secretOf_73 rfl (lv_at hl 0 rfl) ?_
      refine gf_Mo_25 E hM hR.m ((mo_at (by decide)).trans (congrArg some (mq_va rfl))) dd_Mo_secretOf_74 ?_
      have w13 : M (ra 13) = some (.inl (D.1 101, 4, .inr (.inl S))) := hR.2.2.1
      refine lv_iload_n hx hb dd_Mo_secretOf_77 rfl (lv_at hl 1 rfl) ?_
      refine lv_iconst (v := nI 4) hx hb dd_Mo_secretOf_78 (by decide) ?_
      refine lv_irem hx hb dd_Mo_secretOf_79 (by decide) ?_
      refine mw_topi (y := nI (k % 4)) (pk_rem (by omega) (by decide) (by decide)) ?_
      refine mw_lald hx hb E.K hM 1 w13 rfl (vp_in_nI (by omega) (by omega)) dd_Mo_secretOf_80 ?_
      refine mw_topl (y := S (k % 4)) (by rw [nI_clamp (by omega)]) ?_
      refine mw_topl (y := lN (sk_s k)) (hs0) ?_
      refine mr_l E hr hk hM hS (by decide) (by decide) ?_ dd_Mo_secretOf_81
      exact ⟨rfl, ⟨S, hR, hso⟩, hF⟩
    ·
      exact absurd (lc_eq.mp h10) (by omega)
