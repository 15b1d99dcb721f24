/-! a character of the scheme's text -/
theorem ch_c : ∀ i : Nat, i < 9 → (((([115, 112, 105, 102, 102, 101, 58, 47, 47] : List Int32).getD i 0) &&& nI 255).toUInt32 % 65536).toInt32 = nI (ie_ch i) := by decide
theorem ch_n {i : Nat} (h : i < 9) : narrow .char (.int (nI (ie_ch i))) = .int (nI (ie_ch i)) := by
  rcases (show i = 0 ∨ i = 1 ∨ i = 2 ∨ i = 3 ∨ i = 4 ∨ i = 5 ∨ i = 6 ∨ i = 7 ∨ i = 8 by omega) with rfl | rfl | rfl | rfl | rfl | rfl | rfl | rfl | rfl <;> rfl
theorem cc_Pr_checkIndex_r (l : Launch) (D : va_G) (z : Nat) (M : mw_M) (i k t0 : Nat) (hi : i < k) (hkk : k < 2 ^ 31) : mw_C l yy_Pr_checkIndex bb_Pr_checkIndex 3 (Option.some Jvm.ClassFile.FieldType.int) 0 0 0 0 D z M [.int (nI i), .int (nI k), .ref t0] (fun v M' => v = some (.int (nI i)) ∧ M' = M) := by
  refine mw_of (by decide) (Nat.le_of_ble_eq_true rfl) ?_
  intro p e s m below meth c ls E hr hk hnm hM hl
  have hx := E.x
  have hb := E.b
  have E : mw_E p m c bb_Pr_checkIndex 3 s _ D z "jdk/internal/util/Preconditions" := E
  have hl : lv_has ls 3 [(0, .int (nI i)), (1, .int (nI k)), (2, .ref t0)] := hl
  have hS : va_S (mw_A z) s.heap s.heap [] := va_S.rf
  refine lv_iload_n hx hb dd_Pr_checkIndex_0 rfl (lv_at hl 0 rfl) ?_
  refine lv_if_lt (tgt := 9) hx hb dd_Pr_checkIndex_1 (by decide) (fun h1 => ?_) (fun h1 => ?_)
  ·
    exact absurd h1 (nI_pos (by omega))
  ·
    refine lv_iload_n hx hb dd_Pr_checkIndex_4 rfl (lv_at hl 0 rfl) ?_
    refine lv_iload_n hx hb dd_Pr_checkIndex_5 rfl (lv_at hl 1 rfl) ?_
    refine lv_icmp_lt (tgt := 16) hx hb dd_Pr_checkIndex_6 (by decide) (fun h6 => ?_) (fun h6 => ?_)
    ·
      rw [nI_ltI (by omega) (by omega)] at h6
      refine lv_iload_n hx hb dd_Pr_checkIndex_16 rfl (lv_at hl 0 rfl) ?_
      refine mr_i E hr hk hM hS (by decide) (by decide) ?_ dd_Pr_checkIndex_17
      exact ⟨rfl, rfl⟩
    ·
      rw [nI_ltI (by omega) (by omega)] at h6
      omega
theorem cc_St_checkIndex (l : Launch) (D : va_G) (z : Nat) (M : mw_M) (i k : Nat) (hi : i < k) (hkk : k < 2 ^ 31) : mw_C l yy_St_checkIndex bb_St_checkIndex 2 (Option.none : Option Jvm.ClassFile.FieldType) 1 22 0 0 D z M [.int (nI i), .int (nI k)] (fun v M' => v = none ∧ M' = M) := by
  refine mw_of (by decide) (Nat.le_of_ble_eq_true rfl) ?_
  intro p e s m below meth c ls E hr hk hnm hM hl
  have hx := E.x
  have hb := E.b
  have E : mw_E p m c bb_St_checkIndex 2 s _ D z "java/lang/String" := E
  have hl : lv_has ls 2 [(0, .int (nI i)), (1, .int (nI k))] := hl
  have hS : va_S (mw_A z) s.heap s.heap [] := va_S.rf
  refine lv_iload_n hx hb dd_St_checkIndex_0 rfl (lv_at hl 0 rfl) ?_
  refine lv_iload_n hx hb dd_St_checkIndex_1 rfl (lv_at hl 1 rfl) ?_
  rcases E.Z.2.2.2.2.2.1 with hzq | ⟨t0, hzq⟩
  ·
    refine va_gets hx hb hzq hS E.o (E.t _ tw_St_1053) (fun _ h => h) dd_St_checkIndex_2 ?_
    refine mw_S (As := [.int (nI i), .int (nI k), .null]) (rest := []) E (cc_Pr_checkIndex l D z (M) i k hi hkk) ky_Pr_checkIndex kv_Pr_checkIndex tw_St_1059 hM hS rfl hl.1 rfl (Nat.le_of_ble_eq_true rfl) dd_St_checkIndex_5 (by first | decide | exact ⟨by dsimp only; omega, by dsimp only; omega⟩) (by decide) (fun v M1 H locs hp hM hS => ?_)
    obtain ⟨rfl, hq⟩ := hp
    have hq := hq.symm
    subst hq
    refine W.eq (g2 := F0 m 8 ls [.int (nI i)]) rfl ?_
    refine lv_pop hx hb dd_St_checkIndex_8 rfl ?_
    refine mr_v E hr hk hM hS (by decide) (by decide) ?_ dd_St_checkIndex_9
    exact ⟨rfl, rfl⟩
  ·
    refine va_gets hx hb hzq hS E.o (E.t _ tw_St_1053) (fun _ h => h) dd_St_checkIndex_2 ?_
    refine mw_S (As := [.int (nI i), .int (nI k), .ref t0]) (rest := []) E (cc_Pr_checkIndex_r l D z (M) i k t0 hi hkk) ky_Pr_checkIndex kv_Pr_checkIndex tw_St_1059 hM hS rfl hl.1 rfl (Nat.le_of_ble_eq_true rfl) dd_St_checkIndex_5 (by first | decide | exact ⟨by dsimp only; omega, by dsimp only; omega⟩) (by decide) (fun v M1 H locs hp hM hS => ?_)
    obtain ⟨rfl, hq⟩ := hp
    have hq := hq.symm
    subst hq
    refine W.eq (g2 := F0 m 8 ls [.int (nI i)]) rfl ?_
    refine lv_pop hx hb dd_St_checkIndex_8 rfl ?_
    refine mr_v E hr hk hM hS (by decide) (by decide) ?_ dd_St_checkIndex_9
    exact ⟨rfl, rfl⟩
theorem cc_St_isLatin1 (l : Launch) (D : va_G) (z : Nat) (M : mw_M)   : mw_C l yy_St_isLatin1 bb_St_isLatin1 1 (Option.some Jvm.ClassFile.FieldType.boolean) 0 0 0 0 D z M [.ref ((D.2 200 4))] (fun v M' => v = some (.int (nI 1)) ∧ M' = M) := by
  refine mw_of (by decide) (Nat.le_of_ble_eq_true rfl) ?_
  intro p e s m below meth c ls E hr hk hnm hM hl
  have hx := E.x
  have hb := E.b
  have E : mw_E p m c bb_St_isLatin1 1 s _ D z "java/lang/String" := E
  have hl : lv_has ls 1 [(0, .ref ((D.2 200 4)))] := hl
  have hS : va_S (mw_A z) s.heap s.heap [] := va_S.rf
  refine va_gets hx hb E.Z.2.2.2.2.1 hS E.o (E.t _ tw_St_38) (fun _ h => h) dd_St_isLatin1_0 ?_
  refine lv_if_eq (tgt := 17) hx hb dd_St_isLatin1_3 (by decide) (fun h3 => ?_) (fun h3 => ?_)
  ·
    exact absurd h3 (by decide)
  ·
    refine lv_aload_n hx hb dd_St_isLatin1_6 rfl (lv_at hl 0 rfl) ?_
    refine vk_getf hx hb (E.Z.2.2.2.2.2.2.1 0 (by decide)).2.1 hS E.o (E.t _ tw_St_15) (fun _ h => h) dd_St_isLatin1_7 ?_
    refine lv_if_ne (tgt := 17) hx hb dd_St_isLatin1_10 (by decide) (fun h10 => ?_) (fun h10 => ?_)
    ·
      exact absurd rfl h10
    ·
      refine lv_iconst (v := nI 1) hx hb dd_St_isLatin1_13 (by decide) ?_
      refine lv_goto (tgt := 18) hx hb dd_St_isLatin1_14 (by decide) ?_
      refine mr_z E hr hk hM hS (by decide) (by decide) (rfl) ?_ dd_St_isLatin1_18
      exact ⟨rfl, rfl⟩
theorem cc_SL_charAt (l : Launch) (D : va_G) (z : Nat) (M : mw_M) (i : Nat) (hi : i < 9) : mw_C l yy_SL_charAt bb_SL_charAt 2 (Option.some Jvm.ClassFile.FieldType.char) 2 43 0 0 D z M [.ref ((D.2 200 5)), .int (nI i)] (fun v M' => v = some (.int (nI (ie_ch i))) ∧ M' = M) := by
  refine mw_of (by decide) (Nat.le_of_ble_eq_true rfl) ?_
  intro p e s m below meth c ls E hr hk hnm hM hl
  have hx := E.x
  have hb := E.b
  have E : mw_E p m c bb_SL_charAt 2 s _ D z "java/lang/StringLatin1" := E
  have hl : lv_has ls 2 [(0, .ref ((D.2 200 5))), (1, .int (nI i))] := hl
  have hS : va_S (mw_A z) s.heap s.heap [] := va_S.rf
  refine lv_iload_n hx hb dd_SL_charAt_0 rfl (lv_at hl 1 rfl) ?_
  refine lv_aload_n hx hb dd_SL_charAt_1 rfl (lv_at hl 0 rfl) ?_
  refine va_tlen (v := nI 9) hx hb (E.Z.2.2.2.2.2.2.1 0 (by decide)).2.2.2 hS rfl dd_SL_charAt_2 ?_
  refine mw_S (As := [.int (nI i), .int (nI 9)]) (rest := []) E (cc_St_checkIndex l D z (M) i 9 hi (by decide)) ky_St_checkIndex kv_St_checkIndex tw_SL_9 hM hS rfl hl.1 rfl (Nat.le_of_ble_eq_true rfl) dd_SL_charAt_3 (by first | decide | exact ⟨by dsimp only; omega, by dsimp only; omega⟩) (by decide) (fun v M1 H locs hp hM hS => ?_)
  obtain ⟨rfl, hq⟩ := hp
  have hq := hq.symm
  subst hq
  refine W.eq (g2 := F0 m 6 ls []) rfl ?_
  refine lv_aload_n hx hb dd_SL_charAt_6 rfl (lv_at hl 0 rfl) ?_
  refine lv_iload_n hx hb dd_SL_charAt_7 rfl (lv_at hl 1 rfl) ?_
  refine va_tb (v := .int (([115, 112, 105, 102, 102, 101, 58, 47, 47] : List Int32).getD (nI i).toNatClampNeg 0)) hx hb (E.Z.2.2.2.2.2.2.1 0 (by decide)).2.2.2 hS (show vp_in (nI i) 9 from vp_in_nI (by omega) (by omega)) rfl dd_SL_charAt_8 ?_
  refine mw_topi (y := ([115, 112, 105, 102, 102, 101, 58, 47, 47] : List Int32).getD i 0) (by rw [nI_clamp (by omega)]) ?_
  refine lv_sipush (v := nI 255) hx hb dd_SL_charAt_9 (by decide) ?_
  refine lv_iand hx hb dd_SL_charAt_12 ?_
  refine lv_i2c (v := nI (ie_ch i)) hx hb dd_SL_charAt_13 (ch_c i hi) ?_
  refine mr_n E hr hk hM hS (by decide) (by decide) (ch_n hi) ?_ dd_SL_charAt_14
  exact ⟨rfl, rfl⟩
theorem cc_St_charAt (l : Launch) (D : va_G) (z : Nat) (M : mw_M) (i : Nat) (hi : i < 9) : mw_C l yy_St_charAt bb_St_charAt 2 (Option.some Jvm.ClassFile.FieldType.char) 3 64 0 0 D z M [.ref ((D.2 200 4)), .int (nI i)] (fun v M' => v = some (.int (nI (ie_ch i))) ∧ M' = M) := by
  refine mw_of (by decide) (Nat.le_of_ble_eq_true rfl) ?_
  intro p e s m below meth c ls E hr hk hnm hM hl
  have hx := E.x
  have hb := E.b
  have E : mw_E p m c bb_St_charAt 2 s _ D z "java/lang/String" := E
  have hl : lv_has ls 2 [(0, .ref ((D.2 200 4))), (1, .int (nI i))] := hl
  have hS : va_S (mw_A z) s.heap s.heap [] := va_S.rf
  refine lv_aload_n hx hb dd_St_charAt_0 rfl (lv_at hl 0 rfl) ?_
  refine mw_V0 (As := []) (rest := []) E (cc_St_isLatin1 l D z (M)) ky_St_isLatin1 kv_St_isLatin1 tw_St_492 hM hS (vk_recv (N := 1) (i := 0) (adK := fun _ => D.2 200 4) E.Z.2.2.2.2.2.2 (by decide) hS) rfl hl.1 rfl (Nat.le_of_ble_eq_true rfl) dd_St_charAt_1 (by first | decide | exact ⟨by dsimp only; omega, by dsimp only; omega⟩) (by decide) (fun v M1 H locs hp hM hS => ?_)
  obtain ⟨rfl, hq⟩ := hp
  have hq := hq.symm
  subst hq
  refine W.eq (g2 := F0 m 4 ls [.int (nI 1)]) rfl ?_
  refine lv_if_eq (tgt := 16) hx hb dd_St_charAt_4 (by decide) (fun h4 => ?_) (fun h4 => ?_)
  ·
    exact absurd h4 (by decide)
  ·
    refine lv_aload_n hx hb dd_St_charAt_7 rfl (lv_at hl 0 rfl) ?_
    refine vk_getf hx hb (E.Z.2.2.2.2.2.2.1 0 (by decide)).2.2.1 hS E.o (E.t _ tw_St_9) (fun _ h => h) dd_St_charAt_8 ?_
    refine lv_iload_n hx hb dd_St_charAt_11 rfl (lv_at hl 1 rfl) ?_
    refine mw_S (As := [.ref ((D.2 200 5)), .int (nI i)]) (rest := []) E (cc_SL_charAt l D z (M) i hi) ky_SL_charAt kv_SL_charAt tw_St_495 hM hS rfl hl.1 rfl (Nat.le_of_ble_eq_true rfl) dd_St_charAt_12 (by first | decide | exact ⟨by dsimp only; omega, by dsimp only; omega⟩) (by decide) (fun v M1 H locs hp hM hS => ?_)
    obtain ⟨rfl, hq⟩ := hp
    have hq := hq.symm
    subst hq
    refine W.eq (g2 := F0 m 15 ls [.int (nI (ie_ch i))]) rfl ?_
    refine mr_n E hr hk hM hS (by decide) (by decide) (ch_n hi) ?_ dd_St_charAt_15
    exact ⟨rfl, rfl⟩
