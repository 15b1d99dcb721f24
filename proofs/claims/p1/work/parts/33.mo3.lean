/-! the reference's prepare and put -/
def mo_cnt (kc lf : Nat) (g : Nat → Nat) (cl : Nat) : Nat → Nat
  | 0 => 0
  | i + 1 => mo_cnt kc lf g cl i + (if mo_good kc lf g (nI i) cl = true then 1 else 0)
theorem mo_cnt_t {kc lf : Nat} {g : Nat → Nat} {cl i : Nat} (h : mo_good kc lf g (nI i) cl = true) : mo_cnt kc lf g cl (i + 1) = mo_cnt kc lf g cl i + 1 := by rw [mo_cnt, if_pos h]
theorem mo_cnt_f {kc lf : Nat} {g : Nat → Nat} {cl i : Nat} (h : mo_good kc lf g (nI i) cl = false) : mo_cnt kc lf g cl (i + 1) = mo_cnt kc lf g cl i := by rw [mo_cnt, if_neg (by rw [h]; decide), Nat.add_zero]
theorem mo_cnt_le (kc lf : Nat) (g : Nat → Nat) (cl : Nat) : ∀ i, mo_cnt kc lf g cl i ≤ i
  | 0 => Nat.le_refl _
  | i + 1 => by
    have := mo_cnt_le kc lf g cl i
    rw [mo_cnt]
    split <;> omega
theorem pt_ti (x : Int32) : x.toInt = if 2 * x.toBitVec.toNat < 4294967296 then (x.toBitVec.toNat : Int) else (x.toBitVec.toNat : Int) - 4294967296 := BitVec.toInt_eq_toNat_cond x.toBitVec
theorem pt_ss : ∀ d, d < 4 → ((nI (8 * d) &&& 31).toBitVec.smod 32).toNat = 8 * d := by decide
theorem pt_s {word : Int32} {d : Nat} (h : d < 4) : (word >>> (nI (8 * d) &&& 31)) &&& nI 255 = nI (pt_n word d) := by
  have h1 := pk_shr word (nI (8 * d) &&& 31) (8 * d) (pt_ss d h)
  rw [pk_and _ 8 (by decide)]
  congr 1
  unfold pt_n
  generalize word >>> (nI (8 * d) &&& 31) = y at h1
  have hy := pt_ti y
  have hw := pt_ti word
  have b1 : y.toBitVec.toNat < 4294967296 := y.toBitVec.isLt
  have b2 : word.toBitVec.toNat < 4294967296 := word.toBitVec.isLt
  generalize y.toBitVec.toNat = ny at *
  generalize word.toBitVec.toNat = nw at *
  rw [Int.shiftRight_eq_div_pow] at h1
  rcases (show d = 0 ∨ d = 1 ∨ d = 2 ∨ d = 3 by omega) with rfl | rfl | rfl | rfl
  · rw [hy, hw] at h1
    have e : (((2 ^ (8 * 0) : Nat) : Int)) = 1 := by decide
    rw [e] at h1
    show ny % 256 = nw / 1 % 256
    split at h1 <;> split at h1 <;> omega
  · rw [hy, hw] at h1
    have e : (((2 ^ (8 * 1) : Nat) : Int)) = 256 := by decide
    rw [e] at h1
    show ny % 256 = nw / 256 % 256
    split at h1 <;> split at h1 <;> omega
  · rw [hy, hw] at h1
    have e : (((2 ^ (8 * 2) : Nat) : Int)) = 65536 := by decide
    rw [e] at h1
    show ny % 256 = nw / 65536 % 256
    split at h1 <;> split at h1 <;> omega
  · rw [hy, hw] at h1
    have e : (((2 ^ (8 * 3) : Nat) : Int)) = 16777216 := by decide
    rw [e] at h1
    show ny % 256 = nw / 16777216 % 256
    split at h1 <;> split at h1 <;> omega
theorem va_up_id {F : Nat → Value} {k : Nat} {v : Value} (h : F k = v) : va_up F k v = F := by
  funext j
  by_cases e : j = k
  · subst e
    rw [va_up_self]
    exact h.symm
  · rw [va_up_ne _ _ e]
theorem cc_Mo_prepare (l : Launch) (D : va_G) (z : Nat) (M : mw_M) (mm : Nat) (F : Nat → Value) (r lf kc cl : Nat) (ac pr : Int32) (f : Nat → Int32) (g : Nat → Nat) (wm : M mm = some (.inr (13, mo_l F))) (hf0 : F 0 = .int (nI lf)) (hf1 : F 1 = .int (nI cl)) (hf9 : F 9 = .int (nI kc)) (hf10 : F 10 = .ref r) (hf11 : F 11 = .int (ac)) (hf12 : F 12 = .int (pr)) (wr : M r = some (.inl (D.1 100, 600, .inl f))) (hg : ∀ j, j < kc → f j = nI (g j) ∧ g j < 2 ^ 20) (hlf : lf < 2 ^ 20) (hkc : kc < 600) (hcl : cl < 2 ^ 20) : mw_C l yy_Mo_prepare bb_Mo_prepare 3 (Option.some Jvm.ClassFile.FieldType.int) 1 21 0 0 D z M [.ref mm] (fun v M' => ((!mo_good kc lf g pr cl && decide (mo_cnt kc lf g cl kc < 4)) = true → v = some (.int (nI kc)) ∧ M' mm = some (.inr (13, mo_l (va_up (va_up F 12 (.int (nI kc))) 9 (.int (nI (kc + 1)))))) ∧ M' r = some (.inl (D.1 100, 600, .inl (upd f kc (nI cl))))) ∧ ((!mo_good kc lf g pr cl && decide (mo_cnt kc lf g cl kc < 4)) = false → v = some (.int (-1003)) ∧ M' = M) ∧ mw_fr (fun q => q = mm ∨ q = r) M M') := by
  refine mw_of (by decide) (Nat.le_of_ble_eq_true rfl) ?_
  intro p e s m below meth c ls E hr hk hnm hM hl
  have hx := E.x
  have hb := E.b
  have E : mw_E p m c bb_Mo_prepare 3 s _ D z "IdentityIssuerModel" := E
  have hl : lv_has ls 3 [(0, .ref mm)] := hl
  have hS : va_S (mw_A z) s.heap s.heap [] := va_S.rf
  have hF : mw_fr (fun q => q = mm ∨ q = r) M M := mw_fr.rf
  refine lv_iconst (v := nI 0) hx hb dd_Mo_prepare_0 (by decide) ?_
  refine lv_istore_n (lv' := [(1, .int (nI 0)), (0, .ref mm)]) hx hb dd_Mo_prepare_1 rfl hl (by decide) rfl (fun ls hl => ?_)
  refine lv_iconst (v := nI 0) hx hb dd_Mo_prepare_2 (by decide) ?_
  refine lv_istore_n (lv' := [(2, .int (nI 0)), (1, .int (nI 0)), (0, .ref mm)]) hx hb dd_Mo_prepare_3 rfl hl (by decide) rfl (fun ls hl => ?_)
  have loop4 : ∀ (d : Nat) (i : Nat) (H : Heap) (locs : List Loc) (ls : Array Slot), i + d = kc → mw_at D mg_cl z M H → va_S (mw_A z) s.heap H locs → lv_has ls 3 [(2, .int (nI i)), (1, .int (nI (mo_cnt kc lf g cl i))), (0, .ref mm)] → W p l e ({ frames := 1, cells := 0, slots := 0, locals := 21 } : Room) s m ([.ref mm] : List Value).toArray below meth c H locs (0) (0) (MQ below (mw_Q D z (fun v M' => ((!mo_good kc lf g pr cl && decide (mo_cnt kc lf g cl kc < 4)) = true → v = some (.int (nI kc)) ∧ M' mm = some (.inr (13, mo_l (va_up (va_up F 12 (.int (nI kc))) 9 (.int (nI (kc + 1)))))) ∧ M' r = some (.inl (D.1 100, 600, .inl (upd f kc (nI cl))))) ∧ ((!mo_good kc lf g pr cl && decide (mo_cnt kc lf g cl kc < 4)) = false → v = some (.int (-1003)) ∧ M' = M) ∧ mw_fr (fun q => q = mm ∨ q = r) M M')) ([.ref mm] : List Value).toArray s 0 0 (mw_A z)) (F0 m 4 ls []) := by
    intro d
    induction d with
    | zero =>
      intro i H locs ls hi hM hS hl
      have hcn := mo_cnt_le kc lf g cl i
      refine lv_iload_n hx hb dd_Mo_prepare_4 rfl (lv_at hl 0 rfl) ?_
      refine lv_aload_n hx hb dd_Mo_prepare_5 rfl (lv_at hl 2 rfl) ?_
      refine gf_Mo_112 E hM wm ((mo_at (by decide)).trans (congrArg some hf9)) dd_Mo_prepare_6 ?_
      refine lv_icmp_ge (tgt := 34) hx hb dd_Mo_prepare_9 (by decide) (fun h9 => ?_) (fun h9 => ?_)
      ·
        rw [nI_leI (by omega) (by omega)] at h9
        refine lv_aload_n hx hb dd_Mo_prepare_34 rfl (lv_at hl 2 rfl) ?_
        refine lv_aload_n hx hb dd_Mo_prepare_35 rfl (lv_at hl 2 rfl) ?_
        refine gf_Mo_115 E hM wm ((mo_at (by decide)).trans (congrArg some hf12)) dd_Mo_prepare_36 ?_
        refine mw_V (As := [.int (pr)]) (rest := []) E (cc_Mo_isGood l D z M mm F r lf kc cl ac pr f g pr wm hf0 hf1 hf9 hf10 hf11 hf12 wr hg hlf (by omega) hcl) ky_Mo_isGood kv_Mo_isGood tw_Mo_198 hM hS wm rfl rfl rfl hl.1 rfl (Nat.le_of_ble_eq_true rfl) dd_Mo_prepare_39 (by decide) (by decide) (fun v M1 H locs hp hM hS => ?_)
        obtain ⟨rfl, hq⟩ := hp
        have hq := hq.symm
        subst hq
        refine W.eq (g2 := F0 m 42 ls [.int (zI (mo_good kc lf g pr cl))]) rfl ?_
        refine lv_if_ne (tgt := 50) hx hb dd_Mo_prepare_42 (by decide) (fun h42 => ?_) (fun h42 => ?_)
        ·
          have h42 : mo_good kc lf g pr cl = true := Bool.of_not_eq_false (fun q => h42 (zI_0.mpr q))
          refine lv_sipush (v := -1003) hx hb dd_Mo_prepare_50 (by decide) ?_
          refine mr_i E hr hk hM hS (by decide) (by decide) ?_ dd_Mo_prepare_53
          exact ⟨fun q => absurd q (by rw [h42]; simp), fun _ => ⟨rfl, rfl⟩, mw_fr.rf⟩
        ·
          have h42 := zI_0.mp h42
          refine lv_iload_n hx hb dd_Mo_prepare_45 rfl (lv_at hl 1 rfl) ?_
          refine lv_iconst (v := nI 4) hx hb dd_Mo_prepare_46 (by decide) ?_
          refine lv_icmp_lt (tgt := 54) hx hb dd_Mo_prepare_47 (by decide) (fun h47 => ?_) (fun h47 => ?_)
          ·
            rw [nI_ltI (by omega) (by omega)] at h47
            refine lv_aload_n hx hb dd_Mo_prepare_54 rfl (lv_at hl 2 rfl) ?_
            refine gf_Mo_22 E hM wm ((mo_at (by decide)).trans (congrArg some hf10)) dd_Mo_prepare_55 ?_
            refine lv_aload_n hx hb dd_Mo_prepare_58 rfl (lv_at hl 2 rfl) ?_
            refine gf_Mo_112 E hM wm ((mo_at (by decide)).trans (congrArg some hf9)) dd_Mo_prepare_59 ?_
            refine lv_aload_n hx hb dd_Mo_prepare_62 rfl (lv_at hl 2 rfl) ?_
            refine gf_Mo_180 E hM wm ((mo_at (by decide)).trans (congrArg some hf1)) dd_Mo_prepare_63 ?_
            refine mw_iast hx hb E.K hM E.zz hS 0 wr rfl (vp_in_nI (by omega) (by omega)) dd_Mo_prepare_66 (fun H locs hM hS => ?_)
            rw [nI_clamp (by omega)] at hM
            have hM : mw_at D mg_cl z (va_up M r (some (.inl (D.1 100, 600, .inl (upd f kc (nI cl)))))) H := hM
            obtain ⟨M1, hM1⟩ : ∃ M9 : mw_M, M9 = va_up M r (some (.inl (D.1 100, 600, .inl (upd f kc (nI cl))))) := ⟨_, rfl⟩
            rw [← hM1] at hM
            have wm := mw_uu hM1 wm (mw_ne wm wr (fun q => by cases q))
            have wr := mw_us hM1
            have hF := mw_fu hM1 hF (Or.inr rfl)
            refine lv_aload_n hx hb dd_Mo_prepare_67 rfl (lv_at hl 2 rfl) ?_
            refine lv_aload_n hx hb dd_Mo_prepare_68 rfl (lv_at hl 2 rfl) ?_
            refine gf_Mo_112 E hM wm ((mo_at (by decide)).trans (congrArg some hf9)) dd_Mo_prepare_69 ?_
            refine pf_Mo_115 E hM hS wm (by rw [mo_len]; decide) dd_Mo_prepare_72 (fun H locs hM hS => ?_)
            rw [mo_set (by decide)] at hM
            obtain ⟨F1, hF1⟩ : ∃ F9 : Nat → Value, F9 = va_up F 12 (.int (nI kc)) := ⟨_, rfl⟩
            rw [← hF1] at hM
            have hf0 := mo_n hF1 hf0 (by decide)
            have hf1 := mo_n hF1 hf1 (by decide)
            have hf9 := mo_n hF1 hf9 (by decide)
            have hf10 := mo_n hF1 hf10 (by decide)
            have hf11 := mo_n hF1 hf11 (by decide)
            have hf12 := mo_s hF1
            have hM : mw_at D mg_cl z (va_up M1 mm (some (.inr (13, mo_l F1)))) H := hM
            obtain ⟨M1, hM1⟩ : ∃ M9 : mw_M, M9 = va_up M1 mm (some (.inr (13, mo_l F1))) := ⟨_, rfl⟩
            rw [← hM1] at hM
            have wr := mw_uu hM1 wr (mw_ne wr wm (fun q => by cases q))
            have wm := mw_us hM1
            have hF := mw_fu hM1 hF (Or.inl rfl)
            refine lv_aload_n hx hb dd_Mo_prepare_75 rfl (lv_at hl 2 rfl) ?_
            refine lv_dup hx hb dd_Mo_prepare_76 rfl ?_
            refine gf_Mo_112 E hM wm ((mo_at (by decide)).trans (congrArg some hf9)) dd_Mo_prepare_77 ?_
            refine lv_iconst (v := nI 1) hx hb dd_Mo_prepare_80 (by decide) ?_
            refine lv_iadd hx hb dd_Mo_prepare_81 ?_
            refine mw_topi (y := nI (kc + 1)) (nI_add _ _) ?_
            refine pf_Mo_112 E hM hS wm (by rw [mo_len]; decide) dd_Mo_prepare_82 (fun H locs hM hS => ?_)
            rw [mo_set (by decide)] at hM
            obtain ⟨F2, hF2⟩ : ∃ F9 : Nat → Value, F9 = va_up F1 9 (.int (nI (kc + 1))) := ⟨_, rfl⟩
            rw [← hF2] at hM
            have hf0 := mo_n hF2 hf0 (by decide)
            have hf1 := mo_n hF2 hf1 (by decide)
            have hf10 := mo_n hF2 hf10 (by decide)
            have hf11 := mo_n hF2 hf11 (by decide)
            have hf12 := mo_n hF2 hf12 (by decide)
            have hf9 := mo_s hF2
            have hM : mw_at D mg_cl z (va_up M1 mm (some (.inr (13, mo_l F2)))) H := hM
            obtain ⟨M1, hM1⟩ : ∃ M9 : mw_M, M9 = va_up M1 mm (some (.inr (13, mo_l F2))) := ⟨_, rfl⟩
            rw [← hM1] at hM
            have wr := mw_uu hM1 wr (mw_ne wr wm (fun q => by cases q))
            have wm := mw_us hM1
            have hF := mw_fu hM1 hF (Or.inl rfl)
            refine lv_aload_n hx hb dd_Mo_prepare_85 rfl (lv_at hl 2 rfl) ?_
            refine gf_Mo_115 E hM wm ((mo_at (by decide)).trans (congrArg some hf12)) dd_Mo_prepare_86 ?_
            refine mr_i E hr hk hM hS (by decide) (by decide) ?_ dd_Mo_prepare_89
            have hik : i = kc := by omega
            rw [hik] at h47
            exact ⟨fun _ => ⟨rfl, by rw [← hF1, ← hF2]; exact wm, wr⟩, fun q => absurd q (by rw [h42, decide_eq_true (by omega)]; decide), hF⟩
          ·
            rw [nI_ltI (by omega) (by omega)] at h47
            refine lv_sipush (v := -1003) hx hb dd_Mo_prepare_50 (by decide) ?_
            refine mr_i E hr hk hM hS (by decide) (by decide) ?_ dd_Mo_prepare_53
            have hik : i = kc := by omega
            rw [hik] at h47
            exact ⟨fun q => absurd q (by rw [decide_eq_false (by omega)]; simp), fun _ => ⟨rfl, rfl⟩, mw_fr.rf⟩
      ·
        rw [nI_leI (by omega) (by omega)] at h9
        omega
    | succ d ih =>
      intro i H locs ls hi hM hS hl
      have hcn := mo_cnt_le kc lf g cl i
      refine lv_iload_n hx hb dd_Mo_prepare_4 rfl (lv_at hl 0 rfl) ?_
      refine lv_aload_n hx hb dd_Mo_prepare_5 rfl (lv_at hl 2 rfl) ?_
      refine gf_Mo_112 E hM wm ((mo_at (by decide)).trans (congrArg some hf9)) dd_Mo_prepare_6 ?_
      refine lv_icmp_ge (tgt := 34) hx hb dd_Mo_prepare_9 (by decide) (fun h9 => ?_) (fun h9 => ?_)
      ·
        rw [nI_leI (by omega) (by omega)] at h9
        omega
      ·
        rw [nI_leI (by omega) (by omega)] at h9
        refine lv_aload_n hx hb dd_Mo_prepare_12 rfl (lv_at hl 2 rfl) ?_
        refine lv_iload_n hx hb dd_Mo_prepare_13 rfl (lv_at hl 0 rfl) ?_
        refine mw_V (As := [.int (nI i)]) (rest := []) E (cc_Mo_isGood l D z M mm F r lf kc cl ac pr f g (nI i) wm hf0 hf1 hf9 hf10 hf11 hf12 wr hg hlf (by omega) hcl) ky_Mo_isGood kv_Mo_isGood tw_Mo_198 hM hS wm rfl rfl rfl hl.1 rfl (Nat.le_of_ble_eq_true rfl) dd_Mo_prepare_14 (by decide) (by decide) (fun v M1 H locs hp hM hS => ?_)
        obtain ⟨rfl, hq⟩ := hp
        have hq := hq.symm
        subst hq
        refine W.eq (g2 := F0 m 17 ls [.int (zI (mo_good kc lf g (nI i) cl))]) rfl ?_
        refine lv_if_eq (tgt := 26) hx hb dd_Mo_prepare_17 (by decide) (fun h17 => ?_) (fun h17 => ?_)
        ·
          have h17 := zI_0.mp h17
          refine lv_iload_n hx hb dd_Mo_prepare_26 rfl (lv_at hl 1 rfl) ?_
          refine lv_istore_n (lv' := [(1, .int (nI (mo_cnt kc lf g cl i))), (2, .int (nI i)), (0, .ref mm)]) hx hb dd_Mo_prepare_27 rfl hl (by decide) rfl (fun ls hl => ?_)
          refine lv_iinc (k := 1) (v := nI (i + 1)) (lv' := [(2, .int (nI (i + 1))), (1, .int (nI (mo_cnt kc lf g cl i))), (0, .ref mm)]) hx hb dd_Mo_prepare_28 hl rfl (nI_1 _) (by decide) rfl (fun ls hl => ?_)
          refine lv_goto (tgt := 4) hx hb dd_Mo_prepare_31 (by decide) ?_
          exact ih (i + 1) H locs ls (by omega) hM hS (by rw [mo_cnt_f h17]; exact hl)
        ·
          have h17 : mo_good kc lf g (nI i) cl = true := Bool.of_not_eq_false (fun q => h17 (zI_0.mpr q))
          refine lv_iload_n hx hb dd_Mo_prepare_20 rfl (lv_at hl 1 rfl) ?_
          refine lv_iconst (v := nI 1) hx hb dd_Mo_prepare_21 (by decide) ?_
          refine lv_iadd hx hb dd_Mo_prepare_22 ?_
          refine mw_topi (y := nI ((mo_cnt kc lf g cl i) + 1)) (nI_add _ _) ?_
          refine lv_goto (tgt := 27) hx hb dd_Mo_prepare_23 (by decide) ?_
          refine lv_istore_n (lv' := [(1, .int (nI ((mo_cnt kc lf g cl i) + 1))), (2, .int (nI i)), (0, .ref mm)]) hx hb dd_Mo_prepare_27 rfl hl (by decide) rfl (fun ls hl => ?_)
          refine lv_iinc (k := 1) (v := nI (i + 1)) (lv' := [(2, .int (nI (i + 1))), (1, .int (nI ((mo_cnt kc lf g cl i) + 1))), (0, .ref mm)]) hx hb dd_Mo_prepare_28 hl rfl (nI_1 _) (by decide) rfl (fun ls hl => ?_)
          refine lv_goto (tgt := 4) hx hb dd_Mo_prepare_31 (by decide) ?_
          exact ih (i + 1) H locs ls (by omega) hM hS (by rw [mo_cnt_t h17]; exact hl)
  exact loop4 kc 0 s.heap [] ls (by omega) hM hS hl
theorem cc_Mo_put_n (l : Launch) (D : va_G) (z : Nat) (M : mw_M) (mm : Nat) (F : Nat → Value) (r k : Nat) (f : Nat → Int32) (word i : Int32) (wm : M mm = some (.inr (13, mo_l F))) (hf2 : F 2 = .ref r) (hf3 : F 3 = .int (nI k)) (wr : M r = some (.inl (D.1 100, 100, .inl f))) (hk0 : k ≤ 100) (hn : i < nI 1 ∨ nI 4 < i ∨ ∃ j : Nat, i = nI j ∧ j < 2 ^ 20 ∧ 100 < k + j) : mw_C l yy_Mo_put bb_Mo_put 4 (Option.some Jvm.ClassFile.FieldType.boolean) 1 22 0 0 D z M [.ref mm, .int (word), .int (i)] (fun v M' => v = some (.int 0) ∧ M' = M) := by
  refine mw_of (by decide) (Nat.le_of_ble_eq_true rfl) ?_
  intro p e s m below meth c ls E hr hk hnm hM hl
  have hx := E.x
  have hb := E.b
  have E : mw_E p m c bb_Mo_put 4 s _ D z "IdentityIssuerModel" := E
  have hl : lv_has ls 4 [(0, .ref mm), (1, .int (word)), (2, .int (i))] := hl
  have hS : va_S (mw_A z) s.heap s.heap [] := va_S.rf
  refine lv_iload_n hx hb dd_Mo_put_0 rfl (lv_at hl 2 rfl) ?_
  refine lv_iconst (v := nI 1) hx hb dd_Mo_put_1 (by decide) ?_
  refine lv_iconst (v := nI 4) hx hb dd_Mo_put_2 (by decide) ?_
  refine mw_S (As := [.int (i), .int (nI 1), .int (nI 4)]) (rest := []) E (cc_Mo_outside l D z (M) (i) (nI 1) (nI 4)) ky_Mo_outside kv_Mo_outside tw_Mo_118 hM hS rfl hl.1 rfl (Nat.le_of_ble_eq_true rfl) dd_Mo_put_3 (by decide) (by decide) (fun v M1 H locs hp hM hS => ?_)
  obtain ⟨rfl, hq⟩ := hp
  have hq := hq.symm
  subst hq
  refine W.eq (g2 := F0 m 6 ls [.int (zI (mo_out (i) (nI 1) (nI 4)))]) rfl ?_
  refine lv_if_ne (tgt := 20) hx hb dd_Mo_put_6 (by decide) (fun h6 => ?_) (fun h6 => ?_)
  ·
    refine lv_iconst (v := nI 0) hx hb dd_Mo_put_20 (by decide) ?_
    refine mr_z E hr hk hM hS (by decide) (by decide) (rfl) ?_ dd_Mo_put_21
    exact ⟨rfl, rfl⟩
  ·
    refine lv_aload_n hx hb dd_Mo_put_9 rfl (lv_at hl 0 rfl) ?_
    refine gf_Mo_122 E hM wm ((mo_at (by decide)).trans (congrArg some hf3)) dd_Mo_put_10 ?_
    refine lv_iload_n hx hb dd_Mo_put_13 rfl (lv_at hl 2 rfl) ?_
    refine lv_iadd hx hb dd_Mo_put_14 ?_
    refine lv_bipush (v := nI 100) hx hb dd_Mo_put_15 (by decide) ?_
    refine lv_icmp_le (tgt := 22) hx hb dd_Mo_put_17 (by decide) (fun h17 => ?_) (fun h17 => ?_)
    ·
      have h6 := zI_0.mp h6
      simp only [mo_out, Bool.or_eq_false_iff, decide_eq_false_iff_not] at h6
      rcases hn with hn | hn | ⟨j, rfl, hj, hn⟩
      · exact absurd hn h6.1
      · exact absurd hn h6.2
      · rw [nI_add, nI_leI (by omega) (by decide)] at h17
        omega
    ·
      refine lv_iconst (v := nI 0) hx hb dd_Mo_put_20 (by decide) ?_
      refine mr_z E hr hk hM hS (by decide) (by decide) (rfl) ?_ dd_Mo_put_21
      exact ⟨rfl, rfl⟩
theorem cc_Mo_put_y (l : Launch) (D : va_G) (z : Nat) (M : mw_M) (mm : Nat) (F : Nat → Value) (r k : Nat) (f : Nat → Int32) (word : Int32) (n : Nat) (wm : M mm = some (.inr (13, mo_l F))) (hf2 : F 2 = .ref r) (hf3 : F 3 = .int (nI k)) (wr : M r = some (.inl (D.1 100, 100, .inl f))) (hn1 : 1 ≤ n) (hn4 : n ≤ 4) (hkn : k + n ≤ 100) : mw_C l yy_Mo_put bb_Mo_put 4 (Option.some Jvm.ClassFile.FieldType.boolean) 1 22 0 0 D z M [.ref mm, .int (word), .int (nI n)] (fun v M' => v = some (.int 1) ∧ M' mm = some (.inr (13, mo_l (va_up F 3 (.int (nI (k + n)))))) ∧ M' r = some (.inl (D.1 100, 100, .inl (pt_f word n f k))) ∧ mw_fr (fun q => q = mm ∨ q = r) M M') := by
  refine mw_of (by decide) (Nat.le_of_ble_eq_true rfl) ?_
  intro p e s m below meth c ls E hr hk hnm hM hl
  have hx := E.x
  have hb := E.b
  have E : mw_E p m c bb_Mo_put 4 s _ D z "IdentityIssuerModel" := E
  have hl : lv_has ls 4 [(0, .ref mm), (1, .int (word)), (2, .int (nI n))] := hl
  have hS : va_S (mw_A z) s.heap s.heap [] := va_S.rf
  have hF : mw_fr (fun q => q = mm ∨ q = r) M M := mw_fr.rf
  refine lv_iload_n hx hb dd_Mo_put_0 rfl (lv_at hl 2 rfl) ?_
  refine lv_iconst (v := nI 1) hx hb dd_Mo_put_1 (by decide) ?_
  refine lv_iconst (v := nI 4) hx hb dd_Mo_put_2 (by decide) ?_
  refine mw_S (As := [.int (nI n), .int (nI 1), .int (nI 4)]) (rest := []) E (cc_Mo_outside l D z (M) (nI n) (nI 1) (nI 4)) ky_Mo_outside kv_Mo_outside tw_Mo_118 hM hS rfl hl.1 rfl (Nat.le_of_ble_eq_true rfl) dd_Mo_put_3 (by decide) (by decide) (fun v M1 H locs hp hM hS => ?_)
  obtain ⟨rfl, hq⟩ := hp
  have hq := hq.symm
  subst hq
  refine W.eq (g2 := F0 m 6 ls [.int (zI (mo_out (nI n) (nI 1) (nI 4)))]) rfl ?_
  refine lv_if_ne (tgt := 20) hx hb dd_Mo_put_6 (by decide) (fun h6 => ?_) (fun h6 => ?_)
  ·
    exact absurd (zI_f (by rw [mo_out, decide_eq_false (nI_nlt (by omega) (by omega)), decide_eq_false (nI_nlt (by omega) (by decide))]; rfl)) h6
  ·
    refine lv_aload_n hx hb dd_Mo_put_9 rfl (lv_at hl 0 rfl) ?_
    refine gf_Mo_122 E hM wm ((mo_at (by decide)).trans (congrArg some hf3)) dd_Mo_put_10 ?_
    refine lv_iload_n hx hb dd_Mo_put_13 rfl (lv_at hl 2 rfl) ?_
    refine lv_iadd hx hb dd_Mo_put_14 ?_
    refine mw_topi (y := nI (k + n)) (nI_add _ _) ?_
    refine lv_bipush (v := nI 100) hx hb dd_Mo_put_15 (by decide) ?_
    refine lv_icmp_le (tgt := 22) hx hb dd_Mo_put_17 (by decide) (fun h17 => ?_) (fun h17 => ?_)
    ·
      rw [nI_leI (by omega) (by omega)] at h17
      refine lv_iload_n hx hb dd_Mo_put_22 rfl (lv_at hl 2 rfl) ?_
      refine lv_iconst (v := nI 1) hx hb dd_Mo_put_23 (by decide) ?_
      refine lv_isub hx hb dd_Mo_put_24 ?_
      refine lv_istore_n (lv' := [(3, .int ((nI n) - (nI 1))), (0, .ref mm), (1, .int (word)), (2, .int (nI n))]) hx hb dd_Mo_put_25 rfl hl (by decide) rfl (fun ls hl => ?_)
      have loop26 : ∀ (d : Nat) (k1 : Nat) (f1 : Nat → Int32) (G : Nat → Value) (M1 : mw_M) (H : Heap) (locs : List Loc) (ls : Array Slot), k1 + d = k + n → d ≤ 4 → pt_f word n f k = pt_f word d f1 k1 → G = va_up F 3 (.int (nI k1)) → G 2 = .ref r → G 3 = .int (nI k1) → M1 mm = some (.inr (13, mo_l G)) → M1 r = some (.inl (D.1 100, 100, .inl f1)) → mw_fr (fun q => q = mm ∨ q = r) M M1 → mw_at D mg_cl z M1 H → va_S (mw_A z) s.heap H locs → lv_has ls 4 [(3, .int (nI d - nI 1)), (0, .ref mm), (1, .int (word)), (2, .int (nI n))] → W p l e ({ frames := 1, cells := 0, slots := 0, locals := 22 } : Room) s m ([.ref mm, .int (word), .int (nI n)] : List Value).toArray below meth c H locs (0) (0) (MQ below (mw_Q D z (fun v M' => v = some (.int 1) ∧ M' mm = some (.inr (13, mo_l (va_up F 3 (.int (nI (k + n)))))) ∧ M' r = some (.inl (D.1 100, 100, .inl (pt_f word n f k))) ∧ mw_fr (fun q => q = mm ∨ q = r) M M')) ([.ref mm, .int (word), .int (nI n)] : List Value).toArray s 0 0 (mw_A z)) (F0 m 26 ls []) := by
        intro d
        induction d with
        | zero =>
          intro k1 f1 G M1 H locs ls hk1 hd hv hG hf2 hf3 wm wr hF hM hS hl
          have hl : lv_has ls 4 [(3, .int (nI 0 - nI 1)), (0, .ref mm), (1, .int (word)), (2, .int (nI n))] := hl
          refine lv_iload_n hx hb dd_Mo_put_26 rfl (lv_at hl 0 rfl) ?_
          refine lv_if_lt (tgt := 65) hx hb dd_Mo_put_27 (by decide) (fun h27 => ?_) (fun h27 => ?_)
          ·
            refine lv_iconst (v := nI 1) hx hb dd_Mo_put_65 (by decide) ?_
            refine mr_z E hr hk hM hS (by decide) (by decide) (rfl) ?_ dd_Mo_put_66
            exact ⟨rfl, by rw [show k + n = k1 by omega, ← hG]; exact wm, by rw [hv]; exact wr, hF⟩
          ·
            exact absurd h27 (by decide)
        | succ d ih =>
          intro k1 f1 G M1 H locs ls hk1 hd hv hG hf2 hf3 wm wr hF hM hS hl
          rw [pt_pred] at hl
          refine lv_iload_n hx hb dd_Mo_put_26 rfl (lv_at hl 0 rfl) ?_
          refine lv_if_lt (tgt := 65) hx hb dd_Mo_put_27 (by decide) (fun h27 => ?_) (fun h27 => ?_)
          ·
            exact absurd h27 (nI_pos (by omega))
          ·
            refine lv_aload_n hx hb dd_Mo_put_30 rfl (lv_at hl 1 rfl) ?_
            refine gf_Mo_7 E hM wm ((mo_at (by decide)).trans (congrArg some hf2)) dd_Mo_put_31 ?_
            refine lv_aload_n hx hb dd_Mo_put_34 rfl (lv_at hl 1 rfl) ?_
            refine gf_Mo_122 E hM wm ((mo_at (by decide)).trans (congrArg some hf3)) dd_Mo_put_35 ?_
            refine lv_iload_n hx hb dd_Mo_put_38 rfl (lv_at hl 2 rfl) ?_
            refine lv_bipush (v := nI 8) hx hb dd_Mo_put_39 (by decide) ?_
            refine lv_iload_n hx hb dd_Mo_put_41 rfl (lv_at hl 0 rfl) ?_
            refine lv_imul hx hb dd_Mo_put_42 ?_
            refine mw_topi (y := nI (8 * d)) (pk_mul _ _) ?_
            refine lv_ishr hx hb dd_Mo_put_43 ?_
            refine lv_sipush (v := nI 255) hx hb dd_Mo_put_44 (by decide) ?_
            refine lv_iand hx hb dd_Mo_put_47 ?_
            refine mw_topi (y := nI (pt_n word d)) (pt_s (by omega)) ?_
            refine mw_iast hx hb E.K hM E.zz hS 0 wr rfl (vp_in_nI (by omega) (by omega)) dd_Mo_put_48 (fun H locs hM hS => ?_)
            rw [nI_clamp (by omega)] at hM
            have hM : mw_at D mg_cl z (va_up M1 r (some (.inl (D.1 100, 100, .inl (upd f1 k1 (nI (pt_n word d))))))) H := hM
            obtain ⟨M1, hM1⟩ : ∃ M9 : mw_M, M9 = va_up M1 r (some (.inl (D.1 100, 100, .inl (upd f1 k1 (nI (pt_n word d)))))) := ⟨_, rfl⟩
            rw [← hM1] at hM
            have wm := mw_uu hM1 wm (mw_ne wm wr (fun q => by cases q))
            have wr := mw_us hM1
            have hF := mw_fu hM1 hF (Or.inr rfl)
            refine lv_aload_n hx hb dd_Mo_put_49 rfl (lv_at hl 1 rfl) ?_
            refine lv_dup hx hb dd_Mo_put_50 rfl ?_
            refine gf_Mo_122 E hM wm ((mo_at (by decide)).trans (congrArg some hf3)) dd_Mo_put_51 ?_
            refine lv_iconst (v := nI 1) hx hb dd_Mo_put_54 (by decide) ?_
            refine lv_iadd hx hb dd_Mo_put_55 ?_
            refine mw_topi (y := nI (k1 + 1)) (nI_add _ _) ?_
            refine pf_Mo_122 E hM hS wm (by rw [mo_len]; decide) dd_Mo_put_56 (fun H locs hM hS => ?_)
            rw [mo_set (by decide)] at hM
            obtain ⟨F1, hF1⟩ : ∃ F9 : Nat → Value, F9 = va_up G 3 (.int (nI (k1 + 1))) := ⟨_, rfl⟩
            rw [← hF1] at hM
            have hf2 := mo_n hF1 hf2 (by decide)
            have hf3 := mo_s hF1
            have hM : mw_at D mg_cl z (va_up M1 mm (some (.inr (13, mo_l F1)))) H := hM
            obtain ⟨M1, hM1⟩ : ∃ M9 : mw_M, M9 = va_up M1 mm (some (.inr (13, mo_l F1))) := ⟨_, rfl⟩
            rw [← hM1] at hM
            have wr := mw_uu hM1 wr (mw_ne wr wm (fun q => by cases q))
            have wm := mw_us hM1
            have hF := mw_fu hM1 hF (Or.inl rfl)
            refine lv_iinc (k := 0) (v := nI d - nI 1) (lv' := [(3, .int (nI d - nI 1)), (0, .ref mm), (1, .int (word)), (2, .int (nI n))]) hx hb dd_Mo_put_59 hl rfl (pt_dec d) (by decide) rfl (fun ls hl => ?_)
            refine lv_goto (tgt := 26) hx hb dd_Mo_put_62 (by decide) ?_
            exact ih (k1 + 1) (upd f1 k1 (nI (pt_n word d))) F1 M1 H locs ls (by omega) (by omega) hv (by rw [hF1, hG, bx_uu]) hf2 hf3 wm wr hF hM hS hl
      exact loop26 n k f F M H locs ls rfl (by omega) rfl (va_up_id hf3).symm hf2 hf3 wm wr mw_fr.rf hM hS hl
    ·
      rw [nI_leI (by omega) (by omega)] at h17
      omega
