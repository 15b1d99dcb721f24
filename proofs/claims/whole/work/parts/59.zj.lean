/-! the reference: what is shown -/
theorem nI_le0 {n : Nat} (h : n < 2 ^ 31) (q : nI n ≤ 0) : n = 0 := by
  rw [Int32.le_iff_toInt_le, nI_toInt h, Int32.toInt_zero] at q
  omega
theorem nI_nle0 {n : Nat} (h : n < 2 ^ 31) (q : ¬ nI n ≤ 0) : 0 < n := by
  rw [Int32.le_iff_toInt_le, nI_toInt h, Int32.toInt_zero] at q
  omega
/-- five numbers of each that is shown -/
def mq_sh (A : Nat → Nat → Int32) (f : Nat → Int32) (a n : Nat) (L : List Nat) : Prop := ∀ j e : Nat, j < n → L[j]? = some e → f (5 * j) = nI e ∧ f (5 * j + 1) = A 26 (60 * a + e) ∧ f (5 * j + 2) = A 27 (60 * a + e) ∧ f (5 * j + 3) = A 28 (60 * a + e) ∧ f (5 * j + 4) = A 29 (60 * a + e)
theorem up_s {f : Nat → Int32} {k : Nat} {x : Int32} : upd f k x k = x := if_pos rfl
theorem up_n {f : Nat → Int32} {k j : Nat} {x : Int32} (h : j ≠ k) : upd f k x j = f j := if_neg h
theorem mq_sh_s {A : Nat → Nat → Int32} {f f1 : Nat → Int32} {a n e : Nat} {L : List Nat} (h : mq_sh A f a n L) (he : L[n]? = some e) (hf : f1 = upd (upd (upd (upd (upd f (5 * n) (nI e)) (5 * n + 1) (A 26 (60 * a + e))) (5 * n + 2) (A 27 (60 * a + e))) (5 * n + 3) (A 28 (60 * a + e))) (5 * n + 4) (A 29 (60 * a + e))) : mq_sh A f1 a (n + 1) L := fun j e' hj hje => by
  rw [hf]
  by_cases q : j = n
  · subst q
    rw [he] at hje
    cases hje
    refine ⟨?_, ?_, ?_, ?_, ?_⟩
    · rw [up_n (by omega), up_n (by omega), up_n (by omega), up_n (by omega), up_s]
    · rw [up_n (by omega), up_n (by omega), up_n (by omega), up_s]
    · rw [up_n (by omega), up_n (by omega), up_s]
    · rw [up_n (by omega), up_s]
    · rw [up_s]
  · have h1 := h j e' (by omega) hje
    refine ⟨?_, ?_, ?_, ?_, ?_⟩
    · rw [up_n (by omega), up_n (by omega), up_n (by omega), up_n (by omega), up_n (by omega)]
      exact h1.1
    · rw [up_n (by omega), up_n (by omega), up_n (by omega), up_n (by omega), up_n (by omega)]
      exact h1.2.1
    · rw [up_n (by omega), up_n (by omega), up_n (by omega), up_n (by omega), up_n (by omega)]
      exact h1.2.2.1
    · rw [up_n (by omega), up_n (by omega), up_n (by omega), up_n (by omega), up_n (by omega)]
      exact h1.2.2.2.1
    · rw [up_n (by omega), up_n (by omega), up_n (by omega), up_n (by omega), up_n (by omega)]
      exact h1.2.2.2.2
theorem mf_or_c {A A1 : Nat → Nat → Int32} {L : List Nat} (h : A1 21 = A 21) : mf_or A1 L = mf_or A L := by
  unfold mf_or
  rw [h]
theorem cc_Mo_show (l : Launch) (D : va_G) (z : Nat) (M : mw_M) (mm : Nat) (ra : Nat → Nat) (V : Nat → Int32) (A : Nat → Nat → Int32) (S : Nat → Int64) (a km : Nat) (L : List Nat) (hR : mq_R D M mm ra V A S) (ha0 : a < 3) (hfd : mq_fd V A L) (hkm : A 31 a = nI km) (hkm4 : km ≤ 4) : mw_C l yy_Mo_show bb_Mo_show 4 (Option.some Jvm.ClassFile.FieldType.int) 1 23 0 0 D z M [.ref mm, .int (nI a)] (fun v M' => v = some (.int (if L.length = 0 then -1004 else nI L.length)) ∧ (∃ V1 A1, mq_R D M' mm ra V1 A1 S ∧ V1 = va_up (va_up (va_up V 41 (nI L.length)) 43 (nI (if L.length = 0 then 0 else km))) 45 (mf_or A L &&& A 32 a) ∧ (∀ k : Nat, k ≠ 42 → k ≠ 44 → A1 k = A k) ∧ mq_sh A (A1 42) a L.length L ∧ ∀ q : Nat, q < (if L.length = 0 then 0 else km) → A1 44 q = A 30 (4 * a + q)) ∧ mw_fr (mq_P mm ra) M M') := by
  refine mw_of (by decide) (Nat.le_of_ble_eq_true rfl) ?_
  intro p e s m below meth c ls E hr hk hnm hM hl
  have hx := E.x
  have hb := E.b
  have E : mw_E p m c bb_Mo_show 4 s _ D z "IdentityIssuerModel" := E
  have hl : lv_has ls 4 [(0, .ref mm), (1, .int (nI a))] := hl
  have hS : va_S (mw_A z) s.heap s.heap [] := va_S.rf
  have hF : mw_fr (mq_P mm ra) M M := mw_fr.rf
  obtain ⟨hv46, hl12, hfe, h60⟩ := hfd
  refine lv_aload_n hx hb dd_Mo_show_0 rfl (lv_at hl 0 rfl) ?_
  refine lv_aload_n hx hb dd_Mo_show_1 rfl (lv_at hl 0 rfl) ?_
  refine gf_Mo_205 E hM hR.m ((mo_at (by decide)).trans (congrArg some (mq_vi rfl hv46))) dd_Mo_show_2 ?_
  refine pf_Mo_208 E hM hS hR.m (by rw [mo_len]; decide) dd_Mo_show_5 (fun H locs hM hS => ?_)
  rw [mo_set (by decide), mq_vu rfl] at hM
  obtain ⟨V21, hV21⟩ : ∃ V9 : Nat → Int32, V9 = va_up V 41 (nI L.length) := ⟨_, rfl⟩
  rw [← hV21] at hM
  obtain ⟨M1, hM1⟩ : ∃ M9 : mw_M, M9 = va_up M mm (some (.inr (13, mo_l (mq_v ra V21)))) := ⟨_, rfl⟩
  rw [← hM1] at hM
  have hR := hR.setV hM1
  have hF := mw_fu hM1 hF (Or.inl rfl)
  have hv46 := mq_vn hV21 hv46 (by decide)
  have hv41 := mq_vs hV21
  refine lv_iconst (v := nI 0) hx hb dd_Mo_show_8 (by decide) ?_
  refine lv_istore_n (lv' := [(2, .int (nI 0)), (0, .ref mm), (1, .int (nI a))]) hx hb dd_Mo_show_9 rfl hl (by decide) rfl (fun ls hl => ?_)
  have loop10 : ∀ (d9 : Nat) (i : Nat) (A1 : Nat → Nat → Int32) (M1 : mw_M) (H : Heap) (locs : List Loc) (ls : Array Slot), i + d9 = L.length → mq_R D M1 mm ra V21 A1 S → (∀ k : Nat, k ≠ 42 → A1 k = A k) → mq_sh A (A1 42) a i L → mw_fr (mq_P mm ra) M M1 → mw_at D mg_cl z M1 H → va_S (mw_A z) s.heap H locs → lv_has ls 4 [(2, .int (nI i)), (0, .ref mm), (1, .int (nI a))] → W p l e ({ frames := 1, cells := 0, slots := 0, locals := 23 } : Room) s m ([.ref mm, .int (nI a)] : List Value).toArray below meth c H locs (0) (0) (MQ below (mw_Q D z (fun v M' => v = some (.int (if L.length = 0 then -1004 else nI L.length)) ∧ (∃ V1 A1, mq_R D M' mm ra V1 A1 S ∧ V1 = va_up (va_up (va_up V 41 (nI L.length)) 43 (nI (if L.length = 0 then 0 else km))) 45 (mf_or A L &&& A 32 a) ∧ (∀ k : Nat, k ≠ 42 → k ≠ 44 → A1 k = A k) ∧ mq_sh A (A1 42) a L.length L ∧ ∀ q : Nat, q < (if L.length = 0 then 0 else km) → A1 44 q = A 30 (4 * a + q)) ∧ mw_fr (mq_P mm ra) M M')) ([.ref mm, .int (nI a)] : List Value).toArray s 0 0 (mw_A z)) (F0 m 10 ls []) := by
    intro d9
    induction d9 with
    | zero =>
      intro i A1 M1 H locs ls hj hR hA hsh hF hM hS hl
      refine lv_iload_n hx hb dd_Mo_show_10 rfl (lv_at hl 0 rfl) ?_
      refine lv_aload_n hx hb dd_Mo_show_11 rfl (lv_at hl 1 rfl) ?_
      refine gf_Mo_205 E hM hR.m ((mo_at (by decide)).trans (congrArg some (mq_vi rfl hv46))) dd_Mo_show_12 ?_
      refine lv_icmp_ge (tgt := 114) hx hb dd_Mo_show_15 (by decide) (fun h15 => ?_) (fun h15 => ?_)
      ·
        rw [nI_leI (by omega) (by omega)] at h15
        rw [show i = L.length by omega] at hsh
        have join135 : ∀ (V2 : Nat → Int32) (M1 : mw_M) (H : Heap) (locs : List Loc) (ls : Array Slot), mq_R D M1 mm ra V2 A1 S → V2 = va_up V21 43 (nI (if L.length = 0 then 0 else km)) → mw_fr (mq_P mm ra) M M1 → mw_at D mg_cl z M1 H → va_S (mw_A z) s.heap H locs → lv_has ls 4 [(0, .ref mm), (1, .int (nI a))] → W p l e ({ frames := 1, cells := 0, slots := 0, locals := 23 } : Room) s m ([.ref mm, .int (nI a)] : List Value).toArray below meth c H locs (0) (0) (MQ below (mw_Q D z (fun v M' => v = some (.int (if L.length = 0 then -1004 else nI L.length)) ∧ (∃ V1 A1, mq_R D M' mm ra V1 A1 S ∧ V1 = va_up (va_up (va_up V 41 (nI L.length)) 43 (nI (if L.length = 0 then 0 else km))) 45 (mf_or A L &&& A 32 a) ∧ (∀ k : Nat, k ≠ 42 → k ≠ 44 → A1 k = A k) ∧ mq_sh A (A1 42) a L.length L ∧ ∀ q : Nat, q < (if L.length = 0 then 0 else km) → A1 44 q = A 30 (4 * a + q)) ∧ mw_fr (mq_P mm ra) M M')) ([.ref mm, .int (nI a)] : List Value).toArray s 0 0 (mw_A z)) (F0 m 135 ls []) := by
          intro V2 M1 H locs ls hR hV2 hF hM hS hl
          have hv43 := mq_vs hV2
          have hv46 := mq_vn hV2 hv46 (by decide)
          refine lv_iconst (v := nI 0) hx hb dd_Mo_show_135 (by decide) ?_
          refine lv_istore_n (lv' := [(2, .int (nI 0)), (0, .ref mm), (1, .int (nI a))]) hx hb dd_Mo_show_136 rfl hl (by decide) rfl (fun ls hl => ?_)
          have loop137 : ∀ (d9 : Nat) (j : Nat) (A2 : Nat → Nat → Int32) (M2 : mw_M) (H : Heap) (locs : List Loc) (ls : Array Slot), j + d9 = (if L.length = 0 then 0 else km) → mq_R D M2 mm ra V2 A2 S → (∀ k : Nat, k ≠ 44 → A2 k = A1 k) → (∀ q : Nat, q < j → A2 44 q = A 30 (4 * a + q)) → mw_fr (mq_P mm ra) M M2 → mw_at D mg_cl z M2 H → va_S (mw_A z) s.heap H locs → lv_has ls 4 [(2, .int (nI j)), (0, .ref mm), (1, .int (nI a))] → W p l e ({ frames := 1, cells := 0, slots := 0, locals := 23 } : Room) s m ([.ref mm, .int (nI a)] : List Value).toArray below meth c H locs (0) (0) (MQ below (mw_Q D z (fun v M' => v = some (.int (if L.length = 0 then -1004 else nI L.length)) ∧ (∃ V1 A1, mq_R D M' mm ra V1 A1 S ∧ V1 = va_up (va_up (va_up V 41 (nI L.length)) 43 (nI (if L.length = 0 then 0 else km))) 45 (mf_or A L &&& A 32 a) ∧ (∀ k : Nat, k ≠ 42 → k ≠ 44 → A1 k = A k) ∧ mq_sh A (A1 42) a L.length L ∧ ∀ q : Nat, q < (if L.length = 0 then 0 else km) → A1 44 q = A 30 (4 * a + q)) ∧ mw_fr (mq_P mm ra) M M')) ([.ref mm, .int (nI a)] : List Value).toArray s 0 0 (mw_A z)) (F0 m 137 ls []) := by
            intro d9
            induction d9 with
            | zero =>
              intro j A2 M2 H locs ls hkk hR hB hqs hF hM hS hl
              have hlk : (if L.length = 0 then 0 else km) ≤ 4 := by split <;> omega
              refine lv_iload_n hx hb dd_Mo_show_137 rfl (lv_at hl 0 rfl) ?_
              refine lv_aload_n hx hb dd_Mo_show_138 rfl (lv_at hl 1 rfl) ?_
              refine gf_Mo_211 E hM hR.m ((mo_at (by decide)).trans (congrArg some (mq_vi rfl hv43))) dd_Mo_show_139 ?_
              refine lv_icmp_ge (tgt := 167) hx hb dd_Mo_show_142 (by decide) (fun h142 => ?_) (fun h142 => ?_)
              ·
                rw [nI_leI (by omega) (by omega)] at h142
                refine lv_aload_n hx hb dd_Mo_show_167 rfl (lv_at hl 1 rfl) ?_
                refine lv_aload_n hx hb dd_Mo_show_168 rfl (lv_at hl 1 rfl) ?_
                refine lv_iload_n hx hb dd_Mo_show_169 rfl (lv_at hl 2 rfl) ?_
                refine mw_V (As := [.int (nI a)]) (rest := [.ref mm]) E (cc_Mo_foreignFor l D z (M2) mm ra V2 A2 S a L hR ha0 ⟨hv46, hl12, fun i e h => by rw [hB 47 (by decide), hA 47 (by decide)]; exact hfe i e h, h60⟩) ky_Mo_foreignFor kv_Mo_foreignFor tw_Mo_214 hM hS hR.m rfl rfl rfl hl.1 rfl (Nat.le_of_ble_eq_true rfl) dd_Mo_show_170 (by first | decide | exact ⟨by dsimp only; omega, by dsimp only; omega⟩) (by decide) (fun v M1 H locs hp hM hS => ?_)
                obtain ⟨rfl, hq⟩ := hp
                have hq := hq.symm
                subst hq
                refine W.eq (g2 := F0 m 173 ls [.int (mf_or A2 L &&& A2 32 a), .ref mm]) rfl ?_
                refine mw_topi (y := mf_or A L &&& A 32 a) (by rw [mf_or_c (A := A) (by rw [hB 21 (by decide), hA 21 (by decide)]), hB 32 (by decide), hA 32 (by decide)]) ?_
                refine pf_Mo_217 E hM hS hR.m (by rw [mo_len]; decide) dd_Mo_show_173 (fun H locs hM hS => ?_)
                rw [mo_set (by decide), mq_vu rfl] at hM
                obtain ⟨V22, hV22⟩ : ∃ V9 : Nat → Int32, V9 = va_up V2 45 (mf_or A L &&& A 32 a) := ⟨_, rfl⟩
                rw [← hV22] at hM
                obtain ⟨M1, hM1⟩ : ∃ M9 : mw_M, M9 = va_up M2 mm (some (.inr (13, mo_l (mq_v ra V22)))) := ⟨_, rfl⟩
                rw [← hM1] at hM
                have hR := hR.setV hM1
                have hF := mw_fu hM1 hF (Or.inl rfl)
                have hv46 := mq_vn hV22 hv46 (by decide)
                have hv43 := mq_vn hV22 hv43 (by decide)
                have hv45 := mq_vs hV22
                refine lv_aload_n hx hb dd_Mo_show_176 rfl (lv_at hl 1 rfl) ?_
                refine gf_Mo_205 E hM hR.m ((mo_at (by decide)).trans (congrArg some (mq_vi rfl hv46))) dd_Mo_show_177 ?_
                refine lv_if_le (tgt := 190) hx hb dd_Mo_show_180 (by decide) (fun h180 => ?_) (fun h180 => ?_)
                ·
                  refine lv_sipush (v := -1004) hx hb dd_Mo_show_190 (by decide) ?_
                  refine mr_i E hr hk hM hS (by decide) (by decide) ?_ dd_Mo_show_193
                  exact ⟨by rw [if_pos (nI_le0 (by omega) h180)], ⟨V22, A2, hR, by rw [hV22, hV2, hV21], fun k h1 h2 => by rw [hB k h2]; exact hA k h1, by rw [hB 42 (by decide)]; exact hsh, fun q h => hqs q (by omega)⟩, hF⟩
                ·
                  refine lv_aload_n hx hb dd_Mo_show_183 rfl (lv_at hl 1 rfl) ?_
                  refine gf_Mo_205 E hM hR.m ((mo_at (by decide)).trans (congrArg some (mq_vi rfl hv46))) dd_Mo_show_184 ?_
                  refine lv_goto (tgt := 193) hx hb dd_Mo_show_187 (by decide) ?_
                  refine mr_i E hr hk hM hS (by decide) (by decide) ?_ dd_Mo_show_193
                  exact ⟨by rw [if_neg (by have := nI_nle0 (by omega) h180; omega)], ⟨V22, A2, hR, by rw [hV22, hV2, hV21], fun k h1 h2 => by rw [hB k h2]; exact hA k h1, by rw [hB 42 (by decide)]; exact hsh, fun q h => hqs q (by omega)⟩, hF⟩
              ·
                rw [nI_leI (by omega) (by omega)] at h142
                omega
            | succ d9 ih =>
              intro j A2 M2 H locs ls hkk hR hB hqs hF hM hS hl
              have hlk : (if L.length = 0 then 0 else km) ≤ 4 := by split <;> omega
              refine lv_iload_n hx hb dd_Mo_show_137 rfl (lv_at hl 0 rfl) ?_
              refine lv_aload_n hx hb dd_Mo_show_138 rfl (lv_at hl 1 rfl) ?_
              refine gf_Mo_211 E hM hR.m ((mo_at (by decide)).trans (congrArg some (mq_vi rfl hv43))) dd_Mo_show_139 ?_
              refine lv_icmp_ge (tgt := 167) hx hb dd_Mo_show_142 (by decide) (fun h142 => ?_) (fun h142 => ?_)
              ·
                rw [nI_leI (by omega) (by omega)] at h142
                omega
              ·
                rw [nI_leI (by omega) (by omega)] at h142
                refine lv_aload_n hx hb dd_Mo_show_145 rfl (lv_at hl 1 rfl) ?_
                refine gf_Mo_99 E hM hR.m ((mo_at (by decide)).trans (congrArg some (mq_va rfl))) dd_Mo_show_146 ?_
                have w44 : M2 (ra 44) = some (.inl (D.1 100, 4, .inl (A2 44))) := hR.w 44 rfl (by decide)
                refine lv_iload_n hx hb dd_Mo_show_149 rfl (lv_at hl 0 rfl) ?_
                refine lv_aload_n hx hb dd_Mo_show_150 rfl (lv_at hl 1 rfl) ?_
                refine gf_Mo_66 E hM hR.m ((mo_at (by decide)).trans (congrArg some (mq_va rfl))) dd_Mo_show_151 ?_
                have w30 : M2 (ra 30) = some (.inl (D.1 100, 12, .inl (A2 30))) := hR.w 30 rfl (by decide)
                refine lv_iconst (v := nI 4) hx hb dd_Mo_show_154 (by decide) ?_
                refine lv_iload_n hx hb dd_Mo_show_155 rfl (lv_at hl 2 rfl) ?_
                refine lv_imul hx hb dd_Mo_show_156 ?_
                refine mw_topi (y := nI (4 * a)) (pk_mul _ _) ?_
                refine lv_iload_n hx hb dd_Mo_show_157 rfl (lv_at hl 0 rfl) ?_
                refine lv_iadd hx hb dd_Mo_show_158 ?_
                refine mw_topi (y := nI ((4 * a) + j)) (nI_add _ _) ?_
                refine mw_iald hx hb E.K hM 0 w30 rfl (vp_in_nI (by omega) (by omega)) dd_Mo_show_159 ?_
                refine mw_topi (y := (A2 30) ((4 * a) + j)) (by rw [nI_clamp (by omega)]) ?_
                refine mw_topi (y := A 30 (4 * a + j)) (by rw [hB 30 (by decide), hA 30 (by decide)]) ?_
                have w44 : M2 (ra 44) = some (.inl (D.1 100, 4, .inl (A2 44))) := hR.w 44 rfl (by decide)
                refine mw_iast hx hb E.K hM E.zz hS 0 w44 rfl (vp_in_nI (by omega) (by omega)) dd_Mo_show_160 (fun H locs hM hS => ?_)
                rw [nI_clamp (by omega)] at hM
                have hM : mw_at D mg_cl z (va_up M2 (ra 44) (some (.inl (D.1 100, 4, .inl ((upd (A2 44) j (A 30 (4 * a + j)))))))) H := hM
                obtain ⟨M1, hM1⟩ : ∃ M9 : mw_M, M9 = va_up M2 (ra 44) (some (.inl (D.1 100, 4, .inl ((upd (A2 44) j (A 30 (4 * a + j))))))) := ⟨_, rfl⟩
                rw [← hM1] at hM
                obtain ⟨A23, hA23⟩ : ∃ A9 : Nat → Nat → Int32, A9 = va_up A2 44 (upd (A2 44) j (A 30 (4 * a + j))) := ⟨_, rfl⟩
                have hR := hR.setA 44 rfl (by decide) hM1 hA23
                have hF := mw_fu hM1 hF (mq_Pa (k := 44) rfl)
                refine lv_iinc (k := 0) (v := nI (j + 1)) (lv' := [(2, .int (nI (j + 1))), (0, .ref mm), (1, .int (nI a))]) hx hb dd_Mo_show_161 hl rfl (nI_1 _) (by decide) rfl (fun ls hl => ?_)
                refine lv_goto (tgt := 137) hx hb dd_Mo_show_164 (by decide) ?_
                refine ih (j + 1) _ M1 H locs ls (by omega) hR (fun k hk => by rw [hA23, va_up_ne _ _ hk]; exact hB k hk) ?_ hF hM hS (lv_sub hl [0, 1, 2] rfl)
                intro q hq9
                rw [hA23, va_up_self]
                unfold upd
                by_cases e9 : q = j
                · rw [if_pos e9, e9]
                · rw [if_neg e9]
                  exact hqs q (by omega)
          exact loop137 (if L.length = 0 then 0 else km) 0 A1 M1 H locs ls (by omega) hR (fun _ _ => rfl) (fun q h => absurd h (by omega)) hF hM hS (lv_sub hl [0, 1, 2] rfl)
        refine lv_aload_n hx hb dd_Mo_show_114 rfl (lv_at hl 1 rfl) ?_
        refine lv_aload_n hx hb dd_Mo_show_115 rfl (lv_at hl 1 rfl) ?_
        refine gf_Mo_205 E hM hR.m ((mo_at (by decide)).trans (congrArg some (mq_vi rfl hv46))) dd_Mo_show_116 ?_
        refine lv_if_le (tgt := 131) hx hb dd_Mo_show_119 (by decide) (fun h119 => ?_) (fun h119 => ?_)
        ·
          have e0 := nI_le0 (by omega) h119
          refine lv_iconst (v := nI 0) hx hb dd_Mo_show_131 (by decide) ?_
          refine pf_Mo_211 E hM hS hR.m (by rw [mo_len]; decide) dd_Mo_show_132 (fun H locs hM hS => ?_)
          rw [mo_set (by decide), mq_vu rfl] at hM
          obtain ⟨V24, hV24⟩ : ∃ V9 : Nat → Int32, V9 = va_up V21 43 (nI 0) := ⟨_, rfl⟩
          rw [← hV24] at hM
          obtain ⟨M1, hM1⟩ : ∃ M9 : mw_M, M9 = va_up M1 mm (some (.inr (13, mo_l (mq_v ra V24)))) := ⟨_, rfl⟩
          rw [← hM1] at hM
          have hR := hR.setV hM1
          have hF := mw_fu hM1 hF (Or.inl rfl)
          have hv46 := mq_vn hV24 hv46 (by decide)
          have hv41 := mq_vn hV24 hv41 (by decide)
          have hv43 := mq_vs hV24
          exact join135 _ M1 H locs ls hR (by rw [hV24, if_pos e0]) hF hM hS (lv_sub hl [1, 2] rfl)
        ·
          have e0 := nI_nle0 (by omega) h119
          refine lv_aload_n hx hb dd_Mo_show_122 rfl (lv_at hl 1 rfl) ?_
          refine gf_Mo_69 E hM hR.m ((mo_at (by decide)).trans (congrArg some (mq_va rfl))) dd_Mo_show_123 ?_
          have w31 : M1 (ra 31) = some (.inl (D.1 100, 3, .inl (A1 31))) := hR.w 31 rfl (by decide)
          refine lv_iload_n hx hb dd_Mo_show_126 rfl (lv_at hl 2 rfl) ?_
          refine mw_iald hx hb E.K hM 0 w31 rfl (vp_in_nI (by omega) (by omega)) dd_Mo_show_127 ?_
          refine mw_topi (y := (A1 31) a) (by rw [nI_clamp (by omega)]) ?_
          refine mw_topi (y := nI km) (by rw [hA 31 (by decide)]; exact hkm) ?_
          refine lv_goto (tgt := 132) hx hb dd_Mo_show_128 (by decide) ?_
          refine pf_Mo_211 E hM hS hR.m (by rw [mo_len]; decide) dd_Mo_show_132 (fun H locs hM hS => ?_)
          rw [mo_set (by decide), mq_vu rfl] at hM
          obtain ⟨V25, hV25⟩ : ∃ V9 : Nat → Int32, V9 = va_up V21 43 (nI km) := ⟨_, rfl⟩
          rw [← hV25] at hM
          obtain ⟨M1, hM1⟩ : ∃ M9 : mw_M, M9 = va_up M1 mm (some (.inr (13, mo_l (mq_v ra V25)))) := ⟨_, rfl⟩
          rw [← hM1] at hM
          have hR := hR.setV hM1
          have hF := mw_fu hM1 hF (Or.inl rfl)
          have hv46 := mq_vn hV25 hv46 (by decide)
          have hv41 := mq_vn hV25 hv41 (by decide)
          have hv43 := mq_vs hV25
          exact join135 _ M1 H locs ls hR (by rw [hV25, if_neg (by omega)]) hF hM hS (lv_sub hl [1, 2] rfl)
      ·
        rw [nI_leI (by omega) (by omega)] at h15
        omega
    | succ d9 ih =>
      intro i A1 M1 H locs ls hj hR hA hsh hF hM hS hl
      refine lv_iload_n hx hb dd_Mo_show_10 rfl (lv_at hl 0 rfl) ?_
      refine lv_aload_n hx hb dd_Mo_show_11 rfl (lv_at hl 1 rfl) ?_
      refine gf_Mo_205 E hM hR.m ((mo_at (by decide)).trans (congrArg some (mq_vi rfl hv46))) dd_Mo_show_12 ?_
      refine lv_icmp_ge (tgt := 114) hx hb dd_Mo_show_15 (by decide) (fun h15 => ?_) (fun h15 => ?_)
      ·
        rw [nI_leI (by omega) (by omega)] at h15
        omega
      ·
        rw [nI_leI (by omega) (by omega)] at h15
        refine lv_bipush (v := nI 60) hx hb dd_Mo_show_18 (by decide) ?_
        refine lv_iload_n hx hb dd_Mo_show_20 rfl (lv_at hl 2 rfl) ?_
        refine lv_imul hx hb dd_Mo_show_21 ?_
        refine mw_topi (y := nI (60 * a)) (pk_mul _ _) ?_
        refine lv_aload_n hx hb dd_Mo_show_22 rfl (lv_at hl 1 rfl) ?_
        refine gf_Mo_102 E hM hR.m ((mo_at (by decide)).trans (congrArg some (mq_va rfl))) dd_Mo_show_23 ?_
        have w47 : M1 (ra 47) = some (.inl (D.1 100, 12, .inl (A1 47))) := hR.w 47 rfl (by decide)
        refine lv_iload_n hx hb dd_Mo_show_26 rfl (lv_at hl 0 rfl) ?_
        refine mw_iald hx hb E.K hM 0 w47 rfl (vp_in_nI (by omega) (by omega)) dd_Mo_show_27 ?_
        refine mw_topi (y := (A1 47) i) (by rw [nI_clamp (by omega)]) ?_
        obtain ⟨en, he⟩ : ∃ en, L[i]? = some en := ⟨_, List.getElem?_eq_getElem (by omega)⟩
        have he60 := h60 en (List.mem_of_getElem? he)
        refine mw_topi (y := nI en) (by rw [hA 47 (by decide)]; exact hfe i en he) ?_
        refine lv_iadd hx hb dd_Mo_show_28 ?_
        refine mw_topi (y := nI ((60 * a) + en)) (nI_add _ _) ?_
        refine lv_istore_n (lv' := [(3, .int (nI ((60 * a) + en))), (2, .int (nI i)), (0, .ref mm), (1, .int (nI a))]) hx hb dd_Mo_show_29 rfl hl (by decide) rfl (fun ls hl => ?_)
        refine lv_aload_n hx hb dd_Mo_show_30 rfl (lv_at hl 2 rfl) ?_
        refine gf_Mo_96 E hM hR.m ((mo_at (by decide)).trans (congrArg some (mq_va rfl))) dd_Mo_show_31 ?_
        have w42 : M1 (ra 42) = some (.inl (D.1 100, 60, .inl (A1 42))) := hR.w 42 rfl (by decide)
        refine lv_iconst (v := nI 5) hx hb dd_Mo_show_34 (by decide) ?_
        refine lv_iload_n hx hb dd_Mo_show_35 rfl (lv_at hl 1 rfl) ?_
        refine lv_imul hx hb dd_Mo_show_36 ?_
        refine mw_topi (y := nI (5 * i)) (pk_mul _ _) ?_
        refine lv_aload_n hx hb dd_Mo_show_37 rfl (lv_at hl 2 rfl) ?_
        refine gf_Mo_102 E hM hR.m ((mo_at (by decide)).trans (congrArg some (mq_va rfl))) dd_Mo_show_38 ?_
        have w47 : M1 (ra 47) = some (.inl (D.1 100, 12, .inl (A1 47))) := hR.w 47 rfl (by decide)
        refine lv_iload_n hx hb dd_Mo_show_41 rfl (lv_at hl 1 rfl) ?_
        refine mw_iald hx hb E.K hM 0 w47 rfl (vp_in_nI (by omega) (by omega)) dd_Mo_show_42 ?_
        refine mw_topi (y := (A1 47) i) (by rw [nI_clamp (by omega)]) ?_
        refine mw_topi (y := nI en) (by rw [hA 47 (by decide)]; exact hfe i en he) ?_
        have w42 : M1 (ra 42) = some (.inl (D.1 100, 60, .inl (A1 42))) := hR.w 42 rfl (by decide)
        refine mw_iast hx hb E.K hM E.zz hS 0 w42 rfl (vp_in_nI (by omega) (by omega)) dd_Mo_show_43 (fun H locs hM hS => ?_)
        rw [nI_clamp (by omega)] at hM
        have hM : mw_at D mg_cl z (va_up M1 (ra 42) (some (.inl (D.1 100, 60, .inl ((upd (A1 42) (5 * i) (nI en))))))) H := hM
        obtain ⟨M1, hM1⟩ : ∃ M9 : mw_M, M9 = va_up M1 (ra 42) (some (.inl (D.1 100, 60, .inl ((upd (A1 42) (5 * i) (nI en)))))) := ⟨_, rfl⟩
        rw [← hM1] at hM
        obtain ⟨A26, hA26⟩ : ∃ A9 : Nat → Nat → Int32, A9 = va_up A1 42 (upd (A1 42) (5 * i) (nI en)) := ⟨_, rfl⟩
        have hR := hR.setA 42 rfl (by decide) hM1 hA26
        have hF := mw_fu hM1 hF (mq_Pa (k := 42) rfl)
        have hA : ∀ k : Nat, k ≠ 42 → A26 k = A k := fun k hk => by rw [hA26, va_up_ne _ _ hk]; exact hA k hk
        refine lv_aload_n hx hb dd_Mo_show_44 rfl (lv_at hl 2 rfl) ?_
        refine gf_Mo_96 E hM hR.m ((mo_at (by decide)).trans (congrArg some (mq_va rfl))) dd_Mo_show_45 ?_
        have w42 : M1 (ra 42) = some (.inl (D.1 100, 60, .inl (A26 42))) := hR.w 42 rfl (by decide)
        refine lv_iconst (v := nI 5) hx hb dd_Mo_show_48 (by decide) ?_
        refine lv_iload_n hx hb dd_Mo_show_49 rfl (lv_at hl 1 rfl) ?_
        refine lv_imul hx hb dd_Mo_show_50 ?_
        refine mw_topi (y := nI (5 * i)) (pk_mul _ _) ?_
        refine lv_iconst (v := nI 1) hx hb dd_Mo_show_51 (by decide) ?_
        refine lv_iadd hx hb dd_Mo_show_52 ?_
        refine mw_topi (y := nI ((5 * i) + 1)) (nI_add _ _) ?_
        refine lv_aload_n hx hb dd_Mo_show_53 rfl (lv_at hl 2 rfl) ?_
        refine gf_Mo_54 E hM hR.m ((mo_at (by decide)).trans (congrArg some (mq_va rfl))) dd_Mo_show_54 ?_
        have w26 : M1 (ra 26) = some (.inl (D.1 100, 180, .inl (A26 26))) := hR.w 26 rfl (by decide)
        refine lv_iload_n hx hb dd_Mo_show_57 rfl (lv_at hl 0 rfl) ?_
        refine mw_iald hx hb E.K hM 0 w26 rfl (vp_in_nI (by omega) (by omega)) dd_Mo_show_58 ?_
        refine mw_topi (y := (A26 26) ((60 * a) + en)) (by rw [nI_clamp (by omega)]) ?_
        refine mw_topi (y := A 26 (60 * a + en)) (by rw [hA 26 (by decide)]) ?_
        have w42 : M1 (ra 42) = some (.inl (D.1 100, 60, .inl (A26 42))) := hR.w 42 rfl (by decide)
        refine mw_iast hx hb E.K hM E.zz hS 0 w42 rfl (vp_in_nI (by omega) (by omega)) dd_Mo_show_59 (fun H locs hM hS => ?_)
        rw [nI_clamp (by omega)] at hM
        have hM : mw_at D mg_cl z (va_up M1 (ra 42) (some (.inl (D.1 100, 60, .inl ((upd (A26 42) ((5 * i) + 1) (A 26 (60 * a + en)))))))) H := hM
        obtain ⟨M1, hM1⟩ : ∃ M9 : mw_M, M9 = va_up M1 (ra 42) (some (.inl (D.1 100, 60, .inl ((upd (A26 42) ((5 * i) + 1) (A 26 (60 * a + en))))))) := ⟨_, rfl⟩
        rw [← hM1] at hM
        obtain ⟨A27, hA27⟩ : ∃ A9 : Nat → Nat → Int32, A9 = va_up A26 42 (upd (A26 42) ((5 * i) + 1) (A 26 (60 * a + en))) := ⟨_, rfl⟩
        have hR := hR.setA 42 rfl (by decide) hM1 hA27
        have hF := mw_fu hM1 hF (mq_Pa (k := 42) rfl)
        have hA : ∀ k : Nat, k ≠ 42 → A27 k = A k := fun k hk => by rw [hA27, va_up_ne _ _ hk]; exact hA k hk
        refine lv_aload_n hx hb dd_Mo_show_60 rfl (lv_at hl 2 rfl) ?_
        refine gf_Mo_96 E hM hR.m ((mo_at (by decide)).trans (congrArg some (mq_va rfl))) dd_Mo_show_61 ?_
        have w42 : M1 (ra 42) = some (.inl (D.1 100, 60, .inl (A27 42))) := hR.w 42 rfl (by decide)
        refine lv_iconst (v := nI 5) hx hb dd_Mo_show_64 (by decide) ?_
        refine lv_iload_n hx hb dd_Mo_show_65 rfl (lv_at hl 1 rfl) ?_
        refine lv_imul hx hb dd_Mo_show_66 ?_
        refine mw_topi (y := nI (5 * i)) (pk_mul _ _) ?_
        refine lv_iconst (v := nI 2) hx hb dd_Mo_show_67 (by decide) ?_
        refine lv_iadd hx hb dd_Mo_show_68 ?_
        refine mw_topi (y := nI ((5 * i) + 2)) (nI_add _ _) ?_
        refine lv_aload_n hx hb dd_Mo_show_69 rfl (lv_at hl 2 rfl) ?_
        refine gf_Mo_57 E hM hR.m ((mo_at (by decide)).trans (congrArg some (mq_va rfl))) dd_Mo_show_70 ?_
        have w27 : M1 (ra 27) = some (.inl (D.1 100, 180, .inl (A27 27))) := hR.w 27 rfl (by decide)
        refine lv_iload_n hx hb dd_Mo_show_73 rfl (lv_at hl 0 rfl) ?_
        refine mw_iald hx hb E.K hM 0 w27 rfl (vp_in_nI (by omega) (by omega)) dd_Mo_show_74 ?_
        refine mw_topi (y := (A27 27) ((60 * a) + en)) (by rw [nI_clamp (by omega)]) ?_
        refine mw_topi (y := A 27 (60 * a + en)) (by rw [hA 27 (by decide)]) ?_
        have w42 : M1 (ra 42) = some (.inl (D.1 100, 60, .inl (A27 42))) := hR.w 42 rfl (by decide)
        refine mw_iast hx hb E.K hM E.zz hS 0 w42 rfl (vp_in_nI (by omega) (by omega)) dd_Mo_show_75 (fun H locs hM hS => ?_)
        rw [nI_clamp (by omega)] at hM
        have hM : mw_at D mg_cl z (va_up M1 (ra 42) (some (.inl (D.1 100, 60, .inl ((upd (A27 42) ((5 * i) + 2) (A 27 (60 * a + en)))))))) H := hM
        obtain ⟨M1, hM1⟩ : ∃ M9 : mw_M, M9 = va_up M1 (ra 42) (some (.inl (D.1 100, 60, .inl ((upd (A27 42) ((5 * i) + 2) (A 27 (60 * a + en))))))) := ⟨_, rfl⟩
        rw [← hM1] at hM
        obtain ⟨A28, hA28⟩ : ∃ A9 : Nat → Nat → Int32, A9 = va_up A27 42 (upd (A27 42) ((5 * i) + 2) (A 27 (60 * a + en))) := ⟨_, rfl⟩
        have hR := hR.setA 42 rfl (by decide) hM1 hA28
        have hF := mw_fu hM1 hF (mq_Pa (k := 42) rfl)
        have hA : ∀ k : Nat, k ≠ 42 → A28 k = A k := fun k hk => by rw [hA28, va_up_ne _ _ hk]; exact hA k hk
        refine lv_aload_n hx hb dd_Mo_show_76 rfl (lv_at hl 2 rfl) ?_
        refine gf_Mo_96 E hM hR.m ((mo_at (by decide)).trans (congrArg some (mq_va rfl))) dd_Mo_show_77 ?_
        have w42 : M1 (ra 42) = some (.inl (D.1 100, 60, .inl (A28 42))) := hR.w 42 rfl (by decide)
        refine lv_iconst (v := nI 5) hx hb dd_Mo_show_80 (by decide) ?_
        refine lv_iload_n hx hb dd_Mo_show_81 rfl (lv_at hl 1 rfl) ?_
        refine lv_imul hx hb dd_Mo_show_82 ?_
        refine mw_topi (y := nI (5 * i)) (pk_mul _ _) ?_
        refine lv_iconst (v := nI 3) hx hb dd_Mo_show_83 (by decide) ?_
        refine lv_iadd hx hb dd_Mo_show_84 ?_
        refine mw_topi (y := nI ((5 * i) + 3)) (nI_add _ _) ?_
        refine lv_aload_n hx hb dd_Mo_show_85 rfl (lv_at hl 2 rfl) ?_
        refine gf_Mo_60 E hM hR.m ((mo_at (by decide)).trans (congrArg some (mq_va rfl))) dd_Mo_show_86 ?_
        have w28 : M1 (ra 28) = some (.inl (D.1 100, 180, .inl (A28 28))) := hR.w 28 rfl (by decide)
        refine lv_iload_n hx hb dd_Mo_show_89 rfl (lv_at hl 0 rfl) ?_
        refine mw_iald hx hb E.K hM 0 w28 rfl (vp_in_nI (by omega) (by omega)) dd_Mo_show_90 ?_
        refine mw_topi (y := (A28 28) ((60 * a) + en)) (by rw [nI_clamp (by omega)]) ?_
        refine mw_topi (y := A 28 (60 * a + en)) (by rw [hA 28 (by decide)]) ?_
        have w42 : M1 (ra 42) = some (.inl (D.1 100, 60, .inl (A28 42))) := hR.w 42 rfl (by decide)
        refine mw_iast hx hb E.K hM E.zz hS 0 w42 rfl (vp_in_nI (by omega) (by omega)) dd_Mo_show_91 (fun H locs hM hS => ?_)
        rw [nI_clamp (by omega)] at hM
        have hM : mw_at D mg_cl z (va_up M1 (ra 42) (some (.inl (D.1 100, 60, .inl ((upd (A28 42) ((5 * i) + 3) (A 28 (60 * a + en)))))))) H := hM
        obtain ⟨M1, hM1⟩ : ∃ M9 : mw_M, M9 = va_up M1 (ra 42) (some (.inl (D.1 100, 60, .inl ((upd (A28 42) ((5 * i) + 3) (A 28 (60 * a + en))))))) := ⟨_, rfl⟩
        rw [← hM1] at hM
        obtain ⟨A29, hA29⟩ : ∃ A9 : Nat → Nat → Int32, A9 = va_up A28 42 (upd (A28 42) ((5 * i) + 3) (A 28 (60 * a + en))) := ⟨_, rfl⟩
        have hR := hR.setA 42 rfl (by decide) hM1 hA29
        have hF := mw_fu hM1 hF (mq_Pa (k := 42) rfl)
        have hA : ∀ k : Nat, k ≠ 42 → A29 k = A k := fun k hk => by rw [hA29, va_up_ne _ _ hk]; exact hA k hk
        refine lv_aload_n hx hb dd_Mo_show_92 rfl (lv_at hl 2 rfl) ?_
        refine gf_Mo_96 E hM hR.m ((mo_at (by decide)).trans (congrArg some (mq_va rfl))) dd_Mo_show_93 ?_
        have w42 : M1 (ra 42) = some (.inl (D.1 100, 60, .inl (A29 42))) := hR.w 42 rfl (by decide)
        refine lv_iconst (v := nI 5) hx hb dd_Mo_show_96 (by decide) ?_
        refine lv_iload_n hx hb dd_Mo_show_97 rfl (lv_at hl 1 rfl) ?_
        refine lv_imul hx hb dd_Mo_show_98 ?_
        refine mw_topi (y := nI (5 * i)) (pk_mul _ _) ?_
        refine lv_iconst (v := nI 4) hx hb dd_Mo_show_99 (by decide) ?_
        refine lv_iadd hx hb dd_Mo_show_100 ?_
        refine mw_topi (y := nI ((5 * i) + 4)) (nI_add _ _) ?_
        refine lv_aload_n hx hb dd_Mo_show_101 rfl (lv_at hl 2 rfl) ?_
        refine gf_Mo_63 E hM hR.m ((mo_at (by decide)).trans (congrArg some (mq_va rfl))) dd_Mo_show_102 ?_
        have w29 : M1 (ra 29) = some (.inl (D.1 100, 180, .inl (A29 29))) := hR.w 29 rfl (by decide)
        refine lv_iload_n hx hb dd_Mo_show_105 rfl (lv_at hl 0 rfl) ?_
        refine mw_iald hx hb E.K hM 0 w29 rfl (vp_in_nI (by omega) (by omega)) dd_Mo_show_106 ?_
        refine mw_topi (y := (A29 29) ((60 * a) + en)) (by rw [nI_clamp (by omega)]) ?_
        refine mw_topi (y := A 29 (60 * a + en)) (by rw [hA 29 (by decide)]) ?_
        have w42 : M1 (ra 42) = some (.inl (D.1 100, 60, .inl (A29 42))) := hR.w 42 rfl (by decide)
        refine mw_iast hx hb E.K hM E.zz hS 0 w42 rfl (vp_in_nI (by omega) (by omega)) dd_Mo_show_107 (fun H locs hM hS => ?_)
        rw [nI_clamp (by omega)] at hM
        have hM : mw_at D mg_cl z (va_up M1 (ra 42) (some (.inl (D.1 100, 60, .inl ((upd (A29 42) ((5 * i) + 4) (A 29 (60 * a + en)))))))) H := hM
        obtain ⟨M1, hM1⟩ : ∃ M9 : mw_M, M9 = va_up M1 (ra 42) (some (.inl (D.1 100, 60, .inl ((upd (A29 42) ((5 * i) + 4) (A 29 (60 * a + en))))))) := ⟨_, rfl⟩
        rw [← hM1] at hM
        obtain ⟨A30, hA30⟩ : ∃ A9 : Nat → Nat → Int32, A9 = va_up A29 42 (upd (A29 42) ((5 * i) + 4) (A 29 (60 * a + en))) := ⟨_, rfl⟩
        have hR := hR.setA 42 rfl (by decide) hM1 hA30
        have hF := mw_fu hM1 hF (mq_Pa (k := 42) rfl)
        have hA : ∀ k : Nat, k ≠ 42 → A30 k = A k := fun k hk => by rw [hA30, va_up_ne _ _ hk]; exact hA k hk
        refine lv_iinc (k := 1) (v := nI (i + 1)) (lv' := [(2, .int (nI (i + 1))), (3, .int (nI ((60 * a) + en))), (0, .ref mm), (1, .int (nI a))]) hx hb dd_Mo_show_108 hl rfl (nI_1 _) (by decide) rfl (fun ls hl => ?_)
        refine lv_goto (tgt := 10) hx hb dd_Mo_show_111 (by decide) ?_
        exact ih (i + 1) _ M1 H locs ls (by omega) hR hA (mq_sh_s hsh he (by rw [hA30, va_up_self, hA29, va_up_self, hA28, va_up_self, hA27, va_up_self, hA26, va_up_self])) hF hM hS (lv_sub hl [0, 2, 3] rfl)
  exact loop10 L.length 0 A M1 H locs ls (by omega) hR (fun _ _ => rfl) (fun j e h => absurd h (by omega)) hF hM hS (lv_sub hl [0, 1, 2] rfl)
