/-! the reference: news, poll -/
def nw_same (A : Nat → Nat → Int32) (wi a : Nat) (L : List Nat) (lk : Nat) : Prop := (A 36 wi = nI L.length ∧ A 38 wi = nI lk ∧ A 40 wi = mf_or A L &&& A 32 a) ∧ (∀ i e : Nat, L[i]? = some e → A 37 (12 * wi + i) = A 26 (60 * a + e)) ∧ ∀ q : Nat, q < lk → A 39 (4 * wi + q) = A 30 (4 * a + q)
theorem cc_Mo_news (l : Launch) (D : va_G) (z : Nat) (M : mw_M) (mm : Nat) (ra : Nat → Nat) (V : Nat → Int32) (A : Nat → Nat → Int32) (S : Nat → Int64) (wi a km : Nat) (L : List Nat) (hR : mq_R D M mm ra V A S) (hwi : wi < 4) (ha0 : a < 3) (hfd : mq_fd V A L) (hkm : A 31 a = nI km) (hkm4 : km ≤ 4) : mw_C l yy_Mo_news bb_Mo_news 6 (Option.some Jvm.ClassFile.FieldType.boolean) 1 23 0 0 D z M [.ref mm, .int (nI wi), .int (nI a)] (fun v M' => ∃ bb : Bool, v = some (.int (zI bb)) ∧ (bb = false ↔ nw_same A wi a L (if L.length = 0 then 0 else km)) ∧ M' = M) := by
  refine mw_of (by decide) (Nat.le_of_ble_eq_true rfl) ?_
  intro p e s m below meth c ls E hr hk hnm hM hl
  have hx := E.x
  have hb := E.b
  have E : mw_E p m c bb_Mo_news 6 s _ D z "IdentityIssuerModel" := E
  have hl : lv_has ls 6 [(0, .ref mm), (1, .int (nI wi)), (2, .int (nI a))] := hl
  have hS : va_S (mw_A z) s.heap s.heap [] := va_S.rf
  have hfd0 := hfd
  obtain ⟨hv46, hl12, hfe, h60⟩ := hfd
  have hlk : (if L.length = 0 then 0 else km) ≤ 4 := by split <;> omega
  have join176 : ∀ (fl : Bool) (H : Heap) (locs : List Loc) (ls : Array Slot), (fl = true ↔ ((A 36 wi = nI L.length ∧ A 38 wi = nI (if L.length = 0 then 0 else km) ∧ A 40 wi = mf_or A L &&& A 32 a) ∧ (∀ q e : Nat, q < L.length → L[q]? = some e → A 37 (12 * wi + q) = A 26 (60 * a + e)) ∧ (∀ q : Nat, q < (if L.length = 0 then 0 else km) → A 39 (4 * wi + q) = A 30 (4 * a + q)))) → mw_at D mg_cl z M H → va_S (mw_A z) s.heap H locs → lv_has ls 6 [(4, .int (zI fl)), (3, .int (nI ((if L.length = 0 then 0 else km)))), (0, .ref mm), (1, .int (nI wi)), (2, .int (nI a))] → W p l e ({ frames := 1, cells := 0, slots := 0, locals := 23 } : Room) s m ([.ref mm, .int (nI wi), .int (nI a)] : List Value).toArray below meth c H locs (0) (0) (MQ below (mw_Q D z (fun v M' => ∃ bb : Bool, v = some (.int (zI bb)) ∧ (bb = false ↔ nw_same A wi a L (if L.length = 0 then 0 else km)) ∧ M' = M)) ([.ref mm, .int (nI wi), .int (nI a)] : List Value).toArray s 0 0 (mw_A z)) (F0 m 176 ls []) := by
    intro fl H locs ls hfl hM hS hl
    refine lv_iload hx hb dd_Mo_news_176 (lv_at hl 0 rfl) ?_
    refine lv_if_ne (tgt := 185) hx hb dd_Mo_news_178 (by decide) (fun h178 => ?_) (fun h178 => ?_)
    ·
      refine lv_iconst (v := nI 0) hx hb dd_Mo_news_185 (by decide) ?_
      refine mr_z E hr hk hM hS (by decide) (by decide) (rfl) ?_ dd_Mo_news_186
      exact ⟨false, rfl, ⟨fun _ => (fun q9 => ⟨q9.1, fun j e h2 => q9.2.1 j e (List.getElem?_eq_some_iff.mp h2).1 h2, q9.2.2⟩) (hfl.mp (Bool.of_not_eq_false (fun q => h178 (zI_0.mpr q)))), fun _ => rfl⟩, rfl⟩
    ·
      refine lv_iconst (v := nI 1) hx hb dd_Mo_news_181 (by decide) ?_
      refine lv_goto (tgt := 186) hx hb dd_Mo_news_182 (by decide) ?_
      refine mr_z E hr hk hM hS (by decide) (by decide) (rfl) ?_ dd_Mo_news_186
      exact ⟨true, rfl, ⟨fun q => (by cases q), fun q => absurd (hfl.mpr ⟨q.1, fun j e _ h2 => q.2.1 j e h2, q.2.2⟩) (by rw [zI_0.mp h178]; decide)⟩, rfl⟩
  have join124 : ∀ (fl : Bool) (H : Heap) (locs : List Loc) (ls : Array Slot), (fl = true ↔ ((A 36 wi = nI L.length ∧ A 38 wi = nI (if L.length = 0 then 0 else km) ∧ A 40 wi = mf_or A L &&& A 32 a) ∧ (∀ q e : Nat, q < L.length → L[q]? = some e → A 37 (12 * wi + q) = A 26 (60 * a + e)))) → mw_at D mg_cl z M H → va_S (mw_A z) s.heap H locs → lv_has ls 6 [(4, .int (zI fl)), (3, .int (nI ((if L.length = 0 then 0 else km)))), (0, .ref mm), (1, .int (nI wi)), (2, .int (nI a))] → W p l e ({ frames := 1, cells := 0, slots := 0, locals := 23 } : Room) s m ([.ref mm, .int (nI wi), .int (nI a)] : List Value).toArray below meth c H locs (0) (0) (MQ below (mw_Q D z (fun v M' => ∃ bb : Bool, v = some (.int (zI bb)) ∧ (bb = false ↔ nw_same A wi a L (if L.length = 0 then 0 else km)) ∧ M' = M)) ([.ref mm, .int (nI wi), .int (nI a)] : List Value).toArray s 0 0 (mw_A z)) (F0 m 124 ls []) := by
    intro fl H locs ls hfl hM hS hl
    refine lv_iconst (v := nI 0) hx hb dd_Mo_news_124 (by decide) ?_
    refine lv_istore (lv' := [(5, .int (nI 0)), (4, .int (zI fl)), (3, .int (nI ((if L.length = 0 then 0 else km)))), (0, .ref mm), (1, .int (nI wi)), (2, .int (nI a))]) hx hb dd_Mo_news_125 hl (by decide) rfl (fun ls hl => ?_)
    have loop127 : ∀ (d9 : Nat) (i : Nat) (fl : Bool) (H : Heap) (locs : List Loc) (ls : Array Slot), i + d9 = (if L.length = 0 then 0 else km) → (fl = true ↔ ((A 36 wi = nI L.length ∧ A 38 wi = nI (if L.length = 0 then 0 else km) ∧ A 40 wi = mf_or A L &&& A 32 a) ∧ (∀ q e : Nat, q < L.length → L[q]? = some e → A 37 (12 * wi + q) = A 26 (60 * a + e)) ∧ (∀ q : Nat, q < i → A 39 (4 * wi + q) = A 30 (4 * a + q)))) → mw_at D mg_cl z M H → va_S (mw_A z) s.heap H locs → lv_has ls 6 [(5, .int (nI i)), (4, .int (zI fl)), (3, .int (nI ((if L.length = 0 then 0 else km)))), (0, .ref mm), (1, .int (nI wi)), (2, .int (nI a))] → W p l e ({ frames := 1, cells := 0, slots := 0, locals := 23 } : Room) s m ([.ref mm, .int (nI wi), .int (nI a)] : List Value).toArray below meth c H locs (0) (0) (MQ below (mw_Q D z (fun v M' => ∃ bb : Bool, v = some (.int (zI bb)) ∧ (bb = false ↔ nw_same A wi a L (if L.length = 0 then 0 else km)) ∧ M' = M)) ([.ref mm, .int (nI wi), .int (nI a)] : List Value).toArray s 0 0 (mw_A z)) (F0 m 127 ls []) := by
      intro d9
      induction d9 with
      | zero =>
        intro i fl H locs ls hp hfl hM hS hl
        refine lv_iload hx hb dd_Mo_news_127 (lv_at hl 0 rfl) ?_
        refine lv_iload_n hx hb dd_Mo_news_129 rfl (lv_at hl 2 rfl) ?_
        refine lv_icmp_ge (tgt := 176) hx hb dd_Mo_news_130 (by decide) (fun h130 => ?_) (fun h130 => ?_)
        ·
          rw [nI_leI (by omega) (by omega)] at h130
          exact join176 fl H locs ls (⟨fun q => ⟨(hfl.mp q).1, (hfl.mp q).2.1, fun j h => (hfl.mp q).2.2 j (by omega)⟩, fun q => hfl.mpr ⟨q.1, q.2.1, fun j h => q.2.2 j (by omega)⟩⟩) hM hS (lv_sub hl [1, 2, 3, 4, 5] rfl)
        ·
          rw [nI_leI (by omega) (by omega)] at h130
          omega
      | succ d9 ih =>
        intro i fl H locs ls hp hfl hM hS hl
        refine lv_iload hx hb dd_Mo_news_127 (lv_at hl 0 rfl) ?_
        refine lv_iload_n hx hb dd_Mo_news_129 rfl (lv_at hl 2 rfl) ?_
        refine lv_icmp_ge (tgt := 176) hx hb dd_Mo_news_130 (by decide) (fun h130 => ?_) (fun h130 => ?_)
        ·
          rw [nI_leI (by omega) (by omega)] at h130
          omega
        ·
          rw [nI_leI (by omega) (by omega)] at h130
          refine lv_iload hx hb dd_Mo_news_133 (lv_at hl 1 rfl) ?_
          refine lv_if_eq (tgt := 176) hx hb dd_Mo_news_135 (by decide) (fun h135 => ?_) (fun h135 => ?_)
          ·
            exact join176 fl H locs ls (⟨fun q => absurd q (by rw [zI_0.mp h135]; decide), fun q => hfl.mpr ⟨q.1, q.2.1, fun j h => q.2.2 j (by omega)⟩⟩) hM hS (lv_sub hl [1, 2, 3, 4, 5] rfl)
          ·
            have hft := hfl.mp (Bool.of_not_eq_false (fun q => h135 (zI_0.mpr q)))
            refine lv_aload_n hx hb dd_Mo_news_138 rfl (lv_at hl 3 rfl) ?_
            refine gf_Mo_90 E hM hR.m ((mo_at (by decide)).trans (congrArg some (mq_va rfl))) dd_Mo_news_139 ?_
            have w39 : M (ra 39) = some (.inl (D.1 100, 16, .inl (A 39))) := hR.w 39 rfl (by decide)
            refine lv_iconst (v := nI 4) hx hb dd_Mo_news_142 (by decide) ?_
            refine lv_iload_n hx hb dd_Mo_news_143 rfl (lv_at hl 4 rfl) ?_
            refine lv_imul hx hb dd_Mo_news_144 ?_
            refine mw_topi (y := nI (4 * wi)) (pk_mul _ _) ?_
            refine lv_iload hx hb dd_Mo_news_145 (lv_at hl 0 rfl) ?_
            refine lv_iadd hx hb dd_Mo_news_147 ?_
            refine mw_topi (y := nI ((4 * wi) + i)) (nI_add _ _) ?_
            refine mw_iald hx hb E.K hM 0 w39 rfl (vp_in_nI (by omega) (by omega)) dd_Mo_news_148 ?_
            refine mw_topi (y := (A 39) ((4 * wi) + i)) (by rw [nI_clamp (by omega)]) ?_
            refine lv_aload_n hx hb dd_Mo_news_149 rfl (lv_at hl 3 rfl) ?_
            refine gf_Mo_66 E hM hR.m ((mo_at (by decide)).trans (congrArg some (mq_va rfl))) dd_Mo_news_150 ?_
            have w30 : M (ra 30) = some (.inl (D.1 100, 12, .inl (A 30))) := hR.w 30 rfl (by decide)
            refine lv_iconst (v := nI 4) hx hb dd_Mo_news_153 (by decide) ?_
            refine lv_iload_n hx hb dd_Mo_news_154 rfl (lv_at hl 5 rfl) ?_
            refine lv_imul hx hb dd_Mo_news_155 ?_
            refine mw_topi (y := nI (4 * a)) (pk_mul _ _) ?_
            refine lv_iload hx hb dd_Mo_news_156 (lv_at hl 0 rfl) ?_
            refine lv_iadd hx hb dd_Mo_news_158 ?_
            refine mw_topi (y := nI ((4 * a) + i)) (nI_add _ _) ?_
            refine mw_iald hx hb E.K hM 0 w30 rfl (vp_in_nI (by omega) (by omega)) dd_Mo_news_159 ?_
            refine mw_topi (y := (A 30) ((4 * a) + i)) (by rw [nI_clamp (by omega)]) ?_
            refine lv_icmp_ne (tgt := 167) hx hb dd_Mo_news_160 (by decide) (fun h160 => ?_) (fun h160 => ?_)
            ·
              refine lv_iconst (v := nI 0) hx hb dd_Mo_news_167 (by decide) ?_
              refine mw_topi (y := zI false) (rfl) ?_
              refine lv_istore (lv' := [(4, .int (zI false)), (5, .int (nI i)), (3, .int (nI ((if L.length = 0 then 0 else km)))), (0, .ref mm), (1, .int (nI wi)), (2, .int (nI a))]) hx hb dd_Mo_news_168 hl (by decide) rfl (fun ls hl => ?_)
              refine lv_iinc (k := 1) (v := nI (i + 1)) (lv' := [(5, .int (nI (i + 1))), (4, .int (zI false)), (3, .int (nI ((if L.length = 0 then 0 else km)))), (0, .ref mm), (1, .int (nI wi)), (2, .int (nI a))]) hx hb dd_Mo_news_170 hl rfl (nI_1 _) (by decide) rfl (fun ls hl => ?_)
              refine lv_goto (tgt := 127) hx hb dd_Mo_news_173 (by decide) ?_
              exact ih (i + 1) false H locs ls (by omega) (⟨fun q => (by cases q), fun q => absurd (q.2.2 i (by omega)) h160⟩) hM hS (lv_sub hl [0, 1, 2, 3, 4, 5] rfl)
            ·
              refine lv_iconst (v := nI 1) hx hb dd_Mo_news_163 (by decide) ?_
              refine mw_topi (y := zI true) (rfl) ?_
              refine lv_goto (tgt := 168) hx hb dd_Mo_news_164 (by decide) ?_
              refine lv_istore (lv' := [(4, .int (zI true)), (5, .int (nI i)), (3, .int (nI ((if L.length = 0 then 0 else km)))), (0, .ref mm), (1, .int (nI wi)), (2, .int (nI a))]) hx hb dd_Mo_news_168 hl (by decide) rfl (fun ls hl => ?_)
              refine lv_iinc (k := 1) (v := nI (i + 1)) (lv' := [(5, .int (nI (i + 1))), (4, .int (zI true)), (3, .int (nI ((if L.length = 0 then 0 else km)))), (0, .ref mm), (1, .int (nI wi)), (2, .int (nI a))]) hx hb dd_Mo_news_170 hl rfl (nI_1 _) (by decide) rfl (fun ls hl => ?_)
              refine lv_goto (tgt := 127) hx hb dd_Mo_news_173 (by decide) ?_
              exact ih (i + 1) true H locs ls (by omega) (⟨fun _ => ⟨hft.1, hft.2.1, fun q h => if e9 : q = i then (by rw [e9]; exact h160) else hft.2.2 q (by omega)⟩, fun _ => rfl⟩) hM hS (lv_sub hl [0, 1, 2, 3, 4, 5] rfl)
    exact loop127 (if L.length = 0 then 0 else km) 0 fl H locs ls (by omega) ⟨fun q => ⟨(hfl.mp q).1, (hfl.mp q).2, fun i h => absurd h (by omega)⟩, fun q => hfl.mpr ⟨q.1, q.2.1⟩⟩ hM hS (lv_sub hl [0, 1, 2, 3, 4, 5] rfl)
  have join62 : ∀ (fl : Bool) (H : Heap) (locs : List Loc) (ls : Array Slot), (fl = true ↔ (A 36 wi = nI L.length ∧ A 38 wi = nI (if L.length = 0 then 0 else km) ∧ A 40 wi = mf_or A L &&& A 32 a)) → mw_at D mg_cl z M H → va_S (mw_A z) s.heap H locs → lv_has ls 6 [(4, .int (zI fl)), (3, .int (nI ((if L.length = 0 then 0 else km)))), (0, .ref mm), (1, .int (nI wi)), (2, .int (nI a))] → W p l e ({ frames := 1, cells := 0, slots := 0, locals := 23 } : Room) s m ([.ref mm, .int (nI wi), .int (nI a)] : List Value).toArray below meth c H locs (0) (0) (MQ below (mw_Q D z (fun v M' => ∃ bb : Bool, v = some (.int (zI bb)) ∧ (bb = false ↔ nw_same A wi a L (if L.length = 0 then 0 else km)) ∧ M' = M)) ([.ref mm, .int (nI wi), .int (nI a)] : List Value).toArray s 0 0 (mw_A z)) (F0 m 62 ls []) := by
    intro fl H locs ls hfl hM hS hl
    refine lv_iconst (v := nI 0) hx hb dd_Mo_news_62 (by decide) ?_
    refine lv_istore (lv' := [(5, .int (nI 0)), (4, .int (zI fl)), (3, .int (nI ((if L.length = 0 then 0 else km)))), (0, .ref mm), (1, .int (nI wi)), (2, .int (nI a))]) hx hb dd_Mo_news_63 hl (by decide) rfl (fun ls hl => ?_)
    have loop65 : ∀ (d9 : Nat) (i : Nat) (fl : Bool) (H : Heap) (locs : List Loc) (ls : Array Slot), i + d9 = L.length → (fl = true ↔ ((A 36 wi = nI L.length ∧ A 38 wi = nI (if L.length = 0 then 0 else km) ∧ A 40 wi = mf_or A L &&& A 32 a) ∧ (∀ q e : Nat, q < i → L[q]? = some e → A 37 (12 * wi + q) = A 26 (60 * a + e)))) → mw_at D mg_cl z M H → va_S (mw_A z) s.heap H locs → lv_has ls 6 [(5, .int (nI i)), (4, .int (zI fl)), (3, .int (nI ((if L.length = 0 then 0 else km)))), (0, .ref mm), (1, .int (nI wi)), (2, .int (nI a))] → W p l e ({ frames := 1, cells := 0, slots := 0, locals := 23 } : Room) s m ([.ref mm, .int (nI wi), .int (nI a)] : List Value).toArray below meth c H locs (0) (0) (MQ below (mw_Q D z (fun v M' => ∃ bb : Bool, v = some (.int (zI bb)) ∧ (bb = false ↔ nw_same A wi a L (if L.length = 0 then 0 else km)) ∧ M' = M)) ([.ref mm, .int (nI wi), .int (nI a)] : List Value).toArray s 0 0 (mw_A z)) (F0 m 65 ls []) := by
      intro d9
      induction d9 with
      | zero =>
        intro i fl H locs ls hp hfl hM hS hl
        refine lv_iload hx hb dd_Mo_news_65 (lv_at hl 0 rfl) ?_
        refine lv_aload_n hx hb dd_Mo_news_67 rfl (lv_at hl 3 rfl) ?_
        refine gf_Mo_205 E hM hR.m ((mo_at (by decide)).trans (congrArg some (mq_vi rfl hv46))) dd_Mo_news_68 ?_
        refine lv_icmp_ge (tgt := 124) hx hb dd_Mo_news_71 (by decide) (fun h71 => ?_) (fun h71 => ?_)
        ·
          rw [nI_leI (by omega) (by omega)] at h71
          exact join124 fl H locs ls (⟨fun q => ⟨(hfl.mp q).1, fun j e h1 h2 => (hfl.mp q).2 j e (by omega) h2⟩, fun q => hfl.mpr ⟨q.1, fun j e h1 h2 => q.2 j e (by omega) h2⟩⟩) hM hS (lv_sub hl [1, 2, 3, 4, 5] rfl)
        ·
          rw [nI_leI (by omega) (by omega)] at h71
          omega
      | succ d9 ih =>
        intro i fl H locs ls hp hfl hM hS hl
        refine lv_iload hx hb dd_Mo_news_65 (lv_at hl 0 rfl) ?_
        refine lv_aload_n hx hb dd_Mo_news_67 rfl (lv_at hl 3 rfl) ?_
        refine gf_Mo_205 E hM hR.m ((mo_at (by decide)).trans (congrArg some (mq_vi rfl hv46))) dd_Mo_news_68 ?_
        refine lv_icmp_ge (tgt := 124) hx hb dd_Mo_news_71 (by decide) (fun h71 => ?_) (fun h71 => ?_)
        ·
          rw [nI_leI (by omega) (by omega)] at h71
          omega
        ·
          rw [nI_leI (by omega) (by omega)] at h71
          refine lv_iload hx hb dd_Mo_news_74 (lv_at hl 1 rfl) ?_
          refine lv_if_eq (tgt := 124) hx hb dd_Mo_news_76 (by decide) (fun h76 => ?_) (fun h76 => ?_)
          ·
            exact join124 fl H locs ls (⟨fun q => absurd q (by rw [zI_0.mp h76]; decide), fun q => hfl.mpr ⟨q.1, fun j e h1 h2 => q.2 j e (by omega) h2⟩⟩) hM hS (lv_sub hl [1, 2, 3, 4, 5] rfl)
          ·
            have hft := hfl.mp (Bool.of_not_eq_false (fun q => h76 (zI_0.mpr q)))
            obtain ⟨en, he⟩ : ∃ en, L[i]? = some en := ⟨_, List.getElem?_eq_getElem (by omega)⟩
            have he60 := h60 en (List.mem_of_getElem? he)
            refine lv_aload_n hx hb dd_Mo_news_79 rfl (lv_at hl 3 rfl) ?_
            refine gf_Mo_84 E hM hR.m ((mo_at (by decide)).trans (congrArg some (mq_va rfl))) dd_Mo_news_80 ?_
            have w37 : M (ra 37) = some (.inl (D.1 100, 48, .inl (A 37))) := hR.w 37 rfl (by decide)
            refine lv_bipush (v := nI 12) hx hb dd_Mo_news_83 (by decide) ?_
            refine lv_iload_n hx hb dd_Mo_news_85 rfl (lv_at hl 4 rfl) ?_
            refine lv_imul hx hb dd_Mo_news_86 ?_
            refine mw_topi (y := nI (12 * wi)) (pk_mul _ _) ?_
            refine lv_iload hx hb dd_Mo_news_87 (lv_at hl 0 rfl) ?_
            refine lv_iadd hx hb dd_Mo_news_89 ?_
            refine mw_topi (y := nI ((12 * wi) + i)) (nI_add _ _) ?_
            refine mw_iald hx hb E.K hM 0 w37 rfl (vp_in_nI (by omega) (by omega)) dd_Mo_news_90 ?_
            refine mw_topi (y := (A 37) ((12 * wi) + i)) (by rw [nI_clamp (by omega)]) ?_
            refine lv_aload_n hx hb dd_Mo_news_91 rfl (lv_at hl 3 rfl) ?_
            refine gf_Mo_54 E hM hR.m ((mo_at (by decide)).trans (congrArg some (mq_va rfl))) dd_Mo_news_92 ?_
            have w26 : M (ra 26) = some (.inl (D.1 100, 180, .inl (A 26))) := hR.w 26 rfl (by decide)
            refine lv_bipush (v := nI 60) hx hb dd_Mo_news_95 (by decide) ?_
            refine lv_iload_n hx hb dd_Mo_news_97 rfl (lv_at hl 5 rfl) ?_
            refine lv_imul hx hb dd_Mo_news_98 ?_
            refine mw_topi (y := nI (60 * a)) (pk_mul _ _) ?_
            refine lv_aload_n hx hb dd_Mo_news_99 rfl (lv_at hl 3 rfl) ?_
            refine gf_Mo_102 E hM hR.m ((mo_at (by decide)).trans (congrArg some (mq_va rfl))) dd_Mo_news_100 ?_
            have w47 : M (ra 47) = some (.inl (D.1 100, 12, .inl (A 47))) := hR.w 47 rfl (by decide)
            refine lv_iload hx hb dd_Mo_news_103 (lv_at hl 0 rfl) ?_
            refine mw_iald hx hb E.K hM 0 w47 rfl (vp_in_nI (by omega) (by omega)) dd_Mo_news_105 ?_
            refine mw_topi (y := (A 47) i) (by rw [nI_clamp (by omega)]) ?_
            refine mw_topi (y := nI en) (hfe i en he) ?_
            refine lv_iadd hx hb dd_Mo_news_106 ?_
            refine mw_topi (y := nI ((60 * a) + en)) (nI_add _ _) ?_
            refine mw_iald hx hb E.K hM 0 w26 rfl (vp_in_nI (by omega) (by omega)) dd_Mo_news_107 ?_
            refine mw_topi (y := (A 26) ((60 * a) + en)) (by rw [nI_clamp (by omega)]) ?_
            refine lv_icmp_ne (tgt := 115) hx hb dd_Mo_news_108 (by decide) (fun h108 => ?_) (fun h108 => ?_)
            ·
              refine lv_iconst (v := nI 0) hx hb dd_Mo_news_115 (by decide) ?_
              refine mw_topi (y := zI false) (rfl) ?_
              refine lv_istore (lv' := [(4, .int (zI false)), (5, .int (nI i)), (3, .int (nI ((if L.length = 0 then 0 else km)))), (0, .ref mm), (1, .int (nI wi)), (2, .int (nI a))]) hx hb dd_Mo_news_116 hl (by decide) rfl (fun ls hl => ?_)
              refine lv_iinc (k := 1) (v := nI (i + 1)) (lv' := [(5, .int (nI (i + 1))), (4, .int (zI false)), (3, .int (nI ((if L.length = 0 then 0 else km)))), (0, .ref mm), (1, .int (nI wi)), (2, .int (nI a))]) hx hb dd_Mo_news_118 hl rfl (nI_1 _) (by decide) rfl (fun ls hl => ?_)
              refine lv_goto (tgt := 65) hx hb dd_Mo_news_121 (by decide) ?_
              exact ih (i + 1) false H locs ls (by omega) (⟨fun q => (by cases q), fun q => absurd (q.2 i en (by omega) he) h108⟩) hM hS (lv_sub hl [0, 1, 2, 3, 4, 5] rfl)
            ·
              refine lv_iconst (v := nI 1) hx hb dd_Mo_news_111 (by decide) ?_
              refine mw_topi (y := zI true) (rfl) ?_
              refine lv_goto (tgt := 116) hx hb dd_Mo_news_112 (by decide) ?_
              refine lv_istore (lv' := [(4, .int (zI true)), (5, .int (nI i)), (3, .int (nI ((if L.length = 0 then 0 else km)))), (0, .ref mm), (1, .int (nI wi)), (2, .int (nI a))]) hx hb dd_Mo_news_116 hl (by decide) rfl (fun ls hl => ?_)
              refine lv_iinc (k := 1) (v := nI (i + 1)) (lv' := [(5, .int (nI (i + 1))), (4, .int (zI true)), (3, .int (nI ((if L.length = 0 then 0 else km)))), (0, .ref mm), (1, .int (nI wi)), (2, .int (nI a))]) hx hb dd_Mo_news_118 hl rfl (nI_1 _) (by decide) rfl (fun ls hl => ?_)
              refine lv_goto (tgt := 65) hx hb dd_Mo_news_121 (by decide) ?_
              exact ih (i + 1) true H locs ls (by omega) (⟨fun _ => ⟨hft.1, fun j e h1 h2 => if e9 : j = i then (by rw [e9, he] at h2; cases h2; rw [e9]; exact h108) else hft.2 j e (by omega) h2⟩, fun _ => rfl⟩) hM hS (lv_sub hl [0, 1, 2, 3, 4, 5] rfl)
    exact loop65 L.length 0 fl H locs ls (by omega) ⟨fun q => ⟨hfl.mp q, fun i e h => absurd h (by omega)⟩, fun q => hfl.mpr q.1⟩ hM hS (lv_sub hl [0, 1, 2, 3, 4, 5] rfl)
  have join18 : ∀ (hT9 : True) (H : Heap) (locs : List Loc) (ls : Array Slot), True → mw_at D mg_cl z M H → va_S (mw_A z) s.heap H locs → lv_has ls 6 [(3, .int (nI ((if L.length = 0 then 0 else km)))), (0, .ref mm), (1, .int (nI wi)), (2, .int (nI a))] → W p l e ({ frames := 1, cells := 0, slots := 0, locals := 23 } : Room) s m ([.ref mm, .int (nI wi), .int (nI a)] : List Value).toArray below meth c H locs (0) (0) (MQ below (mw_Q D z (fun v M' => ∃ bb : Bool, v = some (.int (zI bb)) ∧ (bb = false ↔ nw_same A wi a L (if L.length = 0 then 0 else km)) ∧ M' = M)) ([.ref mm, .int (nI wi), .int (nI a)] : List Value).toArray s 0 0 (mw_A z)) (F0 m 18 ls []) := by
    intro hT9 H locs ls hT hM hS hl
    refine lv_aload_n hx hb dd_Mo_news_18 rfl (lv_at hl 1 rfl) ?_
    refine gf_Mo_81 E hM hR.m ((mo_at (by decide)).trans (congrArg some (mq_va rfl))) dd_Mo_news_19 ?_
    have w36 : M (ra 36) = some (.inl (D.1 100, 4, .inl (A 36))) := hR.w 36 rfl (by decide)
    refine lv_iload_n hx hb dd_Mo_news_22 rfl (lv_at hl 2 rfl) ?_
    refine mw_iald hx hb E.K hM 0 w36 rfl (vp_in_nI (by omega) (by omega)) dd_Mo_news_23 ?_
    refine mw_topi (y := (A 36) wi) (by rw [nI_clamp (by omega)]) ?_
    refine lv_aload_n hx hb dd_Mo_news_24 rfl (lv_at hl 1 rfl) ?_
    refine gf_Mo_205 E hM hR.m ((mo_at (by decide)).trans (congrArg some (mq_vi rfl hv46))) dd_Mo_news_25 ?_
    refine lv_icmp_ne (tgt := 59) hx hb dd_Mo_news_28 (by decide) (fun h28 => ?_) (fun h28 => ?_)
    ·
      refine lv_iconst (v := nI 0) hx hb dd_Mo_news_59 (by decide) ?_
      refine mw_topi (y := zI false) (rfl) ?_
      refine lv_istore (lv' := [(4, .int (zI false)), (3, .int (nI ((if L.length = 0 then 0 else km)))), (0, .ref mm), (1, .int (nI wi)), (2, .int (nI a))]) hx hb dd_Mo_news_60 hl (by decide) rfl (fun ls hl => ?_)
      exact join62 false H locs ls (⟨fun q => (by cases q), fun q => absurd q.1 h28⟩) hM hS (lv_sub hl [0, 1, 2, 3, 4] rfl)
    ·
      refine lv_aload_n hx hb dd_Mo_news_31 rfl (lv_at hl 1 rfl) ?_
      refine gf_Mo_87 E hM hR.m ((mo_at (by decide)).trans (congrArg some (mq_va rfl))) dd_Mo_news_32 ?_
      have w38 : M (ra 38) = some (.inl (D.1 100, 4, .inl (A 38))) := hR.w 38 rfl (by decide)
      refine lv_iload_n hx hb dd_Mo_news_35 rfl (lv_at hl 2 rfl) ?_
      refine mw_iald hx hb E.K hM 0 w38 rfl (vp_in_nI (by omega) (by omega)) dd_Mo_news_36 ?_
      refine mw_topi (y := (A 38) wi) (by rw [nI_clamp (by omega)]) ?_
      refine lv_iload_n hx hb dd_Mo_news_37 rfl (lv_at hl 0 rfl) ?_
      refine lv_icmp_ne (tgt := 59) hx hb dd_Mo_news_38 (by decide) (fun h38 => ?_) (fun h38 => ?_)
      ·
        refine lv_iconst (v := nI 0) hx hb dd_Mo_news_59 (by decide) ?_
        refine mw_topi (y := zI false) (rfl) ?_
        refine lv_istore (lv' := [(4, .int (zI false)), (3, .int (nI ((if L.length = 0 then 0 else km)))), (0, .ref mm), (1, .int (nI wi)), (2, .int (nI a))]) hx hb dd_Mo_news_60 hl (by decide) rfl (fun ls hl => ?_)
        exact join62 false H locs ls (⟨fun q => (by cases q), fun q => absurd q.2.1 h38⟩) hM hS (lv_sub hl [0, 1, 2, 3, 4] rfl)
      ·
        refine lv_aload_n hx hb dd_Mo_news_41 rfl (lv_at hl 1 rfl) ?_
        refine gf_Mo_93 E hM hR.m ((mo_at (by decide)).trans (congrArg some (mq_va rfl))) dd_Mo_news_42 ?_
        have w40 : M (ra 40) = some (.inl (D.1 100, 4, .inl (A 40))) := hR.w 40 rfl (by decide)
        refine lv_iload_n hx hb dd_Mo_news_45 rfl (lv_at hl 2 rfl) ?_
        refine mw_iald hx hb E.K hM 0 w40 rfl (vp_in_nI (by omega) (by omega)) dd_Mo_news_46 ?_
        refine mw_topi (y := (A 40) wi) (by rw [nI_clamp (by omega)]) ?_
        refine lv_aload_n hx hb dd_Mo_news_47 rfl (lv_at hl 1 rfl) ?_
        refine lv_iload_n hx hb dd_Mo_news_48 rfl (lv_at hl 3 rfl) ?_
        refine mw_V (As := [.int (nI a)]) (rest := [.int ((A 40) wi)]) E (cc_Mo_foreignFor l D z (M) mm ra V A S a L hR ha0 hfd0) ky_Mo_foreignFor kv_Mo_foreignFor tw_Mo_214 hM hS hR.m rfl rfl rfl hl.1 rfl (Nat.le_of_ble_eq_true rfl) dd_Mo_news_49 (by first | decide | exact ⟨by dsimp only; omega, by dsimp only; omega⟩) (by decide) (fun v M1 H locs hp hM hS => ?_)
        obtain ⟨rfl, hq⟩ := hp
        have hq := hq.symm
        subst hq
        refine W.eq (g2 := F0 m 52 ls [.int (mf_or A L &&& A 32 a), .int ((A 40) wi)]) rfl ?_
        refine lv_icmp_ne (tgt := 59) hx hb dd_Mo_news_52 (by decide) (fun h52 => ?_) (fun h52 => ?_)
        ·
          refine lv_iconst (v := nI 0) hx hb dd_Mo_news_59 (by decide) ?_
          refine mw_topi (y := zI false) (rfl) ?_
          refine lv_istore (lv' := [(4, .int (zI false)), (3, .int (nI ((if L.length = 0 then 0 else km)))), (0, .ref mm), (1, .int (nI wi)), (2, .int (nI a))]) hx hb dd_Mo_news_60 hl (by decide) rfl (fun ls hl => ?_)
          exact join62 false H locs ls (⟨fun q => (by cases q), fun q => absurd q.2.2 h52⟩) hM hS (lv_sub hl [0, 1, 2, 3, 4] rfl)
        ·
          refine lv_iconst (v := nI 1) hx hb dd_Mo_news_55 (by decide) ?_
          refine mw_topi (y := zI true) (rfl) ?_
          refine lv_goto (tgt := 60) hx hb dd_Mo_news_56 (by decide) ?_
          refine lv_istore (lv' := [(4, .int (zI true)), (3, .int (nI ((if L.length = 0 then 0 else km)))), (0, .ref mm), (1, .int (nI wi)), (2, .int (nI a))]) hx hb dd_Mo_news_60 hl (by decide) rfl (fun ls hl => ?_)
          exact join62 true H locs ls (⟨fun _ => ⟨h28, h38, h52⟩, fun _ => rfl⟩) hM hS (lv_sub hl [0, 1, 2, 3, 4] rfl)
  refine lv_aload_n hx hb dd_Mo_news_0 rfl (lv_at hl 0 rfl) ?_
  refine gf_Mo_205 E hM hR.m ((mo_at (by decide)).trans (congrArg some (mq_vi rfl hv46))) dd_Mo_news_1 ?_
  refine lv_if_le (tgt := 16) hx hb dd_Mo_news_4 (by decide) (fun h4 => ?_) (fun h4 => ?_)
  ·
    have e0 := nI_le0 (by omega) h4
    refine lv_iconst (v := nI 0) hx hb dd_Mo_news_16 (by decide) ?_
    refine lv_istore_n (lv' := [(3, .int (nI 0)), (0, .ref mm), (1, .int (nI wi)), (2, .int (nI a))]) hx hb dd_Mo_news_17 rfl hl (by decide) rfl (fun ls hl => ?_)
    exact join18 trivial s.heap [] ls trivial hM hS (by rw [if_pos e0]; exact (lv_sub hl [0, 1, 2, 3] rfl))
  ·
    have e0 := nI_nle0 (by omega) h4
    refine lv_aload_n hx hb dd_Mo_news_7 rfl (lv_at hl 0 rfl) ?_
    refine gf_Mo_69 E hM hR.m ((mo_at (by decide)).trans (congrArg some (mq_va rfl))) dd_Mo_news_8 ?_
    have w31 : M (ra 31) = some (.inl (D.1 100, 3, .inl (A 31))) := hR.w 31 rfl (by decide)
    refine lv_iload_n hx hb dd_Mo_news_11 rfl (lv_at hl 2 rfl) ?_
    refine mw_iald hx hb E.K hM 0 w31 rfl (vp_in_nI (by omega) (by omega)) dd_Mo_news_12 ?_
    refine mw_topi (y := (A 31) a) (by rw [nI_clamp (by omega)]) ?_
    refine mw_topi (y := nI km) (hkm) ?_
    refine lv_goto (tgt := 17) hx hb dd_Mo_news_13 (by decide) ?_
    refine lv_istore_n (lv' := [(3, .int (nI km)), (0, .ref mm), (1, .int (nI wi)), (2, .int (nI a))]) hx hb dd_Mo_news_17 rfl hl (by decide) rfl (fun ls hl => ?_)
    exact join18 trivial s.heap [] ls trivial hM hS (by rw [if_neg (by omega)]; exact (lv_sub hl [0, 1, 2, 3] rfl))
theorem nw_same_c {A A1 : Nat → Nat → Int32} {wi a lk : Nat} {L : List Nat} (h : ∀ k : Nat, k ≠ 47 → A1 k = A k) : nw_same A1 wi a L lk ↔ nw_same A wi a L lk := by
  unfold nw_same
  rw [mf_or_c (h 21 (by decide)), h 36 (by decide), h 38 (by decide), h 40 (by decide), h 32 (by decide), h 37 (by decide), h 26 (by decide), h 39 (by decide), h 30 (by decide)]
theorem cc_Mo_poll_0 (l : Launch) (D : va_G) (z : Nat) (M : mw_M) (mm : Nat) (ra : Nat → Nat) (V : Nat → Int32) (A : Nat → Nat → Int32) (S : Nat → Int64) (wi nw a mk km : Nat) (hR : mq_R D M mm ra V A S) (hv33 : V 33 = nI nw) (hnw : nw ≤ 4) (hwn : wi < nw) (hwa : A 34 wi = nI a) (ha0 : a < 3) (hv15 : V 15 = nI mk) (hmk : mk ≤ 60) (h12 : (mq_rs A (V 1) a (A 35 wi) mk).length ≤ 12) (hkm : A 31 a = nI km) (hkm4 : km ≤ 4) (hnews : nw_same A wi a (mq_rs A (V 1) a (A 35 wi) mk) (if (mq_rs A (V 1) a (A 35 wi) mk).length = 0 then 0 else km)) : mw_C l yy_Mo_poll bb_Mo_poll 5 (Option.some Jvm.ClassFile.FieldType.int) 2 48 0 0 D z M [.ref mm, .int (nI wi)] (fun v M' => v = some (.int (nI 0)) ∧ (∃ V1 A1, mq_R D M' mm ra V1 A1 S ∧ V1 = va_up V 46 (nI (mq_rs A (V 1) a (A 35 wi) mk).length) ∧ ∀ k : Nat, k ≠ 47 → A1 k = A k) ∧ mw_fr (mq_P mm ra) M M') := by
  refine mw_of (by decide) (Nat.le_of_ble_eq_true rfl) ?_
  intro p e s m below meth c ls E hr hk hnm hM hl
  have hx := E.x
  have hb := E.b
  have E : mw_E p m c bb_Mo_poll 5 s _ D z "IdentityIssuerModel" := E
  have hl : lv_has ls 5 [(0, .ref mm), (1, .int (nI wi))] := hl
  have hS : va_S (mw_A z) s.heap s.heap [] := va_S.rf
  have hF : mw_fr (mq_P mm ra) M M := mw_fr.rf
  have hwi : wi < 4 := by omega
  refine lv_iload_n hx hb dd_Mo_poll_0 rfl (lv_at hl 1 rfl) ?_
  refine lv_iconst (v := nI 0) hx hb dd_Mo_poll_1 (by decide) ?_
  refine lv_aload_n hx hb dd_Mo_poll_2 rfl (lv_at hl 0 rfl) ?_
  refine gf_Mo_226 E hM hR.m ((mo_at (by decide)).trans (congrArg some (mq_vi rfl hv33))) dd_Mo_poll_3 ?_
  refine lv_iconst (v := nI 1) hx hb dd_Mo_poll_6 (by decide) ?_
  refine lv_isub hx hb dd_Mo_poll_7 ?_
  refine mw_S (As := [.int (nI wi), .int (nI 0), .int ((nI nw) - (nI 1))]) (rest := []) E (cc_Mo_outside l D z (M) (nI wi) (nI 0) (nI nw - nI 1)) ky_Mo_outside kv_Mo_outside tw_Mo_118 hM hS rfl hl.1 rfl (Nat.le_of_ble_eq_true rfl) dd_Mo_poll_8 (by first | decide | exact ⟨by dsimp only; omega, by dsimp only; omega⟩) (by decide) (fun v M1 H locs hp hM hS => ?_)
  obtain ⟨rfl, hq⟩ := hp
  have hq := hq.symm
  subst hq
  rw [mo_out_has (by omega), mo_hasN hwn (by omega)]
  refine W.eq (g2 := F0 m 11 ls [.int (zI false)]) rfl ?_
  refine lv_if_eq (tgt := 18) hx hb dd_Mo_poll_11 (by decide) (fun h11 => ?_) (fun h11 => ?_)
  ·
    refine lv_aload_n hx hb dd_Mo_poll_18 rfl (lv_at hl 0 rfl) ?_
    refine gf_Mo_75 E hM hR.m ((mo_at (by decide)).trans (congrArg some (mq_va rfl))) dd_Mo_poll_19 ?_
    have w34 : M (ra 34) = some (.inl (D.1 100, 4, .inl (A 34))) := hR.w 34 rfl (by decide)
    refine lv_iload_n hx hb dd_Mo_poll_22 rfl (lv_at hl 1 rfl) ?_
    refine mw_iald hx hb E.K hM 0 w34 rfl (vp_in_nI (by omega) (by omega)) dd_Mo_poll_23 ?_
    refine mw_topi (y := (A 34) wi) (by rw [nI_clamp (by omega)]) ?_
    refine mw_topi (y := nI a) (hwa) ?_
    refine lv_istore_n (lv' := [(2, .int (nI a)), (0, .ref mm), (1, .int (nI wi))]) hx hb dd_Mo_poll_24 rfl hl (by decide) rfl (fun ls hl => ?_)
    refine lv_aload_n hx hb dd_Mo_poll_25 rfl (lv_at hl 1 rfl) ?_
    refine lv_iload_n hx hb dd_Mo_poll_26 rfl (lv_at hl 0 rfl) ?_
    refine lv_aload_n hx hb dd_Mo_poll_27 rfl (lv_at hl 1 rfl) ?_
    refine gf_Mo_78 E hM hR.m ((mo_at (by decide)).trans (congrArg some (mq_va rfl))) dd_Mo_poll_28 ?_
    have w35 : M (ra 35) = some (.inl (D.1 100, 4, .inl (A 35))) := hR.w 35 rfl (by decide)
    refine lv_iload_n hx hb dd_Mo_poll_31 rfl (lv_at hl 2 rfl) ?_
    refine mw_iald hx hb E.K hM 0 w35 rfl (vp_in_nI (by omega) (by omega)) dd_Mo_poll_32 ?_
    refine mw_topi (y := (A 35) wi) (by rw [nI_clamp (by omega)]) ?_
    refine mw_V (As := [.int (nI a), .int ((A 35) wi)]) (rest := []) E (cc_Mo_respond l D z (M) mm ra V A S a mk (A 35 wi) hR ha0 hv15 hmk h12) ky_Mo_respond kv_Mo_respond tw_Mo_220 hM hS hR.m rfl rfl rfl hl.1 rfl (Nat.le_of_ble_eq_true rfl) dd_Mo_poll_33 (by first | decide | exact ⟨by dsimp only; omega, by dsimp only; omega⟩) (by decide) (fun v M1 H locs hp hM hS => ?_)
    obtain ⟨rfl, ⟨V8, A8, hR, hV8, hA8, hf8⟩, hF9⟩ := hp
    have hF := hF.trans hF9
    have hfd : mq_fd V8 A8 (mq_rs A (V 1) a (A 35 wi) mk) := ⟨by rw [hV8]; rfl, h12, hf8, fun e he => Nat.lt_of_lt_of_le (mq_rs_lt he) hmk⟩
    refine W.eq (g2 := F0 m 36 ls []) rfl ?_
    refine lv_aload_n hx hb dd_Mo_poll_36 rfl (lv_at hl 1 rfl) ?_
    refine lv_iload_n hx hb dd_Mo_poll_37 rfl (lv_at hl 2 rfl) ?_
    refine lv_iload_n hx hb dd_Mo_poll_38 rfl (lv_at hl 0 rfl) ?_
    refine mw_V (As := [.int (nI wi), .int (nI a)]) (rest := []) E (cc_Mo_news l D z (M1) mm ra V8 A8 S wi a km (mq_rs A (V 1) a (A 35 wi) mk) hR hwi ha0 hfd (by rw [hA8 31 (by decide)]; exact hkm) hkm4) ky_Mo_news kv_Mo_news tw_Mo_229 hM hS hR.m rfl rfl rfl hl.1 rfl (Nat.le_of_ble_eq_true rfl) dd_Mo_poll_39 (by first | decide | exact ⟨by dsimp only; omega, by dsimp only; omega⟩) (by decide) (fun v M1 H locs hp hM hS => ?_)
    obtain ⟨bb, rfl, hbb, hq⟩ := hp
    have hq := hq.symm
    subst hq
    refine W.eq (g2 := F0 m 42 ls [.int (zI bb)]) rfl ?_
    refine lv_if_ne (tgt := 47) hx hb dd_Mo_poll_42 (by decide) (fun h42 => ?_) (fun h42 => ?_)
    ·
      exact absurd (show zI bb = 0 from zI_0.mpr (hbb.mpr ((nw_same_c hA8).mpr hnews))) h42
    ·
      refine lv_iconst (v := nI 0) hx hb dd_Mo_poll_45 (by decide) ?_
      refine mr_i E hr hk hM hS (by decide) (by decide) ?_ dd_Mo_poll_46
      exact ⟨rfl, ⟨V8, A8, hR, hV8, hA8⟩, hF⟩
  ·
    exact absurd rfl h11
theorem cc_Mo_poll_1 (l : Launch) (D : va_G) (z : Nat) (M : mw_M) (mm : Nat) (ra : Nat → Nat) (V : Nat → Int32) (A : Nat → Nat → Int32) (S : Nat → Int64) (wi nw a mk km : Nat) (hR : mq_R D M mm ra V A S) (hv33 : V 33 = nI nw) (hnw : nw ≤ 4) (hwn : wi < nw) (hwa : A 34 wi = nI a) (ha0 : a < 3) (hv15 : V 15 = nI mk) (hmk : mk ≤ 60) (h12 : (mq_rs A (V 1) a (A 35 wi) mk).length ≤ 12) (hkm : A 31 a = nI km) (hkm4 : km ≤ 4) (hnews : ¬ nw_same A wi a (mq_rs A (V 1) a (A 35 wi) mk) (if (mq_rs A (V 1) a (A 35 wi) mk).length = 0 then 0 else km)) : mw_C l yy_Mo_poll bb_Mo_poll 5 (Option.some Jvm.ClassFile.FieldType.int) 2 48 0 0 D z M [.ref mm, .int (nI wi)] (fun v M' => v = some (.int (if (mq_rs A (V 1) a (A 35 wi) mk).length = 0 then -1004 else nI (mq_rs A (V 1) a (A 35 wi) mk).length)) ∧ (∃ V1 A1, mq_R D M' mm ra V1 A1 S ∧ V1 = va_up (va_up (va_up (va_up V 46 (nI (mq_rs A (V 1) a (A 35 wi) mk).length)) 41 (nI (mq_rs A (V 1) a (A 35 wi) mk).length)) 43 (nI (if (mq_rs A (V 1) a (A 35 wi) mk).length = 0 then 0 else km))) 45 (mf_or A (mq_rs A (V 1) a (A 35 wi) mk) &&& A 32 a) ∧ (∀ k : Nat, k ≠ 36 → k ≠ 37 → k ≠ 38 → k ≠ 39 → k ≠ 40 → k ≠ 42 → k ≠ 44 → k ≠ 47 → A1 k = A k) ∧ mq_sh A (A1 42) a (mq_rs A (V 1) a (A 35 wi) mk).length (mq_rs A (V 1) a (A 35 wi) mk) ∧ (∀ q : Nat, q < (if (mq_rs A (V 1) a (A 35 wi) mk).length = 0 then 0 else km) → A1 44 q = A 30 (4 * a + q)) ∧ A1 36 = upd (A 36) wi (nI (mq_rs A (V 1) a (A 35 wi) mk).length) ∧ A1 38 = upd (A 38) wi (nI (if (mq_rs A (V 1) a (A 35 wi) mk).length = 0 then 0 else km)) ∧ A1 40 = upd (A 40) wi (mf_or A (mq_rs A (V 1) a (A 35 wi) mk) &&& A 32 a) ∧ (∀ i e : Nat, (mq_rs A (V 1) a (A 35 wi) mk)[i]? = some e → A1 37 (12 * wi + i) = A 26 (60 * a + e)) ∧ (∀ q : Nat, (q < 12 * wi ∨ 12 * wi + 12 ≤ q) → A1 37 q = A 37 q) ∧ (∀ q : Nat, q < (if (mq_rs A (V 1) a (A 35 wi) mk).length = 0 then 0 else km) → A1 39 (4 * wi + q) = A 30 (4 * a + q)) ∧ (∀ q : Nat, (q < 4 * wi ∨ 4 * wi + 4 ≤ q) → A1 39 q = A 39 q)) ∧ mw_fr (mq_P mm ra) M M') := by
  refine mw_of (by decide) (Nat.le_of_ble_eq_true rfl) ?_
  intro p e s m below meth c ls E hr hk hnm hM hl
  have hx := E.x
  have hb := E.b
  have E : mw_E p m c bb_Mo_poll 5 s _ D z "IdentityIssuerModel" := E
  have hl : lv_has ls 5 [(0, .ref mm), (1, .int (nI wi))] := hl
  have hS : va_S (mw_A z) s.heap s.heap [] := va_S.rf
  have hF : mw_fr (mq_P mm ra) M M := mw_fr.rf
  have hwi : wi < 4 := by omega
  refine lv_iload_n hx hb dd_Mo_poll_0 rfl (lv_at hl 1 rfl) ?_
  refine lv_iconst (v := nI 0) hx hb dd_Mo_poll_1 (by decide) ?_
  refine lv_aload_n hx hb dd_Mo_poll_2 rfl (lv_at hl 0 rfl) ?_
  refine gf_Mo_226 E hM hR.m ((mo_at (by decide)).trans (congrArg some (mq_vi rfl hv33))) dd_Mo_poll_3 ?_
  refine lv_iconst (v := nI 1) hx hb dd_Mo_poll_6 (by decide) ?_
  refine lv_isub hx hb dd_Mo_poll_7 ?_
  refine mw_S (As := [.int (nI wi), .int (nI 0), .int ((nI nw) - (nI 1))]) (rest := []) E (cc_Mo_outside l D z (M) (nI wi) (nI 0) (nI nw - nI 1)) ky_Mo_outside kv_Mo_outside tw_Mo_118 hM hS rfl hl.1 rfl (Nat.le_of_ble_eq_true rfl) dd_Mo_poll_8 (by first | decide | exact ⟨by dsimp only; omega, by dsimp only; omega⟩) (by decide) (fun v M1 H locs hp hM hS => ?_)
  obtain ⟨rfl, hq⟩ := hp
  have hq := hq.symm
  subst hq
  rw [mo_out_has (by omega), mo_hasN hwn (by omega)]
  refine W.eq (g2 := F0 m 11 ls [.int (zI false)]) rfl ?_
  refine lv_if_eq (tgt := 18) hx hb dd_Mo_poll_11 (by decide) (fun h11 => ?_) (fun h11 => ?_)
  ·
    refine lv_aload_n hx hb dd_Mo_poll_18 rfl (lv_at hl 0 rfl) ?_
    refine gf_Mo_75 E hM hR.m ((mo_at (by decide)).trans (congrArg some (mq_va rfl))) dd_Mo_poll_19 ?_
    have w34 : M (ra 34) = some (.inl (D.1 100, 4, .inl (A 34))) := hR.w 34 rfl (by decide)
    refine lv_iload_n hx hb dd_Mo_poll_22 rfl (lv_at hl 1 rfl) ?_
    refine mw_iald hx hb E.K hM 0 w34 rfl (vp_in_nI (by omega) (by omega)) dd_Mo_poll_23 ?_
    refine mw_topi (y := (A 34) wi) (by rw [nI_clamp (by omega)]) ?_
    refine mw_topi (y := nI a) (hwa) ?_
    refine lv_istore_n (lv' := [(2, .int (nI a)), (0, .ref mm), (1, .int (nI wi))]) hx hb dd_Mo_poll_24 rfl hl (by decide) rfl (fun ls hl => ?_)
    refine lv_aload_n hx hb dd_Mo_poll_25 rfl (lv_at hl 1 rfl) ?_
    refine lv_iload_n hx hb dd_Mo_poll_26 rfl (lv_at hl 0 rfl) ?_
    refine lv_aload_n hx hb dd_Mo_poll_27 rfl (lv_at hl 1 rfl) ?_
    refine gf_Mo_78 E hM hR.m ((mo_at (by decide)).trans (congrArg some (mq_va rfl))) dd_Mo_poll_28 ?_
    have w35 : M (ra 35) = some (.inl (D.1 100, 4, .inl (A 35))) := hR.w 35 rfl (by decide)
    refine lv_iload_n hx hb dd_Mo_poll_31 rfl (lv_at hl 2 rfl) ?_
    refine mw_iald hx hb E.K hM 0 w35 rfl (vp_in_nI (by omega) (by omega)) dd_Mo_poll_32 ?_
    refine mw_topi (y := (A 35) wi) (by rw [nI_clamp (by omega)]) ?_
    refine mw_V (As := [.int (nI a), .int ((A 35) wi)]) (rest := []) E (cc_Mo_respond l D z (M) mm ra V A S a mk (A 35 wi) hR ha0 hv15 hmk h12) ky_Mo_respond kv_Mo_respond tw_Mo_220 hM hS hR.m rfl rfl rfl hl.1 rfl (Nat.le_of_ble_eq_true rfl) dd_Mo_poll_33 (by first | decide | exact ⟨by dsimp only; omega, by dsimp only; omega⟩) (by decide) (fun v M1 H locs hp hM hS => ?_)
    obtain ⟨rfl, ⟨V8, A8, hR, hV8, hA8, hf8⟩, hF9⟩ := hp
    have hF := hF.trans hF9
    have hfd : mq_fd V8 A8 (mq_rs A (V 1) a (A 35 wi) mk) := ⟨by rw [hV8]; rfl, h12, hf8, fun e he => Nat.lt_of_lt_of_le (mq_rs_lt he) hmk⟩
    refine W.eq (g2 := F0 m 36 ls []) rfl ?_
    refine lv_aload_n hx hb dd_Mo_poll_36 rfl (lv_at hl 1 rfl) ?_
    refine lv_iload_n hx hb dd_Mo_poll_37 rfl (lv_at hl 2 rfl) ?_
    refine lv_iload_n hx hb dd_Mo_poll_38 rfl (lv_at hl 0 rfl) ?_
    refine mw_V (As := [.int (nI wi), .int (nI a)]) (rest := []) E (cc_Mo_news l D z (M1) mm ra V8 A8 S wi a km (mq_rs A (V 1) a (A 35 wi) mk) hR hwi ha0 hfd (by rw [hA8 31 (by decide)]; exact hkm) hkm4) ky_Mo_news kv_Mo_news tw_Mo_229 hM hS hR.m rfl rfl rfl hl.1 rfl (Nat.le_of_ble_eq_true rfl) dd_Mo_poll_39 (by first | decide | exact ⟨by dsimp only; omega, by dsimp only; omega⟩) (by decide) (fun v M1 H locs hp hM hS => ?_)
    obtain ⟨bb, rfl, hbb, hq⟩ := hp
    have hq := hq.symm
    subst hq
    refine W.eq (g2 := F0 m 42 ls [.int (zI bb)]) rfl ?_
    refine lv_if_ne (tgt := 47) hx hb dd_Mo_poll_42 (by decide) (fun h42 => ?_) (fun h42 => ?_)
    ·
      refine lv_aload_n hx hb dd_Mo_poll_47 rfl (lv_at hl 1 rfl) ?_
      refine lv_iload_n hx hb dd_Mo_poll_48 rfl (lv_at hl 0 rfl) ?_
      refine mw_V (As := [.int (nI a)]) (rest := []) E (cc_Mo_show l D z (M1) mm ra V8 A8 S a km (mq_rs A (V 1) a (A 35 wi) mk) hR ha0 hfd (by rw [hA8 31 (by decide)]; exact hkm) hkm4) ky_Mo_show kv_Mo_show tw_Mo_223 hM hS hR.m rfl rfl rfl hl.1 rfl (Nat.le_of_ble_eq_true rfl) dd_Mo_poll_49 (by first | decide | exact ⟨by dsimp only; omega, by dsimp only; omega⟩) (by decide) (fun v M1 H locs hp hM hS => ?_)
      obtain ⟨rfl, ⟨V7, A7, hR, hV7, hA7, hs7, hk7⟩, hF7⟩ := hp
      have hF := hF.trans hF7
      rw [mf_or_c (A := A) (hA8 21 (by decide)), hA8 32 (by decide), hV8] at hV7
      have hs7 : mq_sh A (A7 42) a (mq_rs A (V 1) a (A 35 wi) mk).length (mq_rs A (V 1) a (A 35 wi) mk) := fun j e h1 h2 => by
        have h9 := hs7 j e h1 h2
        rw [hA8 26 (by decide), hA8 27 (by decide), hA8 28 (by decide), hA8 29 (by decide)] at h9
        exact h9
      have hk7 : ∀ q : Nat, q < (if (mq_rs A (V 1) a (A 35 wi) mk).length = 0 then 0 else km) → A7 44 q = A 30 (4 * a + q) := fun q hq => by rw [hk7 q hq, hA8 30 (by decide)]
      have hA7 : ∀ k : Nat, k ≠ 42 → k ≠ 44 → k ≠ 47 → A7 k = A k := fun k h1 h2 h3 => by rw [hA7 k h1 h2, hA8 k h3]
      have hv41 : V7 41 = nI (mq_rs A (V 1) a (A 35 wi) mk).length := by rw [hV7]; rfl
      have hv43 : V7 43 = nI (if (mq_rs A (V 1) a (A 35 wi) mk).length = 0 then 0 else km) := by rw [hV7]; rfl
      have hv45 : V7 45 = mf_or A (mq_rs A (V 1) a (A 35 wi) mk) &&& A 32 a := by rw [hV7]; rfl
      have hlk : (if (mq_rs A (V 1) a (A 35 wi) mk).length = 0 then 0 else km) ≤ 4 := by split <;> omega
      refine W.eq (g2 := F0 m 52 ls [.int (if (mq_rs A (V 1) a (A 35 wi) mk).length = 0 then -1004 else nI (mq_rs A (V 1) a (A 35 wi) mk).length)]) rfl ?_
      refine lv_istore_n (lv' := [(3, .int (if (mq_rs A (V 1) a (A 35 wi) mk).length = 0 then -1004 else nI (mq_rs A (V 1) a (A 35 wi) mk).length)), (2, .int (nI a)), (0, .ref mm), (1, .int (nI wi))]) hx hb dd_Mo_poll_52 rfl hl (by decide) rfl (fun ls hl => ?_)
      refine lv_aload_n hx hb dd_Mo_poll_53 rfl (lv_at hl 2 rfl) ?_
      refine gf_Mo_81 E hM hR.m ((mo_at (by decide)).trans (congrArg some (mq_va rfl))) dd_Mo_poll_54 ?_
      have w36 : M1 (ra 36) = some (.inl (D.1 100, 4, .inl (A7 36))) := hR.w 36 rfl (by decide)
      refine lv_iload_n hx hb dd_Mo_poll_57 rfl (lv_at hl 3 rfl) ?_
      refine lv_aload_n hx hb dd_Mo_poll_58 rfl (lv_at hl 2 rfl) ?_
      refine gf_Mo_208 E hM hR.m ((mo_at (by decide)).trans (congrArg some (mq_vi rfl hv41))) dd_Mo_poll_59 ?_
      have w36 : M1 (ra 36) = some (.inl (D.1 100, 4, .inl (A7 36))) := hR.w 36 rfl (by decide)
      refine mw_iast hx hb E.K hM E.zz hS 0 w36 rfl (vp_in_nI (by omega) (by omega)) dd_Mo_poll_62 (fun H locs hM hS => ?_)
      rw [nI_clamp (by omega)] at hM
      have hM : mw_at D mg_cl z (va_up M1 (ra 36) (some (.inl (D.1 100, 4, .inl ((upd (A7 36) wi (nI ((mq_rs A (V 1) a (A 35 wi) mk).length)))))))) H := hM
      obtain ⟨M1, hM1⟩ : ∃ M9 : mw_M, M9 = va_up M1 (ra 36) (some (.inl (D.1 100, 4, .inl ((upd (A7 36) wi (nI ((mq_rs A (V 1) a (A 35 wi) mk).length))))))) := ⟨_, rfl⟩
      rw [← hM1] at hM
      obtain ⟨A21, hA21⟩ : ∃ A9 : Nat → Nat → Int32, A9 = va_up A7 36 (upd (A7 36) wi (nI ((mq_rs A (V 1) a (A 35 wi) mk).length))) := ⟨_, rfl⟩
      have hR := hR.setA 36 rfl (by decide) hM1 hA21
      have hF := mw_fu hM1 hF (mq_Pa (k := 36) rfl)
      have hB : ∀ k : Nat, k ≠ 36 → A21 k = A7 k := fun k hk9 => by rw [hA21, va_up_ne _ _ hk9]
      have h36 : A21 36 = upd (A 36) wi (nI (mq_rs A (V 1) a (A 35 wi) mk).length) := by rw [hA21, va_up_self, hA7 36 (by decide) (by decide) (by decide)]
      refine lv_iconst (v := nI 0) hx hb dd_Mo_poll_63 (by decide) ?_
      refine lv_istore (lv' := [(4, .int (nI 0)), (3, .int (if (mq_rs A (V 1) a (A 35 wi) mk).length = 0 then -1004 else nI (mq_rs A (V 1) a (A 35 wi) mk).length)), (2, .int (nI a)), (0, .ref mm), (1, .int (nI wi))]) hx hb dd_Mo_poll_64 hl (by decide) rfl (fun ls hl => ?_)
      have loop66 : ∀ (d9 : Nat) (i : Nat) (A1 : Nat → Nat → Int32) (M2 : mw_M) (H : Heap) (locs : List Loc) (ls : Array Slot), i + d9 = (mq_rs A (V 1) a (A 35 wi) mk).length → mq_R D M2 mm ra V7 A1 S → (∀ k : Nat, k ≠ 36 → k ≠ 37 → A1 k = A7 k) → A1 36 = upd (A 36) wi (nI (mq_rs A (V 1) a (A 35 wi) mk).length) → (∀ q e : Nat, q < i → (mq_rs A (V 1) a (A 35 wi) mk)[q]? = some e → A1 37 (12 * wi + q) = A 26 (60 * a + e)) → (∀ q : Nat, (q < 12 * wi ∨ 12 * wi + 12 ≤ q) → A1 37 q = A 37 q) → mw_fr (mq_P mm ra) M M2 → mw_at D mg_cl z M2 H → va_S (mw_A z) s.heap H locs → lv_has ls 5 [(4, .int (nI i)), (3, .int (if (mq_rs A (V 1) a (A 35 wi) mk).length = 0 then -1004 else nI (mq_rs A (V 1) a (A 35 wi) mk).length)), (0, .ref mm), (1, .int (nI wi))] → W p l e ({ frames := 2, cells := 0, slots := 0, locals := 48 } : Room) s m ([.ref mm, .int (nI wi)] : List Value).toArray below meth c H locs (0) (0) (MQ below (mw_Q D z (fun v M' => v = some (.int (if (mq_rs A (V 1) a (A 35 wi) mk).length = 0 then -1004 else nI (mq_rs A (V 1) a (A 35 wi) mk).length)) ∧ (∃ V1 A1, mq_R D M' mm ra V1 A1 S ∧ V1 = va_up (va_up (va_up (va_up V 46 (nI (mq_rs A (V 1) a (A 35 wi) mk).length)) 41 (nI (mq_rs A (V 1) a (A 35 wi) mk).length)) 43 (nI (if (mq_rs A (V 1) a (A 35 wi) mk).length = 0 then 0 else km))) 45 (mf_or A (mq_rs A (V 1) a (A 35 wi) mk) &&& A 32 a) ∧ (∀ k : Nat, k ≠ 36 → k ≠ 37 → k ≠ 38 → k ≠ 39 → k ≠ 40 → k ≠ 42 → k ≠ 44 → k ≠ 47 → A1 k = A k) ∧ mq_sh A (A1 42) a (mq_rs A (V 1) a (A 35 wi) mk).length (mq_rs A (V 1) a (A 35 wi) mk) ∧ (∀ q : Nat, q < (if (mq_rs A (V 1) a (A 35 wi) mk).length = 0 then 0 else km) → A1 44 q = A 30 (4 * a + q)) ∧ A1 36 = upd (A 36) wi (nI (mq_rs A (V 1) a (A 35 wi) mk).length) ∧ A1 38 = upd (A 38) wi (nI (if (mq_rs A (V 1) a (A 35 wi) mk).length = 0 then 0 else km)) ∧ A1 40 = upd (A 40) wi (mf_or A (mq_rs A (V 1) a (A 35 wi) mk) &&& A 32 a) ∧ (∀ i e : Nat, (mq_rs A (V 1) a (A 35 wi) mk)[i]? = some e → A1 37 (12 * wi + i) = A 26 (60 * a + e)) ∧ (∀ q : Nat, (q < 12 * wi ∨ 12 * wi + 12 ≤ q) → A1 37 q = A 37 q) ∧ (∀ q : Nat, q < (if (mq_rs A (V 1) a (A 35 wi) mk).length = 0 then 0 else km) → A1 39 (4 * wi + q) = A 30 (4 * a + q)) ∧ (∀ q : Nat, (q < 4 * wi ∨ 4 * wi + 4 ≤ q) → A1 39 q = A 39 q)) ∧ mw_fr (mq_P mm ra) M M')) ([.ref mm, .int (nI wi)] : List Value).toArray s 0 0 (mw_A z)) (F0 m 66 ls []) := by
        intro d9
        induction d9 with
        | zero =>
          intro i A1 M2 H locs ls hp hR hB h36 h37 h37o hF hM hS hl
          refine lv_iload hx hb dd_Mo_poll_66 (lv_at hl 0 rfl) ?_
          refine lv_aload_n hx hb dd_Mo_poll_68 rfl (lv_at hl 2 rfl) ?_
          refine gf_Mo_208 E hM hR.m ((mo_at (by decide)).trans (congrArg some (mq_vi rfl hv41))) dd_Mo_poll_69 ?_
          refine lv_icmp_ge (tgt := 104) hx hb dd_Mo_poll_72 (by decide) (fun h72 => ?_) (fun h72 => ?_)
          ·
            rw [nI_leI (by omega) (by omega)] at h72
            refine lv_aload_n hx hb dd_Mo_poll_104 rfl (lv_at hl 2 rfl) ?_
            refine gf_Mo_87 E hM hR.m ((mo_at (by decide)).trans (congrArg some (mq_va rfl))) dd_Mo_poll_105 ?_
            have w38 : M2 (ra 38) = some (.inl (D.1 100, 4, .inl (A1 38))) := hR.w 38 rfl (by decide)
            refine lv_iload_n hx hb dd_Mo_poll_108 rfl (lv_at hl 3 rfl) ?_
            refine lv_aload_n hx hb dd_Mo_poll_109 rfl (lv_at hl 2 rfl) ?_
            refine gf_Mo_211 E hM hR.m ((mo_at (by decide)).trans (congrArg some (mq_vi rfl hv43))) dd_Mo_poll_110 ?_
            have w38 : M2 (ra 38) = some (.inl (D.1 100, 4, .inl (A1 38))) := hR.w 38 rfl (by decide)
            refine mw_iast hx hb E.K hM E.zz hS 0 w38 rfl (vp_in_nI (by omega) (by omega)) dd_Mo_poll_113 (fun H locs hM hS => ?_)
            rw [nI_clamp (by omega)] at hM
            have hM : mw_at D mg_cl z (va_up M2 (ra 38) (some (.inl (D.1 100, 4, .inl ((upd (A1 38) wi (nI ((if (mq_rs A (V 1) a (A 35 wi) mk).length = 0 then 0 else km))))))))) H := hM
            obtain ⟨M1, hM1⟩ : ∃ M9 : mw_M, M9 = va_up M2 (ra 38) (some (.inl (D.1 100, 4, .inl ((upd (A1 38) wi (nI ((if (mq_rs A (V 1) a (A 35 wi) mk).length = 0 then 0 else km)))))))) := ⟨_, rfl⟩
            rw [← hM1] at hM
            obtain ⟨A22, hA22⟩ : ∃ A9 : Nat → Nat → Int32, A9 = va_up A1 38 (upd (A1 38) wi (nI ((if (mq_rs A (V 1) a (A 35 wi) mk).length = 0 then 0 else km)))) := ⟨_, rfl⟩
            have hR := hR.setA 38 rfl (by decide) hM1 hA22
            have hF := mw_fu hM1 hF (mq_Pa (k := 38) rfl)
            have hC : ∀ k : Nat, k ≠ 36 → k ≠ 37 → k ≠ 38 → A22 k = A7 k := fun k h1 h2 h3 => by rw [hA22, va_up_ne _ _ h3]; exact hB k h1 h2
            have h36 : A22 36 = upd (A 36) wi (nI (mq_rs A (V 1) a (A 35 wi) mk).length) := by rw [hA22, va_up_ne _ _ (by decide)]; exact h36
            have h38 : A22 38 = upd (A 38) wi (nI (if (mq_rs A (V 1) a (A 35 wi) mk).length = 0 then 0 else km)) := by rw [hA22, va_up_self, hB 38 (by decide) (by decide), hA7 38 (by decide) (by decide) (by decide)]
            have h37 : ∀ q e : Nat, (mq_rs A (V 1) a (A 35 wi) mk)[q]? = some e → A22 37 (12 * wi + q) = A 26 (60 * a + e) := fun q e h2 => by rw [hA22, va_up_ne _ _ (by decide)]; exact h37 q e (by have := (List.getElem?_eq_some_iff.mp h2).1; omega) h2
            have h37o : ∀ q : Nat, (q < 12 * wi ∨ 12 * wi + 12 ≤ q) → A22 37 q = A 37 q := fun q hq9 => by rw [hA22, va_up_ne _ _ (by decide)]; exact h37o q hq9
            refine lv_iconst (v := nI 0) hx hb dd_Mo_poll_114 (by decide) ?_
            refine lv_istore (lv' := [(4, .int (nI 0)), (3, .int (if (mq_rs A (V 1) a (A 35 wi) mk).length = 0 then -1004 else nI (mq_rs A (V 1) a (A 35 wi) mk).length)), (0, .ref mm), (1, .int (nI wi))]) hx hb dd_Mo_poll_115 hl (by decide) rfl (fun ls hl => ?_)
            have loop117 : ∀ (c9 : Nat) (i : Nat) (A2 : Nat → Nat → Int32) (M2 : mw_M) (H : Heap) (locs : List Loc) (ls : Array Slot), i + c9 = (if (mq_rs A (V 1) a (A 35 wi) mk).length = 0 then 0 else km) → mq_R D M2 mm ra V7 A2 S → (∀ k : Nat, k ≠ 39 → A2 k = A22 k) → (∀ q : Nat, q < i → A2 39 (4 * wi + q) = A 30 (4 * a + q)) → (∀ q : Nat, (q < 4 * wi ∨ 4 * wi + 4 ≤ q) → A2 39 q = A 39 q) → mw_fr (mq_P mm ra) M M2 → mw_at D mg_cl z M2 H → va_S (mw_A z) s.heap H locs → lv_has ls 5 [(4, .int (nI i)), (3, .int (if (mq_rs A (V 1) a (A 35 wi) mk).length = 0 then -1004 else nI (mq_rs A (V 1) a (A 35 wi) mk).length)), (0, .ref mm), (1, .int (nI wi))] → W p l e ({ frames := 2, cells := 0, slots := 0, locals := 48 } : Room) s m ([.ref mm, .int (nI wi)] : List Value).toArray below meth c H locs (0) (0) (MQ below (mw_Q D z (fun v M' => v = some (.int (if (mq_rs A (V 1) a (A 35 wi) mk).length = 0 then -1004 else nI (mq_rs A (V 1) a (A 35 wi) mk).length)) ∧ (∃ V1 A1, mq_R D M' mm ra V1 A1 S ∧ V1 = va_up (va_up (va_up (va_up V 46 (nI (mq_rs A (V 1) a (A 35 wi) mk).length)) 41 (nI (mq_rs A (V 1) a (A 35 wi) mk).length)) 43 (nI (if (mq_rs A (V 1) a (A 35 wi) mk).length = 0 then 0 else km))) 45 (mf_or A (mq_rs A (V 1) a (A 35 wi) mk) &&& A 32 a) ∧ (∀ k : Nat, k ≠ 36 → k ≠ 37 → k ≠ 38 → k ≠ 39 → k ≠ 40 → k ≠ 42 → k ≠ 44 → k ≠ 47 → A1 k = A k) ∧ mq_sh A (A1 42) a (mq_rs A (V 1) a (A 35 wi) mk).length (mq_rs A (V 1) a (A 35 wi) mk) ∧ (∀ q : Nat, q < (if (mq_rs A (V 1) a (A 35 wi) mk).length = 0 then 0 else km) → A1 44 q = A 30 (4 * a + q)) ∧ A1 36 = upd (A 36) wi (nI (mq_rs A (V 1) a (A 35 wi) mk).length) ∧ A1 38 = upd (A 38) wi (nI (if (mq_rs A (V 1) a (A 35 wi) mk).length = 0 then 0 else km)) ∧ A1 40 = upd (A 40) wi (mf_or A (mq_rs A (V 1) a (A 35 wi) mk) &&& A 32 a) ∧ (∀ i e : Nat, (mq_rs A (V 1) a (A 35 wi) mk)[i]? = some e → A1 37 (12 * wi + i) = A 26 (60 * a + e)) ∧ (∀ q : Nat, (q < 12 * wi ∨ 12 * wi + 12 ≤ q) → A1 37 q = A 37 q) ∧ (∀ q : Nat, q < (if (mq_rs A (V 1) a (A 35 wi) mk).length = 0 then 0 else km) → A1 39 (4 * wi + q) = A 30 (4 * a + q)) ∧ (∀ q : Nat, (q < 4 * wi ∨ 4 * wi + 4 ≤ q) → A1 39 q = A 39 q)) ∧ mw_fr (mq_P mm ra) M M')) ([.ref mm, .int (nI wi)] : List Value).toArray s 0 0 (mw_A z)) (F0 m 117 ls []) := by
              intro c9
              induction c9 with
              | zero =>
                intro i A2 M2 H locs ls hp9 hR hD h39 h39o hF hM hS hl
                refine lv_iload hx hb dd_Mo_poll_117 (lv_at hl 0 rfl) ?_
                refine lv_aload_n hx hb dd_Mo_poll_119 rfl (lv_at hl 2 rfl) ?_
                refine gf_Mo_211 E hM hR.m ((mo_at (by decide)).trans (congrArg some (mq_vi rfl hv43))) dd_Mo_poll_120 ?_
                refine lv_icmp_ge (tgt := 150) hx hb dd_Mo_poll_123 (by decide) (fun h123 => ?_) (fun h123 => ?_)
                ·
                  rw [nI_leI (by omega) (by omega)] at h123
                  refine lv_aload_n hx hb dd_Mo_poll_150 rfl (lv_at hl 2 rfl) ?_
                  refine gf_Mo_93 E hM hR.m ((mo_at (by decide)).trans (congrArg some (mq_va rfl))) dd_Mo_poll_151 ?_
                  have w40 : M2 (ra 40) = some (.inl (D.1 100, 4, .inl (A2 40))) := hR.w 40 rfl (by decide)
                  refine lv_iload_n hx hb dd_Mo_poll_154 rfl (lv_at hl 3 rfl) ?_
                  refine lv_aload_n hx hb dd_Mo_poll_155 rfl (lv_at hl 2 rfl) ?_
                  refine gf_Mo_217 E hM hR.m ((mo_at (by decide)).trans (congrArg some (mq_vi rfl hv45))) dd_Mo_poll_156 ?_
                  have w40 : M2 (ra 40) = some (.inl (D.1 100, 4, .inl (A2 40))) := hR.w 40 rfl (by decide)
                  refine mw_iast hx hb E.K hM E.zz hS 0 w40 rfl (vp_in_nI (by omega) (by omega)) dd_Mo_poll_159 (fun H locs hM hS => ?_)
                  rw [nI_clamp (by omega)] at hM
                  have hM : mw_at D mg_cl z (va_up M2 (ra 40) (some (.inl (D.1 100, 4, .inl ((upd (A2 40) wi (mf_or A (mq_rs A (V 1) a (A 35 wi) mk) &&& A 32 a))))))) H := hM
                  obtain ⟨M1, hM1⟩ : ∃ M9 : mw_M, M9 = va_up M2 (ra 40) (some (.inl (D.1 100, 4, .inl ((upd (A2 40) wi (mf_or A (mq_rs A (V 1) a (A 35 wi) mk) &&& A 32 a)))))) := ⟨_, rfl⟩
                  rw [← hM1] at hM
                  obtain ⟨A23, hA23⟩ : ∃ A9 : Nat → Nat → Int32, A9 = va_up A2 40 (upd (A2 40) wi (mf_or A (mq_rs A (V 1) a (A 35 wi) mk) &&& A 32 a)) := ⟨_, rfl⟩
                  have hR := hR.setA 40 rfl (by decide) hM1 hA23
                  have hF := mw_fu hM1 hF (mq_Pa (k := 40) rfl)
                  refine lv_iload_n hx hb dd_Mo_poll_160 rfl (lv_at hl 1 rfl) ?_
                  refine mr_i E hr hk hM hS (by decide) (by decide) ?_ dd_Mo_poll_161
                  refine ⟨rfl, ⟨V7, A23, hR, hV7, fun k h1 h2 h3 h4 h5 h6 h7 h8 => by rw [hA23, va_up_ne _ _ h5, hD k h4, hC k h1 h2 h3, hA7 k h6 h7 h8], ?_, fun q hq => ?_, ?_, ?_, ?_, fun i e h => ?_, fun q hq => ?_, fun q hq => ?_, fun q hq => ?_⟩, hF⟩
                  · rw [hA23, va_up_ne _ _ (by decide), hD 42 (by decide), hC 42 (by decide) (by decide) (by decide)]
                    exact hs7
                  · rw [hA23, va_up_ne _ _ (by decide), hD 44 (by decide), hC 44 (by decide) (by decide) (by decide)]
                    exact hk7 q hq
                  · rw [hA23, va_up_ne _ _ (by decide), hD 36 (by decide)]
                    exact h36
                  · rw [hA23, va_up_ne _ _ (by decide), hD 38 (by decide)]
                    exact h38
                  · rw [hA23, va_up_self, hD 40 (by decide), hC 40 (by decide) (by decide) (by decide), hA7 40 (by decide) (by decide) (by decide)]
                  · rw [hA23, va_up_ne _ _ (by decide), hD 37 (by decide)]
                    exact h37 i e h
                  · rw [hA23, va_up_ne _ _ (by decide), hD 37 (by decide)]
                    exact h37o q hq
                  · rw [hA23, va_up_ne _ _ (by decide)]
                    exact h39 q (by omega)
                  · rw [hA23, va_up_ne _ _ (by decide)]
                    exact h39o q hq
                ·
                  rw [nI_leI (by omega) (by omega)] at h123
                  omega
              | succ c9 ih5 =>
                intro i A2 M2 H locs ls hp9 hR hD h39 h39o hF hM hS hl
                refine lv_iload hx hb dd_Mo_poll_117 (lv_at hl 0 rfl) ?_
                refine lv_aload_n hx hb dd_Mo_poll_119 rfl (lv_at hl 2 rfl) ?_
                refine gf_Mo_211 E hM hR.m ((mo_at (by decide)).trans (congrArg some (mq_vi rfl hv43))) dd_Mo_poll_120 ?_
                refine lv_icmp_ge (tgt := 150) hx hb dd_Mo_poll_123 (by decide) (fun h123 => ?_) (fun h123 => ?_)
                ·
                  rw [nI_leI (by omega) (by omega)] at h123
                  omega
                ·
                  rw [nI_leI (by omega) (by omega)] at h123
                  refine lv_aload_n hx hb dd_Mo_poll_126 rfl (lv_at hl 2 rfl) ?_
                  refine gf_Mo_90 E hM hR.m ((mo_at (by decide)).trans (congrArg some (mq_va rfl))) dd_Mo_poll_127 ?_
                  have w39 : M2 (ra 39) = some (.inl (D.1 100, 16, .inl (A2 39))) := hR.w 39 rfl (by decide)
                  refine lv_iconst (v := nI 4) hx hb dd_Mo_poll_130 (by decide) ?_
                  refine lv_iload_n hx hb dd_Mo_poll_131 rfl (lv_at hl 3 rfl) ?_
                  refine lv_imul hx hb dd_Mo_poll_132 ?_
                  refine mw_topi (y := nI (4 * wi)) (pk_mul _ _) ?_
                  refine lv_iload hx hb dd_Mo_poll_133 (lv_at hl 0 rfl) ?_
                  refine lv_iadd hx hb dd_Mo_poll_135 ?_
                  refine mw_topi (y := nI ((4 * wi) + i)) (nI_add _ _) ?_
                  refine lv_aload_n hx hb dd_Mo_poll_136 rfl (lv_at hl 2 rfl) ?_
                  refine gf_Mo_99 E hM hR.m ((mo_at (by decide)).trans (congrArg some (mq_va rfl))) dd_Mo_poll_137 ?_
                  have w44 : M2 (ra 44) = some (.inl (D.1 100, 4, .inl (A2 44))) := hR.w 44 rfl (by decide)
                  refine lv_iload hx hb dd_Mo_poll_140 (lv_at hl 0 rfl) ?_
                  refine mw_iald hx hb E.K hM 0 w44 rfl (vp_in_nI (by omega) (by omega)) dd_Mo_poll_142 ?_
                  refine mw_topi (y := (A2 44) i) (by rw [nI_clamp (by omega)]) ?_
                  refine mw_topi (y := A 30 (4 * a + i)) (by rw [hD 44 (by decide), hC 44 (by decide) (by decide) (by decide)]; exact hk7 i (by omega)) ?_
                  have w39 : M2 (ra 39) = some (.inl (D.1 100, 16, .inl (A2 39))) := hR.w 39 rfl (by decide)
                  refine mw_iast hx hb E.K hM E.zz hS 0 w39 rfl (vp_in_nI (by omega) (by omega)) dd_Mo_poll_143 (fun H locs hM hS => ?_)
                  rw [nI_clamp (by omega)] at hM
                  have hM : mw_at D mg_cl z (va_up M2 (ra 39) (some (.inl (D.1 100, 16, .inl ((upd (A2 39) ((4 * wi) + i) (A 30 (4 * a + i)))))))) H := hM
                  obtain ⟨M1, hM1⟩ : ∃ M9 : mw_M, M9 = va_up M2 (ra 39) (some (.inl (D.1 100, 16, .inl ((upd (A2 39) ((4 * wi) + i) (A 30 (4 * a + i))))))) := ⟨_, rfl⟩
                  rw [← hM1] at hM
                  obtain ⟨A24, hA24⟩ : ∃ A9 : Nat → Nat → Int32, A9 = va_up A2 39 (upd (A2 39) ((4 * wi) + i) (A 30 (4 * a + i))) := ⟨_, rfl⟩
                  have hR := hR.setA 39 rfl (by decide) hM1 hA24
                  have hF := mw_fu hM1 hF (mq_Pa (k := 39) rfl)
                  refine lv_iinc (k := 0) (v := nI (i + 1)) (lv' := [(4, .int (nI (i + 1))), (3, .int (if (mq_rs A (V 1) a (A 35 wi) mk).length = 0 then -1004 else nI (mq_rs A (V 1) a (A 35 wi) mk).length)), (0, .ref mm), (1, .int (nI wi))]) hx hb dd_Mo_poll_144 hl rfl (nI_1 _) (by decide) rfl (fun ls hl => ?_)
                  refine lv_goto (tgt := 117) hx hb dd_Mo_poll_147 (by decide) ?_
                  refine ih5 (i + 1) _ M1 H locs ls (by omega) hR (fun k h1 => by rw [hA24, va_up_ne _ _ h1]; exact hD k h1) (fun q hq9 => ?_) (fun q hq9 => ?_) hF hM hS (lv_sub hl [0, 1, 2, 3] rfl)
                  · rw [hA24, va_up_self]
                    by_cases e9 : q = i
                    · rw [e9, up_s]
                    · rw [up_n (by omega)]
                      exact h39 q (by omega)
                  · rw [hA24, va_up_self, up_n (by omega)]
                    exact h39o q hq9
            exact loop117 (if (mq_rs A (V 1) a (A 35 wi) mk).length = 0 then 0 else km) 0 A22 M1 H locs ls (by omega) hR (fun _ _ => rfl) (fun q h => absurd h (by omega)) (fun q _ => by rw [hC 39 (by decide) (by decide) (by decide), hA7 39 (by decide) (by decide) (by decide)]) hF hM hS (lv_sub hl [0, 1, 2, 3] rfl)
          ·
            rw [nI_leI (by omega) (by omega)] at h72
            omega
        | succ d9 ih =>
          intro i A1 M2 H locs ls hp hR hB h36 h37 h37o hF hM hS hl
          refine lv_iload hx hb dd_Mo_poll_66 (lv_at hl 0 rfl) ?_
          refine lv_aload_n hx hb dd_Mo_poll_68 rfl (lv_at hl 2 rfl) ?_
          refine gf_Mo_208 E hM hR.m ((mo_at (by decide)).trans (congrArg some (mq_vi rfl hv41))) dd_Mo_poll_69 ?_
          refine lv_icmp_ge (tgt := 104) hx hb dd_Mo_poll_72 (by decide) (fun h72 => ?_) (fun h72 => ?_)
          ·
            rw [nI_leI (by omega) (by omega)] at h72
            omega
          ·
            rw [nI_leI (by omega) (by omega)] at h72
            refine lv_aload_n hx hb dd_Mo_poll_75 rfl (lv_at hl 2 rfl) ?_
            refine gf_Mo_84 E hM hR.m ((mo_at (by decide)).trans (congrArg some (mq_va rfl))) dd_Mo_poll_76 ?_
            have w37 : M2 (ra 37) = some (.inl (D.1 100, 48, .inl (A1 37))) := hR.w 37 rfl (by decide)
            refine lv_bipush (v := nI 12) hx hb dd_Mo_poll_79 (by decide) ?_
            refine lv_iload_n hx hb dd_Mo_poll_81 rfl (lv_at hl 3 rfl) ?_
            refine lv_imul hx hb dd_Mo_poll_82 ?_
            refine mw_topi (y := nI (12 * wi)) (pk_mul _ _) ?_
            refine lv_iload hx hb dd_Mo_poll_83 (lv_at hl 0 rfl) ?_
            refine lv_iadd hx hb dd_Mo_poll_85 ?_
            refine mw_topi (y := nI ((12 * wi) + i)) (nI_add _ _) ?_
            refine lv_aload_n hx hb dd_Mo_poll_86 rfl (lv_at hl 2 rfl) ?_
            refine gf_Mo_96 E hM hR.m ((mo_at (by decide)).trans (congrArg some (mq_va rfl))) dd_Mo_poll_87 ?_
            have w42 : M2 (ra 42) = some (.inl (D.1 100, 60, .inl (A1 42))) := hR.w 42 rfl (by decide)
            refine lv_iconst (v := nI 5) hx hb dd_Mo_poll_90 (by decide) ?_
            refine lv_iload hx hb dd_Mo_poll_91 (lv_at hl 0 rfl) ?_
            refine lv_imul hx hb dd_Mo_poll_93 ?_
            refine mw_topi (y := nI (5 * i)) (pk_mul _ _) ?_
            refine lv_iconst (v := nI 1) hx hb dd_Mo_poll_94 (by decide) ?_
            refine lv_iadd hx hb dd_Mo_poll_95 ?_
            refine mw_topi (y := nI ((5 * i) + 1)) (nI_add _ _) ?_
            refine mw_iald hx hb E.K hM 0 w42 rfl (vp_in_nI (by omega) (by omega)) dd_Mo_poll_96 ?_
            refine mw_topi (y := (A1 42) ((5 * i) + 1)) (by rw [nI_clamp (by omega)]) ?_
            obtain ⟨en, he⟩ : ∃ en, (mq_rs A (V 1) a (A 35 wi) mk)[i]? = some en := ⟨_, List.getElem?_eq_getElem (by omega)⟩
            refine mw_topi (y := A 26 (60 * a + en)) (by rw [hB 42 (by decide) (by decide)]; exact (hs7 i en (by omega) he).2.1) ?_
            have w37 : M2 (ra 37) = some (.inl (D.1 100, 48, .inl (A1 37))) := hR.w 37 rfl (by decide)
            refine mw_iast hx hb E.K hM E.zz hS 0 w37 rfl (vp_in_nI (by omega) (by omega)) dd_Mo_poll_97 (fun H locs hM hS => ?_)
            rw [nI_clamp (by omega)] at hM
            have hM : mw_at D mg_cl z (va_up M2 (ra 37) (some (.inl (D.1 100, 48, .inl ((upd (A1 37) ((12 * wi) + i) (A 26 (60 * a + en)))))))) H := hM
            obtain ⟨M1, hM1⟩ : ∃ M9 : mw_M, M9 = va_up M2 (ra 37) (some (.inl (D.1 100, 48, .inl ((upd (A1 37) ((12 * wi) + i) (A 26 (60 * a + en))))))) := ⟨_, rfl⟩
            rw [← hM1] at hM
            obtain ⟨A25, hA25⟩ : ∃ A9 : Nat → Nat → Int32, A9 = va_up A1 37 (upd (A1 37) ((12 * wi) + i) (A 26 (60 * a + en))) := ⟨_, rfl⟩
            have hR := hR.setA 37 rfl (by decide) hM1 hA25
            have hF := mw_fu hM1 hF (mq_Pa (k := 37) rfl)
            refine lv_iinc (k := 0) (v := nI (i + 1)) (lv' := [(4, .int (nI (i + 1))), (3, .int (if (mq_rs A (V 1) a (A 35 wi) mk).length = 0 then -1004 else nI (mq_rs A (V 1) a (A 35 wi) mk).length)), (0, .ref mm), (1, .int (nI wi))]) hx hb dd_Mo_poll_98 hl rfl (nI_1 _) (by decide) rfl (fun ls hl => ?_)
            refine lv_goto (tgt := 66) hx hb dd_Mo_poll_101 (by decide) ?_
            refine ih (i + 1) _ M1 H locs ls (by omega) hR (fun k h1 h2 => by rw [hA25, va_up_ne _ _ h2]; exact hB k h1 h2) (by rw [hA25, va_up_ne _ _ (by decide)]; exact h36) (fun q e h1 h2 => ?_) (fun q hq9 => ?_) hF hM hS (lv_sub hl [0, 1, 2, 3] rfl)
            · rw [hA25, va_up_self]
              by_cases e9 : q = i
              · rw [e9, he] at h2
                cases h2
                rw [e9, up_s]
              · rw [up_n (by omega)]
                exact h37 q e (by omega) h2
            · rw [hA25, va_up_self, up_n (by omega)]
              exact h37o q hq9
      exact loop66 (mq_rs A (V 1) a (A 35 wi) mk).length 0 A21 M1 H locs ls (by omega) hR (fun k h1 _ => hB k h1) h36 (fun q e h => absurd h (by omega)) (fun q _ => by rw [hB 37 (by decide), hA7 37 (by decide) (by decide) (by decide)]) hF hM hS (lv_sub hl [0, 1, 3, 4] rfl)
    ·
      exact absurd ((nw_same_c hA8).mp (hbb.mp (zI_0.mp h42))) hnews
  ·
    exact absurd rfl h11
