/-! the entries that there are: a list of them as a function of its places -/
def en_l (e : Nat → Int32) : List Value := [.int (e 0), .int (e 1), .int (e 2), .int (e 3), .int (e 4), .int (e 5)]
def wc_step (e : Nat → Int32) (w : Int32) : Int32 := if (w >>> ((e 2) &&& 31)) &&& nI 1 = nI 1 then w ||| (nI 1 <<< ((e 1) &&& 31)) else w
def wc_up (E0 : Nat → Nat → Int32) : Nat → Int32 → Int32
  | 0, w => w
  | i + 1, w => wc_step (E0 i) (wc_up E0 i w)
theorem wc_y {E0 : Nat → Nat → Int32} {w0 u : Int32} {i : Nat} (hu : u = wc_up E0 i w0) (h : decide ((u >>> ((E0 i 2) &&& 31)) &&& nI 1 = nI 1) = true) : u ||| (nI 1 <<< ((E0 i 1) &&& 31)) = wc_up E0 (i + 1) w0 := by
  subst hu
  show _ = wc_step (E0 i) (wc_up E0 i w0)
  unfold wc_step
  rw [if_pos (of_decide_eq_true h)]
theorem wc_n {E0 : Nat → Nat → Int32} {w0 u : Int32} {i : Nat} (hu : u = wc_up E0 i w0) (h : decide ((u >>> ((E0 i 2) &&& 31)) &&& nI 1 = nI 1) = false) : u = wc_up E0 (i + 1) w0 := by
  subst hu
  show _ = wc_step (E0 i) (wc_up E0 i w0)
  unfold wc_step
  rw [if_neg (of_decide_eq_false h)]
theorem cc_Es_at (l : Launch) (D : va_G) (z : Nat) (M : mw_M) (d el ar k mk cap : Nat) (mo : Int32) (g : Nat → Option Nat) (ad : Nat → Nat) (E0 : Nat → Nat → Int32) (i : Nat) (wd : M d = some (.inr (3, [.ref el, .int (nI mk)]))) (wc : M el = some (.inr (4, [.ref ar, .int (nI k), .int (mo)]))) (wg : 0 < k → M ar = some (.inl (D.1 103, cap, .inr (.inr (.inr (.inr g)))))) (hkc : k ≤ cap) (hcap : cap < 2 ^ 20) (hg : ∀ i : Nat, i < k → g i = some (ad i)) (he : ∀ i : Nat, i < k → M (ad i) = some (.inr (9, en_l (E0 i)))) (hi : i < k) : mw_C l yy_Es_at bb_Es_at 2 (Option.some (Jvm.ClassFile.FieldType.object "IdentityIssuer$Entry")) 3 64 0 0 D z M [.ref d, .int (nI i)] (fun v M' => v = some (.ref (ad i)) ∧ M' = M) := by
  refine mw_of (by decide) (Nat.le_of_ble_eq_true rfl) ?_
  intro p e s m below meth c ls E hr hk hnm hM hl
  have hx := E.x
  have hb := E.b
  have E : mw_E p m c bb_Es_at 2 s _ D z "IdentityIssuer$Entries" := E
  have hl : lv_has ls 2 [(0, .ref d), (1, .int (nI i))] := hl
  have hS : va_S (mw_A z) s.heap s.heap [] := va_S.rf
  refine lv_aload_n hx hb dd_Es_at_0 rfl (lv_at hl 0 rfl) ?_
  refine gf_Es_12 E hM wd rfl dd_Es_at_1 ?_
  refine lv_iload_n hx hb dd_Es_at_4 rfl (lv_at hl 1 rfl) ?_
  refine mw_V (As := [.int (nI i)]) (rest := []) E (cc_AL_get l D z (M) el ar k cap mo g i (ad i) wc (wg (by omega)) hkc hcap (by omega) (hg i (by omega))) ky_AL_get kv_AL_get tw_Es_22 hM hS wc rfl rfl rfl hl.1 rfl (Nat.le_of_ble_eq_true rfl) dd_Es_at_5 (by decide) (by decide) (fun v M1 H locs hp hM hS => ?_)
  obtain ⟨rfl, hq⟩ := hp
  have hq := hq.symm
  subst hq
  have wi : M (ad i) = some (.inr (9, [.int (E0 i 0), .int (E0 i 1), .int (E0 i 2), .int (E0 i 3), .int (E0 i 4), .int (E0 i 5)])) := he i (by omega)
  refine W.eq (g2 := F0 m 8 ls [.ref (ad i)]) rfl ?_
  refine va_castY (C := "IdentityIssuer$Entry") hx hb E.o (E.t _ tw_Es_26) (E.N.2.2.1 ("IdentityIssuer$Entry", "IdentityIssuer$Entry") (by decide)) (mw_recv E.K hM rfl wi) dd_Es_at_8 ?_
  refine mr_a E hr hk (Or.inl ⟨_, rfl⟩) (Or.inr ⟨_, rfl⟩) hM hS (by decide) (by decide) ?_ dd_Es_at_11
  exact ⟨rfl, rfl⟩
theorem cc_Es_withChildren (l : Launch) (D : va_G) (z : Nat) (M : mw_M) (d el ar k mk cap : Nat) (mo : Int32) (g : Nat → Option Nat) (ad : Nat → Nat) (E0 : Nat → Nat → Int32) (w0 : Int32) (wd : M d = some (.inr (3, [.ref el, .int (nI mk)]))) (wc : M el = some (.inr (4, [.ref ar, .int (nI k), .int (mo)]))) (wg : 0 < k → M ar = some (.inl (D.1 103, cap, .inr (.inr (.inr (.inr g)))))) (hkc : k ≤ cap) (hcap : cap < 2 ^ 20) (hg : ∀ i : Nat, i < k → g i = some (ad i)) (he : ∀ i : Nat, i < k → M (ad i) = some (.inr (9, en_l (E0 i)))) : mw_C l yy_Es_withChildren bb_Es_withChildren 5 (Option.some Jvm.ClassFile.FieldType.int) 3 64 0 0 D z M [.ref d, .int (w0)] (fun v M' => v = some (.int (wc_up E0 k w0)) ∧ M' = M) := by
  refine mw_of (by decide) (Nat.le_of_ble_eq_true rfl) ?_
  intro p e s m below meth c ls E hr hk hnm hM hl
  have hx := E.x
  have hb := E.b
  have E : mw_E p m c bb_Es_withChildren 5 s _ D z "IdentityIssuer$Entries" := E
  have hl : lv_has ls 5 [(0, .ref d), (1, .int (w0))] := hl
  have hS : va_S (mw_A z) s.heap s.heap [] := va_S.rf
  refine lv_iload_n hx hb dd_Es_withChildren_0 rfl (lv_at hl 1 rfl) ?_
  refine lv_istore_n (lv' := [(2, .int (w0)), (0, .ref d), (1, .int (w0))]) hx hb dd_Es_withChildren_1 rfl hl (by decide) rfl (fun ls hl => ?_)
  refine lv_iconst (v := nI 0) hx hb dd_Es_withChildren_2 (by decide) ?_
  refine lv_istore_n (lv' := [(3, .int (nI 0)), (2, .int (w0)), (0, .ref d), (1, .int (w0))]) hx hb dd_Es_withChildren_3 rfl hl (by decide) rfl (fun ls hl => ?_)
  have loop4 : ∀ (d9 : Nat) (i : Nat) (u : Int32) (H : Heap) (locs : List Loc) (ls : Array Slot), i + d9 = k → u = wc_up E0 i w0 → mw_at D mg_cl z M H → va_S (mw_A z) s.heap H locs → lv_has ls 5 [(2, .int (u)), (3, .int (nI i)), (0, .ref d)] → W p l e ({ frames := 3, cells := 0, slots := 0, locals := 64 } : Room) s m ([.ref d, .int (w0)] : List Value).toArray below meth c H locs (0) (0) (MQ below (mw_Q D z (fun v M' => v = some (.int (wc_up E0 k w0)) ∧ M' = M)) ([.ref d, .int (w0)] : List Value).toArray s 0 0 (mw_A z)) (F0 m 4 ls []) := by
    intro d9
    induction d9 with
    | zero =>
      intro i u H locs ls hi hu hM hS hl
      refine lv_iload_n hx hb dd_Es_withChildren_4 rfl (lv_at hl 1 rfl) ?_
      refine lv_aload_n hx hb dd_Es_withChildren_5 rfl (lv_at hl 2 rfl) ?_
      refine gf_Es_12 E hM wd rfl dd_Es_withChildren_6 ?_
      refine mw_V (As := []) (rest := [.int (nI i)]) E (cc_AL_size l D z (M) el ar (k) mo wc (by omega)) ky_AL_size kv_AL_size tw_Es_18 hM hS wc rfl rfl rfl hl.1 rfl (Nat.le_of_ble_eq_true rfl) dd_Es_withChildren_9 (by decide) (by decide) (fun v M1 H locs hp hM hS => ?_)
      obtain ⟨rfl, hq⟩ := hp
      have hq := hq.symm
      subst hq
      refine W.eq (g2 := F0 m 12 ls [.int (nI k), .int (nI i)]) rfl ?_
      refine lv_icmp_ge (tgt := 53) hx hb dd_Es_withChildren_12 (by decide) (fun h12 => ?_) (fun h12 => ?_)
      ·
        rw [nI_leI (by omega) (by omega)] at h12
        refine lv_iload_n hx hb dd_Es_withChildren_53 rfl (lv_at hl 0 rfl) ?_
        refine mr_i E hr hk hM hS (by decide) (by decide) ?_ dd_Es_withChildren_54
        exact ⟨by rw [hu, show k = i by omega], rfl⟩
      ·
        rw [nI_leI (by omega) (by omega)] at h12
        omega
    | succ d9 ih =>
      intro i u H locs ls hi hu hM hS hl
      refine lv_iload_n hx hb dd_Es_withChildren_4 rfl (lv_at hl 1 rfl) ?_
      refine lv_aload_n hx hb dd_Es_withChildren_5 rfl (lv_at hl 2 rfl) ?_
      refine gf_Es_12 E hM wd rfl dd_Es_withChildren_6 ?_
      refine mw_V (As := []) (rest := [.int (nI i)]) E (cc_AL_size l D z (M) el ar (k) mo wc (by omega)) ky_AL_size kv_AL_size tw_Es_18 hM hS wc rfl rfl rfl hl.1 rfl (Nat.le_of_ble_eq_true rfl) dd_Es_withChildren_9 (by decide) (by decide) (fun v M1 H locs hp hM hS => ?_)
      obtain ⟨rfl, hq⟩ := hp
      have hq := hq.symm
      subst hq
      refine W.eq (g2 := F0 m 12 ls [.int (nI k), .int (nI i)]) rfl ?_
      refine lv_icmp_ge (tgt := 53) hx hb dd_Es_withChildren_12 (by decide) (fun h12 => ?_) (fun h12 => ?_)
      ·
        rw [nI_leI (by omega) (by omega)] at h12
        omega
      ·
        rw [nI_leI (by omega) (by omega)] at h12
        refine lv_aload_n hx hb dd_Es_withChildren_15 rfl (lv_at hl 2 rfl) ?_
        refine gf_Es_12 E hM wd rfl dd_Es_withChildren_16 ?_
        refine lv_iload_n hx hb dd_Es_withChildren_19 rfl (lv_at hl 1 rfl) ?_
        refine mw_V (As := [.int (nI i)]) (rest := []) E (cc_AL_get l D z (M) el ar k cap mo g i (ad i) wc (wg (by omega)) hkc hcap (by omega) (hg i (by omega))) ky_AL_get kv_AL_get tw_Es_22 hM hS wc rfl rfl rfl hl.1 rfl (Nat.le_of_ble_eq_true rfl) dd_Es_withChildren_20 (by decide) (by decide) (fun v M1 H locs hp hM hS => ?_)
        obtain ⟨rfl, hq⟩ := hp
        have hq := hq.symm
        subst hq
        have wi : M (ad i) = some (.inr (9, [.int (E0 i 0), .int (E0 i 1), .int (E0 i 2), .int (E0 i 3), .int (E0 i 4), .int (E0 i 5)])) := he i (by omega)
        refine W.eq (g2 := F0 m 23 ls [.ref (ad i)]) rfl ?_
        refine va_castY (C := "IdentityIssuer$Entry") hx hb E.o (E.t _ tw_Es_26) (E.N.2.2.1 ("IdentityIssuer$Entry", "IdentityIssuer$Entry") (by decide)) (mw_recv E.K hM rfl wi) dd_Es_withChildren_23 ?_
        refine lv_astore (lv' := [(4, .ref (ad i)), (2, .int (u)), (3, .int (nI i)), (0, .ref d)]) hx hb dd_Es_withChildren_26 hl (by decide) rfl (fun ls hl => ?_)
        refine lv_aload hx hb dd_Es_withChildren_28 (lv_at hl 0 rfl) ?_
        refine lv_iload_n hx hb dd_Es_withChildren_30 rfl (lv_at hl 1 rfl) ?_
        refine mw_V (As := [.int (u)]) (rest := []) E (cc_En_isEntitled l D z (M) (ad i) (E0 i 0) (E0 i 1) (E0 i 2) (E0 i 3) (E0 i 4) (E0 i 5) u wi) ky_En_isEntitled kv_En_isEntitled tw_Es_65 hM hS wi rfl rfl rfl hl.1 rfl (Nat.le_of_ble_eq_true rfl) dd_Es_withChildren_31 (by decide) (by decide) (fun v M1 H locs hp hM hS => ?_)
        obtain ⟨rfl, hq⟩ := hp
        have hq := hq.symm
        subst hq
        refine W.eq (g2 := F0 m 34 ls [.int (zI (decide ((u >>> ((E0 i 2) &&& 31)) &&& nI 1 = nI 1)))]) rfl ?_
        refine lv_if_eq (tgt := 47) hx hb dd_Es_withChildren_34 (by decide) (fun h34 => ?_) (fun h34 => ?_)
        ·
          have h34 := zI_0.mp h34
          refine lv_iinc (k := 2) (v := nI (i + 1)) (lv' := [(3, .int (nI (i + 1))), (4, .ref (ad i)), (2, .int (u)), (0, .ref d)]) hx hb dd_Es_withChildren_47 hl rfl (nI_1 _) (by decide) rfl (fun ls hl => ?_)
          refine lv_goto (tgt := 4) hx hb dd_Es_withChildren_50 (by decide) ?_
          exact ih (i + 1) _ H locs ls (by omega) (wc_n hu h34) hM hS (lv_sub hl [2, 0, 3] rfl)
        ·
          have h34 : decide ((u >>> ((E0 i 2) &&& 31)) &&& nI 1 = nI 1) = true := Bool.of_not_eq_false (fun q => h34 (zI_0.mpr q))
          refine lv_iload_n hx hb dd_Es_withChildren_37 rfl (lv_at hl 1 rfl) ?_
          refine lv_iconst (v := nI 1) hx hb dd_Es_withChildren_38 (by decide) ?_
          refine lv_aload hx hb dd_Es_withChildren_39 (lv_at hl 0 rfl) ?_
          refine gf_Es_60 E hM wi rfl dd_Es_withChildren_41 ?_
          refine lv_ishl hx hb dd_Es_withChildren_44 ?_
          refine lv_ior hx hb dd_Es_withChildren_45 ?_
          refine lv_istore_n (lv' := [(2, .int (u ||| ((nI 1) <<< ((E0 i 1) &&& 31)))), (4, .ref (ad i)), (3, .int (nI i)), (0, .ref d)]) hx hb dd_Es_withChildren_46 rfl hl (by decide) rfl (fun ls hl => ?_)
          refine lv_iinc (k := 2) (v := nI (i + 1)) (lv' := [(3, .int (nI (i + 1))), (2, .int (u ||| ((nI 1) <<< ((E0 i 1) &&& 31)))), (4, .ref (ad i)), (0, .ref d)]) hx hb dd_Es_withChildren_47 hl rfl (nI_1 _) (by decide) rfl (fun ls hl => ?_)
          refine lv_goto (tgt := 4) hx hb dd_Es_withChildren_50 (by decide) ?_
          exact ih (i + 1) _ H locs ls (by omega) (wc_y hu h34) hM hS (lv_sub hl [1, 0, 3] rfl)
  exact loop4 k 0 w0 s.heap [] ls (by omega) rfl hM hS (lv_sub hl [1, 0, 2] rfl)
