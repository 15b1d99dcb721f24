/-! the entries: an agent's reach; one is dropped -/
def rs_step (e : Nat → Int32) (sel w : Int32) : Int32 := if e 2 = 0 ∧ e 3 &&& (sel ^^^ -1) = 0 then w ||| (nI 1 <<< (e 1 &&& 31)) else w
def rs_up (E0 : Nat → Nat → Int32) (sel : Int32) : Nat → Int32 → Int32
  | 0, w => w
  | i + 1, w => rs_step (E0 i) sel (rs_up E0 sel i w)
def wi_up (E0 : Nat → Nat → Int32) (k : Nat) : Nat → Int32 → Int32
  | 0, w => w
  | j + 1, w => wc_up E0 k (wi_up E0 k j w)
def es_reach (E0 : Nat → Nat → Int32) (k : Nat) (i sel : Int32) : Int32 := wi_up E0 k k (rs_up E0 sel k (nI 1 <<< (i &&& 31)))
theorem rs_y {E0 : Nat → Nat → Int32} {sel w0 u : Int32} {i : Nat} (hu : u = rs_up E0 sel i w0) (h1 : E0 i 2 = 0) (h : decide (E0 i 3 &&& (sel ^^^ -1) = 0) = true) : u ||| (nI 1 <<< (E0 i 1 &&& 31)) = rs_up E0 sel (i + 1) w0 := by
  subst hu
  show _ = rs_step (E0 i) sel (rs_up E0 sel i w0)
  unfold rs_step
  rw [if_pos ⟨h1, of_decide_eq_true h⟩]
theorem rs_n {E0 : Nat → Nat → Int32} {sel w0 u : Int32} {i : Nat} (hu : u = rs_up E0 sel i w0) (h : ¬ (E0 i 2 = 0 ∧ E0 i 3 &&& (sel ^^^ -1) = 0)) : u = rs_up E0 sel (i + 1) w0 := by
  subst hu
  show _ = rs_step (E0 i) sel (rs_up E0 sel i w0)
  unfold rs_step
  rw [if_neg h]
theorem es_el {M : mw_M} {g : Nat → Option Nat} {ad : Nat → Nat} {E0 : Nat → Nat → Int32} {k cap : Nat} (hg : ∀ i : Nat, i < k → g i = some (ad i)) (he : ∀ i : Nat, i < k → M (ad i) = some (.inr (9, en_l (E0 i)))) (hgz : ∀ i : Nat, k ≤ i → g i = none) : el_ok M g cap := fun i hi y hy => by
  by_cases h : i < k
  · rw [hg i h] at hy
    cases hy
    exact ⟨9, _, _, he i h, rfl, by decide +kernel⟩
  · rw [hgz i (by omega)] at hy
    cases hy
theorem es_na {M : mw_M} {g : Nat → Option Nat} {ad : Nat → Nat} {E0 : Nat → Nat → Int32} {k el : Nat} {vs : List Value} (hg : ∀ i : Nat, i < k → g i = some (ad i)) (he : ∀ i : Nat, i < k → M (ad i) = some (.inr (9, en_l (E0 i)))) (hgz : ∀ i : Nat, k ≤ i → g i = none) (wc : M el = some (.inr (4, vs))) : ∀ j : Nat, g j ≠ some el := fun j q => by
  by_cases h : j < k
  · rw [hg j h] at q
    cases q
    have := (he j h).symm.trans wc
    cases this
  · rw [hgz j (by omega)] at q
    cases q
theorem cc_Es_reachOf (l : Launch) (D : va_G) (z : Nat) (M : mw_M) (d el ar k mk cap : Nat) (mo : Int32) (g : Nat → Option Nat) (ad : Nat → Nat) (E0 : Nat → Nat → Int32) (x a_k : Nat) (a_i a_s a_f a_e a_g : Int32) (wd : M d = some (.inr (3, [.ref el, .int (nI mk)]))) (wc : M el = some (.inr (4, [.ref ar, .int (nI k), .int (mo)]))) (wg : 0 < k → M ar = some (.inl (D.1 103, cap, .inr (.inr (.inr (.inr g)))))) (hkc : k ≤ cap) (hcap : cap < 2 ^ 20) (hg : ∀ i : Nat, i < k → g i = some (ad i)) (he : ∀ i : Nat, i < k → M (ad i) = some (.inr (9, en_l (E0 i)))) (wx : M x = some (.inr (10, [.int (a_i), .ref a_k, .int (a_s), .int (a_f), .int (a_e), .int (a_g)]))) : mw_C l yy_Es_reachOf bb_Es_reachOf 5 (Option.some Jvm.ClassFile.FieldType.int) 4 88 0 0 D z M [.ref d, .ref x] (fun v M' => v = some (.int (es_reach E0 k a_i a_s)) ∧ M' = M) := by
  refine mw_of (by decide) (Nat.le_of_ble_eq_true rfl) ?_
  intro p e s m below meth c ls E hr hk hnm hM hl
  have hx := E.x
  have hb := E.b
  have E : mw_E p m c bb_Es_reachOf 5 s _ D z "IdentityIssuer$Entries" := E
  have hl : lv_has ls 5 [(0, .ref d), (1, .ref x)] := hl
  have hS : va_S (mw_A z) s.heap s.heap [] := va_S.rf
  refine lv_iconst (v := nI 1) hx hb dd_Es_reachOf_0 (by decide) ?_
  refine lv_aload_n hx hb dd_Es_reachOf_1 rfl (lv_at hl 1 rfl) ?_
  refine gf_Es_45 E hM wx rfl dd_Es_reachOf_2 ?_
  refine lv_ishl hx hb dd_Es_reachOf_5 ?_
  refine lv_istore_n (lv' := [(2, .int ((nI 1) <<< (a_i &&& 31))), (0, .ref d), (1, .ref x)]) hx hb dd_Es_reachOf_6 rfl hl (by decide) rfl (fun ls hl => ?_)
  refine lv_iconst (v := nI 0) hx hb dd_Es_reachOf_7 (by decide) ?_
  refine lv_istore_n (lv' := [(3, .int (nI 0)), (2, .int ((nI 1) <<< (a_i &&& 31))), (0, .ref d), (1, .ref x)]) hx hb dd_Es_reachOf_8 rfl hl (by decide) rfl (fun ls hl => ?_)
  have loop9 : ∀ (d9 : Nat) (i : Nat) (u : Int32) (H : Heap) (locs : List Loc) (ls : Array Slot), i + d9 = k → u = rs_up E0 a_s i (nI 1 <<< (a_i &&& 31)) → mw_at D mg_cl z M H → va_S (mw_A z) s.heap H locs → lv_has ls 5 [(2, .int (u)), (3, .int (nI i)), (0, .ref d), (1, .ref x)] → W p l e ({ frames := 4, cells := 0, slots := 0, locals := 88 } : Room) s m ([.ref d, .ref x] : List Value).toArray below meth c H locs (0) (0) (MQ below (mw_Q D z (fun v M' => v = some (.int (es_reach E0 k a_i a_s)) ∧ M' = M)) ([.ref d, .ref x] : List Value).toArray s 0 0 (mw_A z)) (F0 m 9 ls []) := by
    intro d9
    induction d9 with
    | zero =>
      intro i u H locs ls hi hu hM hS hl
      refine lv_iload_n hx hb dd_Es_reachOf_9 rfl (lv_at hl 1 rfl) ?_
      refine lv_aload_n hx hb dd_Es_reachOf_10 rfl (lv_at hl 2 rfl) ?_
      refine gf_Es_12 E hM wd rfl dd_Es_reachOf_11 ?_
      refine mw_V (As := []) (rest := [.int (nI i)]) E (cc_AL_size l D z (M) el ar (k) mo wc (by omega)) ky_AL_size kv_AL_size tw_Es_18 hM hS wc rfl rfl rfl hl.1 rfl (Nat.le_of_ble_eq_true rfl) dd_Es_reachOf_14 (by decide) (by decide) (fun v M1 H locs hp hM hS => ?_)
      obtain ⟨rfl, hq⟩ := hp
      have hq := hq.symm
      subst hq
      refine W.eq (g2 := F0 m 17 ls [.int (nI k), .int (nI i)]) rfl ?_
      refine lv_icmp_ge (tgt := 69) hx hb dd_Es_reachOf_17 (by decide) (fun h17 => ?_) (fun h17 => ?_)
      ·
        rw [nI_leI (by omega) (by omega)] at h17
        refine lv_iconst (v := nI 0) hx hb dd_Es_reachOf_69 (by decide) ?_
        refine lv_istore_n (lv' := [(3, .int (nI 0)), (2, .int (u)), (0, .ref d), (1, .ref x)]) hx hb dd_Es_reachOf_70 rfl hl (by decide) rfl (fun ls hl => ?_)
        have loop71 : ∀ (d9 : Nat) (j : Nat) (u2 : Int32) (H : Heap) (locs : List Loc) (ls : Array Slot), j + d9 = k → u2 = wi_up E0 k j (rs_up E0 a_s k (nI 1 <<< (a_i &&& 31))) → mw_at D mg_cl z M H → va_S (mw_A z) s.heap H locs → lv_has ls 5 [(2, .int (u2)), (3, .int (nI j)), (0, .ref d)] → W p l e ({ frames := 4, cells := 0, slots := 0, locals := 88 } : Room) s m ([.ref d, .ref x] : List Value).toArray below meth c H locs (0) (0) (MQ below (mw_Q D z (fun v M' => v = some (.int (es_reach E0 k a_i a_s)) ∧ M' = M)) ([.ref d, .ref x] : List Value).toArray s 0 0 (mw_A z)) (F0 m 71 ls []) := by
          intro d9
          induction d9 with
          | zero =>
            intro j u2 H locs ls hj hu2 hM hS hl
            refine lv_iload_n hx hb dd_Es_reachOf_71 rfl (lv_at hl 1 rfl) ?_
            refine lv_aload_n hx hb dd_Es_reachOf_72 rfl (lv_at hl 2 rfl) ?_
            refine gf_Es_12 E hM wd rfl dd_Es_reachOf_73 ?_
            refine mw_V (As := []) (rest := [.int (nI j)]) E (cc_AL_size l D z (M) el ar (k) mo wc (by omega)) ky_AL_size kv_AL_size tw_Es_18 hM hS wc rfl rfl rfl hl.1 rfl (Nat.le_of_ble_eq_true rfl) dd_Es_reachOf_76 (by decide) (by decide) (fun v M1 H locs hp hM hS => ?_)
            obtain ⟨rfl, hq⟩ := hp
            have hq := hq.symm
            subst hq
            refine W.eq (g2 := F0 m 79 ls [.int (nI k), .int (nI j)]) rfl ?_
            refine lv_icmp_ge (tgt := 94) hx hb dd_Es_reachOf_79 (by decide) (fun h79 => ?_) (fun h79 => ?_)
            ·
              rw [nI_leI (by omega) (by omega)] at h79
              refine lv_iload_n hx hb dd_Es_reachOf_94 rfl (lv_at hl 0 rfl) ?_
              refine mr_i E hr hk hM hS (by decide) (by decide) ?_ dd_Es_reachOf_95
              exact ⟨by rw [hu2, show j = k by omega]; rfl, rfl⟩
            ·
              rw [nI_leI (by omega) (by omega)] at h79
              omega
          | succ d9 ih =>
            intro j u2 H locs ls hj hu2 hM hS hl
            refine lv_iload_n hx hb dd_Es_reachOf_71 rfl (lv_at hl 1 rfl) ?_
            refine lv_aload_n hx hb dd_Es_reachOf_72 rfl (lv_at hl 2 rfl) ?_
            refine gf_Es_12 E hM wd rfl dd_Es_reachOf_73 ?_
            refine mw_V (As := []) (rest := [.int (nI j)]) E (cc_AL_size l D z (M) el ar (k) mo wc (by omega)) ky_AL_size kv_AL_size tw_Es_18 hM hS wc rfl rfl rfl hl.1 rfl (Nat.le_of_ble_eq_true rfl) dd_Es_reachOf_76 (by decide) (by decide) (fun v M1 H locs hp hM hS => ?_)
            obtain ⟨rfl, hq⟩ := hp
            have hq := hq.symm
            subst hq
            refine W.eq (g2 := F0 m 79 ls [.int (nI k), .int (nI j)]) rfl ?_
            refine lv_icmp_ge (tgt := 94) hx hb dd_Es_reachOf_79 (by decide) (fun h79 => ?_) (fun h79 => ?_)
            ·
              rw [nI_leI (by omega) (by omega)] at h79
              omega
            ·
              rw [nI_leI (by omega) (by omega)] at h79
              refine lv_aload_n hx hb dd_Es_reachOf_82 rfl (lv_at hl 2 rfl) ?_
              refine lv_iload_n hx hb dd_Es_reachOf_83 rfl (lv_at hl 0 rfl) ?_
              refine mw_V (As := [.int (u2)]) (rest := []) E (cc_Es_withChildren l D z (M) d el ar k mk cap mo g ad E0 u2 wd wc wg hkc hcap hg he) ky_Es_withChildren kv_Es_withChildren tw_Es_61 hM hS wd rfl rfl rfl hl.1 rfl (Nat.le_of_ble_eq_true rfl) dd_Es_reachOf_84 (by decide) (by decide) (fun v M1 H locs hp hM hS => ?_)
              obtain ⟨rfl, hq⟩ := hp
              have hq := hq.symm
              subst hq
              refine W.eq (g2 := F0 m 87 ls [.int (wc_up E0 k u2)]) rfl ?_
              refine lv_istore_n (lv' := [(2, .int (wc_up E0 k u2)), (3, .int (nI j)), (0, .ref d)]) hx hb dd_Es_reachOf_87 rfl hl (by decide) rfl (fun ls hl => ?_)
              refine lv_iinc (k := 1) (v := nI (j + 1)) (lv' := [(3, .int (nI (j + 1))), (2, .int (wc_up E0 k u2)), (0, .ref d)]) hx hb dd_Es_reachOf_88 hl rfl (nI_1 _) (by decide) rfl (fun ls hl => ?_)
              refine lv_goto (tgt := 71) hx hb dd_Es_reachOf_91 (by decide) ?_
              exact ih (j + 1) _ H locs ls (by omega) (by rw [hu2]; rfl) hM hS (lv_sub hl [1, 0, 2] rfl)
        exact loop71 k 0 _ H locs ls (by omega) (by rw [hu, show i = k by omega]; rfl) hM hS (lv_sub hl [1, 0, 2] rfl)
      ·
        rw [nI_leI (by omega) (by omega)] at h17
        omega
    | succ d9 ih =>
      intro i u H locs ls hi hu hM hS hl
      refine lv_iload_n hx hb dd_Es_reachOf_9 rfl (lv_at hl 1 rfl) ?_
      refine lv_aload_n hx hb dd_Es_reachOf_10 rfl (lv_at hl 2 rfl) ?_
      refine gf_Es_12 E hM wd rfl dd_Es_reachOf_11 ?_
      refine mw_V (As := []) (rest := [.int (nI i)]) E (cc_AL_size l D z (M) el ar (k) mo wc (by omega)) ky_AL_size kv_AL_size tw_Es_18 hM hS wc rfl rfl rfl hl.1 rfl (Nat.le_of_ble_eq_true rfl) dd_Es_reachOf_14 (by decide) (by decide) (fun v M1 H locs hp hM hS => ?_)
      obtain ⟨rfl, hq⟩ := hp
      have hq := hq.symm
      subst hq
      refine W.eq (g2 := F0 m 17 ls [.int (nI k), .int (nI i)]) rfl ?_
      refine lv_icmp_ge (tgt := 69) hx hb dd_Es_reachOf_17 (by decide) (fun h17 => ?_) (fun h17 => ?_)
      ·
        rw [nI_leI (by omega) (by omega)] at h17
        omega
      ·
        rw [nI_leI (by omega) (by omega)] at h17
        refine lv_aload_n hx hb dd_Es_reachOf_20 rfl (lv_at hl 2 rfl) ?_
        refine gf_Es_12 E hM wd rfl dd_Es_reachOf_21 ?_
        refine lv_iload_n hx hb dd_Es_reachOf_24 rfl (lv_at hl 1 rfl) ?_
        refine mw_V (As := [.int (nI i)]) (rest := []) E (cc_AL_get l D z (M) el ar k cap mo g i (ad i) wc (wg (by omega)) hkc hcap (by omega) (hg i (by omega))) ky_AL_get kv_AL_get tw_Es_22 hM hS wc rfl rfl rfl hl.1 rfl (Nat.le_of_ble_eq_true rfl) dd_Es_reachOf_25 (by decide) (by decide) (fun v M1 H locs hp hM hS => ?_)
        obtain ⟨rfl, hq⟩ := hp
        have hq := hq.symm
        subst hq
        have wi : M (ad i) = some (.inr (9, [.int (E0 i 0), .int (E0 i 1), .int (E0 i 2), .int (E0 i 3), .int (E0 i 4), .int (E0 i 5)])) := he i (by omega)
        refine W.eq (g2 := F0 m 28 ls [.ref (ad i)]) rfl ?_
        refine va_castY (C := "IdentityIssuer$Entry") hx hb E.o (E.t _ tw_Es_26) (E.N.2.2.1 ("IdentityIssuer$Entry", "IdentityIssuer$Entry") (by decide)) (mw_recv E.K hM rfl wi) dd_Es_reachOf_28 ?_
        refine lv_astore (lv' := [(4, .ref (ad i)), (2, .int (u)), (3, .int (nI i)), (0, .ref d), (1, .ref x)]) hx hb dd_Es_reachOf_31 hl (by decide) rfl (fun ls hl => ?_)
        refine lv_aload hx hb dd_Es_reachOf_33 (lv_at hl 0 rfl) ?_
        refine gf_Es_50 E hM wi rfl dd_Es_reachOf_35 ?_
        refine lv_if_ne (tgt := 63) hx hb dd_Es_reachOf_38 (by decide) (fun h38 => ?_) (fun h38 => ?_)
        ·
          refine lv_iinc (k := 2) (v := nI (i + 1)) (lv' := [(3, .int (nI (i + 1))), (4, .ref (ad i)), (2, .int (u)), (0, .ref d), (1, .ref x)]) hx hb dd_Es_reachOf_63 hl rfl (nI_1 _) (by decide) rfl (fun ls hl => ?_)
          refine lv_goto (tgt := 9) hx hb dd_Es_reachOf_66 (by decide) ?_
          exact ih (i + 1) _ H locs ls (by omega) (rs_n hu (fun q => h38 q.1)) hM hS (lv_sub hl [2, 0, 3, 4] rfl)
        ·
          refine lv_aload hx hb dd_Es_reachOf_41 (lv_at hl 0 rfl) ?_
          refine lv_aload_n hx hb dd_Es_reachOf_43 rfl (lv_at hl 4 rfl) ?_
          refine gf_Es_53 E hM wx rfl dd_Es_reachOf_44 ?_
          refine mw_V (As := [.int (a_s)]) (rest := []) E (cc_En_isSelectedBy l D z (M) (ad i) (E0 i 0) (E0 i 1) (E0 i 2) (E0 i 3) (E0 i 4) (E0 i 5) a_s wi) ky_En_isSelectedBy kv_En_isSelectedBy tw_Es_56 hM hS wi rfl rfl rfl hl.1 rfl (Nat.le_of_ble_eq_true rfl) dd_Es_reachOf_47 (by decide) (by decide) (fun v M1 H locs hp hM hS => ?_)
          obtain ⟨rfl, hq⟩ := hp
          have hq := hq.symm
          subst hq
          refine W.eq (g2 := F0 m 50 ls [.int (zI (decide (E0 i 3 &&& (a_s ^^^ -1) = 0)))]) rfl ?_
          refine lv_if_eq (tgt := 63) hx hb dd_Es_reachOf_50 (by decide) (fun h50 => ?_) (fun h50 => ?_)
          ·
            refine lv_iinc (k := 2) (v := nI (i + 1)) (lv' := [(3, .int (nI (i + 1))), (4, .ref (ad i)), (2, .int (u)), (0, .ref d), (1, .ref x)]) hx hb dd_Es_reachOf_63 hl rfl (nI_1 _) (by decide) rfl (fun ls hl => ?_)
            refine lv_goto (tgt := 9) hx hb dd_Es_reachOf_66 (by decide) ?_
            exact ih (i + 1) _ H locs ls (by omega) (rs_n hu (fun q => of_decide_eq_false (zI_0.mp h50) q.2)) hM hS (lv_sub hl [2, 0, 3, 4] rfl)
          ·
            refine lv_iload_n hx hb dd_Es_reachOf_53 rfl (lv_at hl 1 rfl) ?_
            refine lv_iconst (v := nI 1) hx hb dd_Es_reachOf_54 (by decide) ?_
            refine lv_aload hx hb dd_Es_reachOf_55 (lv_at hl 0 rfl) ?_
            refine gf_Es_60 E hM wi rfl dd_Es_reachOf_57 ?_
            refine lv_ishl hx hb dd_Es_reachOf_60 ?_
            refine lv_ior hx hb dd_Es_reachOf_61 ?_
            refine lv_istore_n (lv' := [(2, .int (u ||| ((nI 1) <<< ((E0 i 1) &&& 31)))), (4, .ref (ad i)), (3, .int (nI i)), (0, .ref d), (1, .ref x)]) hx hb dd_Es_reachOf_62 rfl hl (by decide) rfl (fun ls hl => ?_)
            refine lv_iinc (k := 2) (v := nI (i + 1)) (lv' := [(3, .int (nI (i + 1))), (2, .int (u ||| ((nI 1) <<< ((E0 i 1) &&& 31)))), (4, .ref (ad i)), (0, .ref d), (1, .ref x)]) hx hb dd_Es_reachOf_63 hl rfl (nI_1 _) (by decide) rfl (fun ls hl => ?_)
            refine lv_goto (tgt := 9) hx hb dd_Es_reachOf_66 (by decide) ?_
            exact ih (i + 1) _ H locs ls (by omega) (rs_y hu h38 (Bool.of_not_eq_false (fun q => h50 (zI_0.mpr q)))) hM hS (lv_sub hl [1, 0, 3, 4] rfl)
  exact loop9 k 0 _ s.heap [] ls (by omega) rfl hM hS (lv_sub hl [1, 0, 2, 3] rfl)
theorem cc_Es_drop (l : Launch) (D : va_G) (z : Nat) (M : mw_M) (d el ar k mk cap : Nat) (mo : Int32) (g : Nat → Option Nat) (ad : Nat → Nat) (E0 : Nat → Nat → Int32) (n0 : Int32) (wd : M d = some (.inr (3, [.ref el, .int (nI mk)]))) (wc : M el = some (.inr (4, [.ref ar, .int (nI k), .int (mo)]))) (wg : 0 < k → M ar = some (.inl (D.1 103, cap, .inr (.inr (.inr (.inr g)))))) (hkc : k ≤ cap) (hcap : cap < 2 ^ 20) (hg : ∀ i : Nat, i < k → g i = some (ad i)) (he : ∀ i : Nat, i < k → M (ad i) = some (.inr (9, en_l (E0 i)))) (hgz : ∀ i : Nat, k ≤ i → g i = none) : mw_C l yy_Es_drop bb_Es_drop 3 (Option.some Jvm.ClassFile.FieldType.boolean) 3 72 0 0 D z M [.ref d, .int (n0)] (fun v M' => (∃ i, i < k ∧ (∀ j : Nat, j < i → E0 j 0 ≠ n0) ∧ E0 i 0 = n0 ∧ v = some (.int 1) ∧ M' el = some (.inr (4, [.ref ar, .int (nI (k - 1)), .int (mo + nI 1)])) ∧ M' ar = some (.inl (D.1 103, cap, .inr (.inr (.inr (.inr (al_rm g i k)))))) ∧ mw_fr (fun q => q = el ∨ q = ar) M M') ∨ ((∀ j : Nat, j < k → E0 j 0 ≠ n0) ∧ v = some (.int 0) ∧ M' = M)) := by
  refine mw_of (by decide) (Nat.le_of_ble_eq_true rfl) ?_
  intro p e s m below meth c ls E hr hk hnm hM hl
  have hx := E.x
  have hb := E.b
  have E : mw_E p m c bb_Es_drop 3 s _ D z "IdentityIssuer$Entries" := E
  have hl : lv_has ls 3 [(0, .ref d), (1, .int (n0))] := hl
  have hS : va_S (mw_A z) s.heap s.heap [] := va_S.rf
  have hF : mw_fr (fun q => q = el ∨ q = ar) M M := mw_fr.rf
  refine lv_iconst (v := nI 0) hx hb dd_Es_drop_0 (by decide) ?_
  refine lv_istore_n (lv' := [(2, .int (nI 0)), (0, .ref d), (1, .int (n0))]) hx hb dd_Es_drop_1 rfl hl (by decide) rfl (fun ls hl => ?_)
  have loop2 : ∀ (d9 : Nat) (i : Nat) (H : Heap) (locs : List Loc) (ls : Array Slot), i + d9 = k → (∀ j : Nat, j < i → E0 j 0 ≠ n0) → mw_at D mg_cl z M H → va_S (mw_A z) s.heap H locs → lv_has ls 3 [(2, .int (nI i)), (0, .ref d), (1, .int (n0))] → W p l e ({ frames := 3, cells := 0, slots := 0, locals := 72 } : Room) s m ([.ref d, .int (n0)] : List Value).toArray below meth c H locs (0) (0) (MQ below (mw_Q D z (fun v M' => (∃ i, i < k ∧ (∀ j : Nat, j < i → E0 j 0 ≠ n0) ∧ E0 i 0 = n0 ∧ v = some (.int 1) ∧ M' el = some (.inr (4, [.ref ar, .int (nI (k - 1)), .int (mo + nI 1)])) ∧ M' ar = some (.inl (D.1 103, cap, .inr (.inr (.inr (.inr (al_rm g i k)))))) ∧ mw_fr (fun q => q = el ∨ q = ar) M M') ∨ ((∀ j : Nat, j < k → E0 j 0 ≠ n0) ∧ v = some (.int 0) ∧ M' = M))) ([.ref d, .int (n0)] : List Value).toArray s 0 0 (mw_A z)) (F0 m 2 ls []) := by
    intro d9
    induction d9 with
    | zero =>
      intro i H locs ls hi hn hM hS hl
      refine lv_iload_n hx hb dd_Es_drop_2 rfl (lv_at hl 0 rfl) ?_
      refine lv_aload_n hx hb dd_Es_drop_3 rfl (lv_at hl 1 rfl) ?_
      refine gf_Es_12 E hM wd rfl dd_Es_drop_4 ?_
      refine mw_V (As := []) (rest := [.int (nI i)]) E (cc_AL_size l D z (M) el ar (k) mo wc (by omega)) ky_AL_size kv_AL_size tw_Es_18 hM hS wc rfl rfl rfl hl.1 rfl (Nat.le_of_ble_eq_true rfl) dd_Es_drop_7 (by decide) (by decide) (fun v M1 H locs hp hM hS => ?_)
      obtain ⟨rfl, hq⟩ := hp
      have hq := hq.symm
      subst hq
      refine W.eq (g2 := F0 m 10 ls [.int (nI k), .int (nI i)]) rfl ?_
      refine lv_icmp_ge (tgt := 48) hx hb dd_Es_drop_10 (by decide) (fun h10 => ?_) (fun h10 => ?_)
      ·
        rw [nI_leI (by omega) (by omega)] at h10
        refine lv_iconst (v := nI 0) hx hb dd_Es_drop_48 (by decide) ?_
        refine mr_z E hr hk hM hS (by decide) (by decide) (rfl) ?_ dd_Es_drop_49
        exact Or.inr ⟨fun j hj => hn j (by omega), rfl, rfl⟩
      ·
        rw [nI_leI (by omega) (by omega)] at h10
        omega
    | succ d9 ih =>
      intro i H locs ls hi hn hM hS hl
      refine lv_iload_n hx hb dd_Es_drop_2 rfl (lv_at hl 0 rfl) ?_
      refine lv_aload_n hx hb dd_Es_drop_3 rfl (lv_at hl 1 rfl) ?_
      refine gf_Es_12 E hM wd rfl dd_Es_drop_4 ?_
      refine mw_V (As := []) (rest := [.int (nI i)]) E (cc_AL_size l D z (M) el ar (k) mo wc (by omega)) ky_AL_size kv_AL_size tw_Es_18 hM hS wc rfl rfl rfl hl.1 rfl (Nat.le_of_ble_eq_true rfl) dd_Es_drop_7 (by decide) (by decide) (fun v M1 H locs hp hM hS => ?_)
      obtain ⟨rfl, hq⟩ := hp
      have hq := hq.symm
      subst hq
      refine W.eq (g2 := F0 m 10 ls [.int (nI k), .int (nI i)]) rfl ?_
      refine lv_icmp_ge (tgt := 48) hx hb dd_Es_drop_10 (by decide) (fun h10 => ?_) (fun h10 => ?_)
      ·
        rw [nI_leI (by omega) (by omega)] at h10
        omega
      ·
        rw [nI_leI (by omega) (by omega)] at h10
        refine lv_aload_n hx hb dd_Es_drop_13 rfl (lv_at hl 1 rfl) ?_
        refine gf_Es_12 E hM wd rfl dd_Es_drop_14 ?_
        refine lv_iload_n hx hb dd_Es_drop_17 rfl (lv_at hl 0 rfl) ?_
        refine mw_V (As := [.int (nI i)]) (rest := []) E (cc_AL_get l D z (M) el ar k cap mo g i (ad i) wc (wg (by omega)) hkc hcap (by omega) (hg i (by omega))) ky_AL_get kv_AL_get tw_Es_22 hM hS wc rfl rfl rfl hl.1 rfl (Nat.le_of_ble_eq_true rfl) dd_Es_drop_18 (by decide) (by decide) (fun v M1 H locs hp hM hS => ?_)
        obtain ⟨rfl, hq⟩ := hp
        have hq := hq.symm
        subst hq
        have wi : M (ad i) = some (.inr (9, [.int (E0 i 0), .int (E0 i 1), .int (E0 i 2), .int (E0 i 3), .int (E0 i 4), .int (E0 i 5)])) := he i (by omega)
        refine W.eq (g2 := F0 m 21 ls [.ref (ad i)]) rfl ?_
        refine va_castY (C := "IdentityIssuer$Entry") hx hb E.o (E.t _ tw_Es_26) (E.N.2.2.1 ("IdentityIssuer$Entry", "IdentityIssuer$Entry") (by decide)) (mw_recv E.K hM rfl wi) dd_Es_drop_21 ?_
        refine gf_Es_39 E hM wi rfl dd_Es_drop_24 ?_
        refine lv_iload_n hx hb dd_Es_drop_27 rfl (lv_at hl 2 rfl) ?_
        refine lv_icmp_ne (tgt := 42) hx hb dd_Es_drop_28 (by decide) (fun h28 => ?_) (fun h28 => ?_)
        ·
          refine lv_iinc (k := 0) (v := nI (i + 1)) (lv' := [(2, .int (nI (i + 1))), (0, .ref d), (1, .int (n0))]) hx hb dd_Es_drop_42 hl rfl (nI_1 _) (by decide) rfl (fun ls hl => ?_)
          refine lv_goto (tgt := 2) hx hb dd_Es_drop_45 (by decide) ?_
          exact ih (i + 1) H locs ls (by omega) (fun j hj => if q : j = i then q ▸ h28 else hn j (by omega)) hM hS (lv_sub hl [0, 1, 2] rfl)
        ·
          refine lv_aload_n hx hb dd_Es_drop_31 rfl (lv_at hl 1 rfl) ?_
          refine gf_Es_12 E hM wd rfl dd_Es_drop_32 ?_
          refine lv_iload_n hx hb dd_Es_drop_35 rfl (lv_at hl 0 rfl) ?_
          refine mw_V (As := [.int (nI i)]) (rest := []) E (cc_AL_remove l D z M el ar k cap mo g i (ad i) wc (wg (by omega)) hkc hcap (by omega) (es_el hg he hgz) (es_na hg he hgz wc) (hg i (by omega))) ky_AL_remove kv_AL_remove tw_Es_42 hM hS wc rfl rfl rfl hl.1 rfl (Nat.le_of_ble_eq_true rfl) dd_Es_drop_36 (by decide) (by decide) (fun v M1 H locs hp hM hS => ?_)
          obtain ⟨rfl, wc, wr, hF2⟩ := hp
          refine W.eq (g2 := F0 m 39 ls [.ref (ad i)]) rfl ?_
          refine lv_pop hx hb dd_Es_drop_39 rfl ?_
          refine lv_iconst (v := nI 1) hx hb dd_Es_drop_40 (by decide) ?_
          refine mr_z E hr hk hM hS (by decide) (by decide) (rfl) ?_ dd_Es_drop_41
          exact Or.inl ⟨i, by omega, hn, h28, rfl, wc, wr, hF2⟩
  exact loop2 k 0 s.heap [] ls (by omega) (fun j hj => absurd hj (by omega)) hM hS (lv_sub hl [0, 1, 2] rfl)
