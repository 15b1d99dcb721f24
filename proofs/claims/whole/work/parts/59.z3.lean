/-! responses: fill, copy, isLike; watchers -/
theorem cc_Rs_copy (l : Launch) (D : va_G) (z : Nat) (M : mw_M) (d cl cr b c2 r2 : Nat) (r_f r_e r_g s_f s_e s_g : Int32) (L0 ss : List Nat) (EF CF : Nat → Nat → Int32) (ent ca ce : Nat → Nat) (wd : M d = some (.inr (5, [.ref cl, .int (r_f), .int (r_e), .int (r_g)]))) (hcl : al_at D M cl cr L0) (wb : M b = some (.inr (5, [.ref c2, .int (s_f), .int (s_e), .int (s_g)]))) (hc2 : al_at D M c2 r2 (ss.map ca)) (hss : ∀ n : Nat, n ∈ ss → ct_is M EF CF ent ca ce n) (hln : ss.length ≤ 12) (hdb : d ≠ b) (hne : cl ≠ c2) (hrr : r2 = cr → r2 = D.2 200 0) : mw_C l yy_Rs_copy bb_Rs_copy 3 (Option.none : Option Jvm.ClassFile.FieldType) 7 157 12 180 D z M [.ref d, .ref b] (fun v M' => v = none ∧ M' d = some (.inr (5, [.ref cl, .int (s_f), .int (s_e), .int (s_g)])) ∧ ∃ k1, al_at D M' cl k1 (ss.map ca) ∧ mw_fr (fun q => q = d ∨ q = cl ∨ q = cr) M M' ∧ (k1 = cr ∨ M k1 = none)) := by
  refine mw_of (by decide) (Nat.le_of_ble_eq_true rfl) ?_
  intro p e s m below meth c ls E hr hk hnm hM hl
  have hx := E.x
  have hb := E.b
  have E : mw_E p m c bb_Rs_copy 3 s _ D z "IdentityIssuer$Response" := E
  have hl : lv_has ls 3 [(0, .ref d), (1, .ref b)] := hl
  have hS : va_S (mw_A z) s.heap s.heap [] := va_S.rf
  have hF : mw_fr (fun q => q = d ∨ q = cl ∨ q = cr) M M := mw_fr.rf
  obtain ⟨mo1, wc⟩ := hcl.cell
  obtain ⟨mo2, wq⟩ := hc2.cell
  refine lv_aload_n hx hb dd_Rs_copy_0 rfl (lv_at hl 0 rfl) ?_
  refine gf_Rs_12 E hM wd rfl dd_Rs_copy_1 ?_
  refine mw_V (As := []) (rest := []) E (la_clear l D z (M) hcl) ky_AL_clear kv_AL_clear tw_Rs_18 hM hS wc rfl rfl rfl hl.1 rfl (Nat.le_of_ble_eq_true rfl) dd_Rs_copy_4 (by first | decide | exact ⟨by dsimp only; omega, by dsimp only; omega⟩) (by decide) (fun v M1 H locs hp hM hS => ?_)
  obtain ⟨rfl, hL2, hF2⟩ := hp
  have hc2 := hc2.fr hL2.1 hF2 (fun q => q.elim (Ne.symm hne) (hcl.nr wq)) (fun y => (fun q => q.elim (hc2.nr wc).symm (fun q => y (hc2.zr (hrr q)))))
  have hss := fun n hn => (hss n hn).fr hF2 (fun q9 ci vs w0 hc => (fun q => q.elim (mw_ne w0 wc (fun e9 => by cases e9; exact absurd hc (by decide))) (hcl.nr w0)))
  have wd := hF2.at wd (fun q => q.elim (mw_ne wd wc (fun q => by cases q)) (hcl.nr wd))
  have wb := hF2.at wb (fun q => q.elim (mw_ne wb wc (fun q => by cases q)) (hcl.nr wb))
  have wq := hF2.at wq (fun q => q.elim (Ne.symm hne) (hcl.nr wq))
  have hcl := hL2
  obtain ⟨mo9, wc⟩ := hcl.cell
  have hF := hF.tr2 hF2 (fun q h => Or.inl (Or.inr h))
  refine W.eq (g2 := F0 m 7 ls []) rfl ?_
  refine lv_iconst (v := nI 0) hx hb dd_Rs_copy_7 (by decide) ?_
  refine lv_istore_n (lv' := [(2, .int (nI 0)), (0, .ref d), (1, .ref b)]) hx hb dd_Rs_copy_8 rfl hl (by decide) rfl (fun ls hl => ?_)
  have loop9 : ∀ (d9 : Nat) (i k1 : Nat) (M1 : mw_M) (H : Heap) (locs : List Loc) (ls : Array Slot), i + d9 = ss.length → al_at D M1 cl k1 ((ss.take i).map ca) → al_at D M1 c2 r2 (ss.map ca) → M1 d = some (.inr (5, [.ref cl, .int (r_f), .int (r_e), .int (r_g)])) → M1 b = some (.inr (5, [.ref c2, .int (s_f), .int (s_e), .int (s_g)])) → (∀ n : Nat, n ∈ ss → ct_is M1 EF CF ent ca ce n) → mw_fr (fun q => q = d ∨ q = cl ∨ q = cr) M M1 → (k1 = cr ∨ M k1 = none) → (r2 = k1 → r2 = D.2 200 0) → mw_at D mg_cl z M1 H → va_S (mw_A z) s.heap H locs → lv_has ls 3 [(2, .int (nI i)), (0, .ref d), (1, .ref b)] → W p l e ({ frames := 7, cells := 12, slots := 180, locals := 157 } : Room) s m ([.ref d, .ref b] : List Value).toArray below meth c H locs (i) (15 * i) (MQ below (mw_Q D z (fun v M' => v = none ∧ M' d = some (.inr (5, [.ref cl, .int (s_f), .int (s_e), .int (s_g)])) ∧ ∃ k1, al_at D M' cl k1 (ss.map ca) ∧ mw_fr (fun q => q = d ∨ q = cl ∨ q = cr) M M' ∧ (k1 = cr ∨ M k1 = none))) ([.ref d, .ref b] : List Value).toArray s 12 180 (mw_A z)) (F0 m 9 ls []) := by
    intro d9
    induction d9 with
    | zero =>
      intro i k1 M1 H locs ls hi hcl hc2 wd wb hss hF har hrr hM hS hl
      obtain ⟨mo1, wc⟩ := hcl.cell
      obtain ⟨mo2, wq⟩ := hc2.cell
      refine lv_iload_n hx hb dd_Rs_copy_9 rfl (lv_at hl 0 rfl) ?_
      refine lv_aload_n hx hb dd_Rs_copy_10 rfl (lv_at hl 2 rfl) ?_
      refine gf_Rs_12 E hM wb rfl dd_Rs_copy_11 ?_
      refine mw_V (As := []) (rest := [.int (nI i)]) E (la_size (k := ss.length) l D z (M1) hc2 (List.length_map _)) ky_AL_size kv_AL_size tw_Rs_26 hM hS wq rfl rfl rfl hl.1 rfl (Nat.le_of_ble_eq_true rfl) dd_Rs_copy_14 (by first | decide | exact ⟨by dsimp only; omega, by dsimp only; omega⟩) (by decide) (fun v M1 H locs hp hM hS => ?_)
      obtain ⟨rfl, hq⟩ := hp
      have hq := hq.symm
      subst hq
      refine W.eq (g2 := F0 m 17 ls [.int (nI ss.length), .int (nI i)]) rfl ?_
      refine lv_icmp_ge (tgt := 45) hx hb dd_Rs_copy_17 (by decide) (fun h17 => ?_) (fun h17 => ?_)
      ·
        rw [nI_leI (by omega) (by omega)] at h17
        refine lv_aload_n hx hb dd_Rs_copy_45 rfl (lv_at hl 1 rfl) ?_
        refine lv_aload_n hx hb dd_Rs_copy_46 rfl (lv_at hl 2 rfl) ?_
        refine gf_Rs_64 E hM wb rfl dd_Rs_copy_47 ?_
        refine pf_Rs_64 E hM hS wd (Nat.le_of_ble_eq_true rfl) dd_Rs_copy_50 (fun H locs hM hS => ?_)
        have hM : mw_at D mg_cl z (va_up M1 d (some (.inr (5, [.ref cl, .int (s_f), .int (r_e), .int (r_g)])))) H := hM
        obtain ⟨M1, hM1⟩ : ∃ M9 : mw_M, M9 = va_up M1 d (some (.inr (5, [.ref cl, .int (s_f), .int (r_e), .int (r_g)]))) := ⟨_, rfl⟩
        rw [← hM1] at hM
        have hcl := hcl.up hM1 wd (mw_ne wd wc (fun q => by cases q))
        have hc2 := hc2.up hM1 wd (mw_ne wd wq (fun q => by cases q))
        have hss := fun n hn => (hss n hn).up hM1 wd (by decide)
        have wc := mw_uu hM1 wc (mw_ne wc wd (fun q => by cases q))
        have wb := mw_uu hM1 wb (Ne.symm hdb)
        have wq := mw_uu hM1 wq (mw_ne wq wd (fun q => by cases q))
        have wd := mw_us hM1
        have hF := mw_fu hM1 hF (Or.inl rfl)
        refine lv_aload_n hx hb dd_Rs_copy_53 rfl (lv_at hl 1 rfl) ?_
        refine lv_aload_n hx hb dd_Rs_copy_54 rfl (lv_at hl 2 rfl) ?_
        refine gf_Rs_68 E hM wb rfl dd_Rs_copy_55 ?_
        refine pf_Rs_68 E hM hS wd (Nat.le_of_ble_eq_true rfl) dd_Rs_copy_58 (fun H locs hM hS => ?_)
        have hM : mw_at D mg_cl z (va_up M1 d (some (.inr (5, [.ref cl, .int (s_f), .int (s_e), .int (r_g)])))) H := hM
        obtain ⟨M1, hM1⟩ : ∃ M9 : mw_M, M9 = va_up M1 d (some (.inr (5, [.ref cl, .int (s_f), .int (s_e), .int (r_g)]))) := ⟨_, rfl⟩
        rw [← hM1] at hM
        have hcl := hcl.up hM1 wd (mw_ne wd wc (fun q => by cases q))
        have hc2 := hc2.up hM1 wd (mw_ne wd wq (fun q => by cases q))
        have hss := fun n hn => (hss n hn).up hM1 wd (by decide)
        have wc := mw_uu hM1 wc (mw_ne wc wd (fun q => by cases q))
        have wb := mw_uu hM1 wb (Ne.symm hdb)
        have wq := mw_uu hM1 wq (mw_ne wq wd (fun q => by cases q))
        have wd := mw_us hM1
        have hF := mw_fu hM1 hF (Or.inl rfl)
        refine lv_aload_n hx hb dd_Rs_copy_61 rfl (lv_at hl 1 rfl) ?_
        refine lv_aload_n hx hb dd_Rs_copy_62 rfl (lv_at hl 2 rfl) ?_
        refine gf_Rs_72 E hM wb rfl dd_Rs_copy_63 ?_
        refine pf_Rs_72 E hM hS wd (Nat.le_of_ble_eq_true rfl) dd_Rs_copy_66 (fun H locs hM hS => ?_)
        have hM : mw_at D mg_cl z (va_up M1 d (some (.inr (5, [.ref cl, .int (s_f), .int (s_e), .int (s_g)])))) H := hM
        obtain ⟨M1, hM1⟩ : ∃ M9 : mw_M, M9 = va_up M1 d (some (.inr (5, [.ref cl, .int (s_f), .int (s_e), .int (s_g)]))) := ⟨_, rfl⟩
        rw [← hM1] at hM
        have hcl := hcl.up hM1 wd (mw_ne wd wc (fun q => by cases q))
        have hc2 := hc2.up hM1 wd (mw_ne wd wq (fun q => by cases q))
        have hss := fun n hn => (hss n hn).up hM1 wd (by decide)
        have wc := mw_uu hM1 wc (mw_ne wc wd (fun q => by cases q))
        have wb := mw_uu hM1 wb (Ne.symm hdb)
        have wq := mw_uu hM1 wq (mw_ne wq wd (fun q => by cases q))
        have wd := mw_us hM1
        have hF := mw_fu hM1 hF (Or.inl rfl)
        refine mr_v E hr hk hM hS (by omega) (by omega) ?_ dd_Rs_copy_69
        rw [show i = ss.length by omega, List.take_length] at hcl
        exact ⟨rfl, wd, k1, hcl, hF, har⟩
      ·
        rw [nI_leI (by omega) (by omega)] at h17
        omega
    | succ d9 ih =>
      intro i k1 M1 H locs ls hi hcl hc2 wd wb hss hF har hrr hM hS hl
      obtain ⟨mo1, wc⟩ := hcl.cell
      obtain ⟨mo2, wq⟩ := hc2.cell
      refine lv_iload_n hx hb dd_Rs_copy_9 rfl (lv_at hl 0 rfl) ?_
      refine lv_aload_n hx hb dd_Rs_copy_10 rfl (lv_at hl 2 rfl) ?_
      refine gf_Rs_12 E hM wb rfl dd_Rs_copy_11 ?_
      refine mw_V (As := []) (rest := [.int (nI i)]) E (la_size (k := ss.length) l D z (M1) hc2 (List.length_map _)) ky_AL_size kv_AL_size tw_Rs_26 hM hS wq rfl rfl rfl hl.1 rfl (Nat.le_of_ble_eq_true rfl) dd_Rs_copy_14 (by first | decide | exact ⟨by dsimp only; omega, by dsimp only; omega⟩) (by decide) (fun v M1 H locs hp hM hS => ?_)
      obtain ⟨rfl, hq⟩ := hp
      have hq := hq.symm
      subst hq
      refine W.eq (g2 := F0 m 17 ls [.int (nI ss.length), .int (nI i)]) rfl ?_
      refine lv_icmp_ge (tgt := 45) hx hb dd_Rs_copy_17 (by decide) (fun h17 => ?_) (fun h17 => ?_)
      ·
        rw [nI_leI (by omega) (by omega)] at h17
        omega
      ·
        rw [nI_leI (by omega) (by omega)] at h17
        refine lv_aload_n hx hb dd_Rs_copy_20 rfl (lv_at hl 1 rfl) ?_
        refine gf_Rs_12 E hM wd rfl dd_Rs_copy_21 ?_
        refine lv_aload_n hx hb dd_Rs_copy_24 rfl (lv_at hl 2 rfl) ?_
        refine gf_Rs_12 E hM wb rfl dd_Rs_copy_25 ?_
        refine lv_iload_n hx hb dd_Rs_copy_28 rfl (lv_at hl 0 rfl) ?_
        obtain ⟨sn, hs⟩ : ∃ sn, ss[i]? = some sn := ⟨_, List.getElem?_eq_getElem (by omega)⟩
        refine mw_V (As := [.int (nI i)]) (rest := [.ref cl]) E (la_get (y := ca sn) l D z (M1) hc2 (ls_map hs)) ky_AL_get kv_AL_get tw_Rs_30 hM hS wq rfl rfl rfl hl.1 rfl (Nat.le_of_ble_eq_true rfl) dd_Rs_copy_29 (by first | decide | exact ⟨by dsimp only; omega, by dsimp only; omega⟩) (by decide) (fun v M1 H locs hp hM hS => ?_)
        obtain ⟨rfl, hq⟩ := hp
        have hq := hq.symm
        subst hq
        have wn : M1 (ca sn) = some (.inr (11, [.ref (ent (ce sn)), .int (nI sn), .int (CF sn 2), .int (CF sn 3), .int (CF sn 4)])) := (hss sn (List.mem_of_getElem? hs)).1
        have we : M1 (ent (ce sn)) = some (.inr (9, [.int (EF (ce sn) 0), .int (EF (ce sn) 1), .int (EF (ce sn) 2), .int (EF (ce sn) 3), .int (EF (ce sn) 4), .int (EF (ce sn) 5)])) := (hss sn (List.mem_of_getElem? hs)).2
        refine W.eq (g2 := F0 m 32 ls [.ref (ca sn), .ref cl]) rfl ?_
        refine va_castY (C := "IdentityIssuer$Certificate") hx hb E.o (E.t _ tw_Rs_34) (E.N.2.2.1 ("IdentityIssuer$Certificate", "IdentityIssuer$Certificate") (by decide)) (mw_recv E.K hM rfl wn) dd_Rs_copy_32 ?_
        refine mw_V (As := [.ref (ca sn)]) (rest := []) E (la_add (y := ca sn) l D z (M1) hcl (by rw [List.length_map, List.length_take]; omega) (ct_els (fun n hn => hss n (List.mem_of_mem_take hn))) wn rfl (by decide +kernel) (by decide)) ky_AL_add kv_AL_add tw_Rs_50 hM hS wc rfl rfl rfl hl.1 rfl (Nat.le_of_ble_eq_true rfl) dd_Rs_copy_35 (⟨(by omega : i + 1 ≤ 12), (by omega : 15 * i + 15 ≤ 180)⟩) (by decide) (fun v M1 H locs hp hM hS => ?_)
        obtain ⟨rfl, k2, hL2, hF2, har2⟩ := hp
        have hr9_0 := row_new hc2 har2 hrr
        have hc2 := hc2.fr hL2.1 hF2 (fun q => q.elim (Ne.symm hne) (hcl.nr wq)) (fun y => (fun q => q.elim (hc2.nr wc).symm (fun q => y (hc2.zr (hrr q)))))
        have hss := fun n hn => (hss n hn).fr hF2 (fun q9 ci vs w0 hc => (fun q => q.elim (mw_ne w0 wc (fun e9 => by cases e9; exact absurd hc (by decide))) (hcl.nr w0)))
        have wd := hF2.at wd (fun q => q.elim (mw_ne wd wc (fun q => by cases q)) (hcl.nr wd))
        have wb := hF2.at wb (fun q => q.elim (mw_ne wb wc (fun q => by cases q)) (hcl.nr wb))
        have wq := hF2.at wq (fun q => q.elim (Ne.symm hne) (hcl.nr wq))
        have wn := hF2.at wn (fun q => q.elim (mw_ne wn wc (fun q => by cases q)) (hcl.nr wn))
        have we := hF2.at we (fun q => q.elim (mw_ne we wc (fun q => by cases q)) (hcl.nr we))
        have hrr := hr9_0
        have hcl := hL2
        rw [show (ss.take i).map ca ++ [ca sn] = (ss.take (i + 1)).map ca by rw [ls_take hs, List.map_append]; rfl] at hcl
        obtain ⟨mo9, wc⟩ := hcl.cell
        have har3 := row_tr hF har har2
        have hF := hF.tr2 hF2 (fun q h => h.elim (fun e => Or.inl (Or.inr (Or.inl e))) (fun e => har.elim (fun e1 => Or.inl (Or.inr (Or.inr (e.trans e1)))) (fun y => Or.inr (by rw [e]; exact y))))
        have har := har3
        refine W.eq (g2 := F0 m 38 ls [.int (1)]) rfl ?_
        refine lv_pop hx hb dd_Rs_copy_38 rfl ?_
        refine lv_iinc (k := 0) (v := nI (i + 1)) (lv' := [(2, .int (nI (i + 1))), (0, .ref d), (1, .ref b)]) hx hb dd_Rs_copy_39 hl rfl (nI_1 _) (by decide) rfl (fun ls hl => ?_)
        refine lv_goto (tgt := 9) hx hb dd_Rs_copy_42 (by decide) ?_
        refine W.widen (k := i + 1) (n := 15 * (i + 1)) (by omega) (by omega) ?_
        exact ih (i + 1) _ M1 H locs ls (by omega) hcl hc2 wd wb hss hF har hrr hM hS (lv_sub hl [0, 1, 2] rfl)
  exact loop9 ss.length 0 cr M1 H locs ls (by omega) hcl hc2 wd wb hss hF (Or.inl rfl) hrr hM hS (lv_sub hl [0, 1, 2] rfl)
theorem cc_Rs_fill (l : Launch) (D : va_G) (z : Nat) (M : mw_M) (d cl cr x kl kr : Nat) (r_f r_e r_g : Int32) (a_i a_s a_f a_e a_g : Int32) (sel clk : Int32) (L0 ss : List Nat) (EF CF : Nat → Nat → Int32) (ent ca ce : Nat → Nat) (wd : M d = some (.inr (5, [.ref cl, .int (r_f), .int (r_e), .int (r_g)]))) (hcl : al_at D M cl cr L0) (wx : M x = some (.inr (10, [.int (a_i), .ref kl, .int (a_s), .int (a_f), .int (a_e), .int (a_g)]))) (hkl : al_at D M kl kr (ss.map ca)) (hss : ∀ n : Nat, n ∈ ss → ct_is M EF CF ent ca ce n) (hln : ss.length ≤ 12) (hne : cl ≠ kl) (hrr : kr = cr → kr = D.2 200 0) : mw_C l yy_Rs_fill bb_Rs_fill 7 (Option.none : Option Jvm.ClassFile.FieldType) 7 157 12 180 D z M [.ref d, .ref x, .int (sel), .int (clk)] (fun v M' => v = none ∧ M' d = some (.inr (5, [.ref cl, .int (if (ss.filter (fl_p EF CF ce sel clk)).length = 0 then nI 0 else a_f), .int (if (ss.filter (fl_p EF CF ce sel clk)).length = 0 then nI 0 else a_e), .int (fr_or EF ce (ss.filter (fl_p EF CF ce sel clk)) &&& a_g)])) ∧ ∃ k1, al_at D M' cl k1 ((ss.filter (fl_p EF CF ce sel clk)).map ca) ∧ mw_fr (fun q => q = d ∨ q = cl ∨ q = cr) M M' ∧ (k1 = cr ∨ M k1 = none)) := by
  refine mw_of (by decide) (Nat.le_of_ble_eq_true rfl) ?_
  intro p e s m below meth c ls E hr hk hnm hM hl
  have hx := E.x
  have hb := E.b
  have E : mw_E p m c bb_Rs_fill 7 s _ D z "IdentityIssuer$Response" := E
  have hl : lv_has ls 7 [(0, .ref d), (1, .ref x), (2, .int (sel)), (3, .int (clk))] := hl
  have hS : va_S (mw_A z) s.heap s.heap [] := va_S.rf
  have hF : mw_fr (fun q => q = d ∨ q = cl ∨ q = cr) M M := mw_fr.rf
  obtain ⟨mo1, wc⟩ := hcl.cell
  obtain ⟨mo2, wk⟩ := hkl.cell
  refine lv_aload_n hx hb dd_Rs_fill_0 rfl (lv_at hl 0 rfl) ?_
  refine gf_Rs_12 E hM wd rfl dd_Rs_fill_1 ?_
  refine mw_V (As := []) (rest := []) E (la_clear l D z (M) hcl) ky_AL_clear kv_AL_clear tw_Rs_18 hM hS wc rfl rfl rfl hl.1 rfl (Nat.le_of_ble_eq_true rfl) dd_Rs_fill_4 (by first | decide | exact ⟨by dsimp only; omega, by dsimp only; omega⟩) (by decide) (fun v M1 H locs hp hM hS => ?_)
  obtain ⟨rfl, hL2, hF2⟩ := hp
  have hkl := hkl.fr hL2.1 hF2 (fun q => q.elim (Ne.symm hne) (hcl.nr wk)) (fun y => (fun q => q.elim (hkl.nr wc).symm (fun q => y (hkl.zr (hrr q)))))
  have hss := fun n hn => (hss n hn).fr hF2 (fun q9 ci vs w0 hc => (fun q => q.elim (mw_ne w0 wc (fun e9 => by cases e9; exact absurd hc (by decide))) (hcl.nr w0)))
  have wd := hF2.at wd (fun q => q.elim (mw_ne wd wc (fun q => by cases q)) (hcl.nr wd))
  have wx := hF2.at wx (fun q => q.elim (mw_ne wx wc (fun q => by cases q)) (hcl.nr wx))
  have wk := hF2.at wk (fun q => q.elim (Ne.symm hne) (hcl.nr wk))
  have hcl := hL2
  obtain ⟨mo9, wc⟩ := hcl.cell
  have hF := hF.tr2 hF2 (fun q h => Or.inl (Or.inr h))
  refine W.eq (g2 := F0 m 7 ls []) rfl ?_
  refine lv_iconst (v := nI 0) hx hb dd_Rs_fill_7 (by decide) ?_
  refine lv_istore (lv' := [(4, .int (nI 0)), (0, .ref d), (1, .ref x), (2, .int (sel)), (3, .int (clk))]) hx hb dd_Rs_fill_8 hl (by decide) rfl (fun ls hl => ?_)
  refine lv_iconst (v := nI 0) hx hb dd_Rs_fill_10 (by decide) ?_
  refine lv_istore (lv' := [(5, .int (nI 0)), (4, .int (nI 0)), (0, .ref d), (1, .ref x), (2, .int (sel)), (3, .int (clk))]) hx hb dd_Rs_fill_11 hl (by decide) rfl (fun ls hl => ?_)
  have loop13 : ∀ (d9 : Nat) (i k1 : Nat) (u : Int32) (M1 : mw_M) (H : Heap) (locs : List Loc) (ls : Array Slot), i + d9 = ss.length → u = fr_or EF ce ((ss.take i).filter (fl_p EF CF ce sel clk)) → al_at D M1 cl k1 (((ss.take i).filter (fl_p EF CF ce sel clk)).map ca) → al_at D M1 kl kr (ss.map ca) → M1 d = some (.inr (5, [.ref cl, .int (r_f), .int (r_e), .int (r_g)])) → M1 x = some (.inr (10, [.int (a_i), .ref kl, .int (a_s), .int (a_f), .int (a_e), .int (a_g)])) → (∀ n : Nat, n ∈ ss → ct_is M1 EF CF ent ca ce n) → mw_fr (fun q => q = d ∨ q = cl ∨ q = cr) M M1 → (k1 = cr ∨ M k1 = none) → (kr = k1 → kr = D.2 200 0) → mw_at D mg_cl z M1 H → va_S (mw_A z) s.heap H locs → lv_has ls 7 [(5, .int (nI i)), (4, .int (u)), (0, .ref d), (1, .ref x), (2, .int (sel)), (3, .int (clk))] → W p l e ({ frames := 7, cells := 12, slots := 180, locals := 157 } : Room) s m ([.ref d, .ref x, .int (sel), .int (clk)] : List Value).toArray below meth c H locs (i) (15 * i) (MQ below (mw_Q D z (fun v M' => v = none ∧ M' d = some (.inr (5, [.ref cl, .int (if (ss.filter (fl_p EF CF ce sel clk)).length = 0 then nI 0 else a_f), .int (if (ss.filter (fl_p EF CF ce sel clk)).length = 0 then nI 0 else a_e), .int (fr_or EF ce (ss.filter (fl_p EF CF ce sel clk)) &&& a_g)])) ∧ ∃ k1, al_at D M' cl k1 ((ss.filter (fl_p EF CF ce sel clk)).map ca) ∧ mw_fr (fun q => q = d ∨ q = cl ∨ q = cr) M M' ∧ (k1 = cr ∨ M k1 = none))) ([.ref d, .ref x, .int (sel), .int (clk)] : List Value).toArray s 12 180 (mw_A z)) (F0 m 13 ls []) := by
    intro d9
    induction d9 with
    | zero =>
      intro i k1 u M1 H locs ls hi hu hcl hkl wd wx hss hF har hrr hM hS hl
      obtain ⟨mo1, wc⟩ := hcl.cell
      obtain ⟨mo2, wk⟩ := hkl.cell
      refine lv_iload hx hb dd_Rs_fill_13 (lv_at hl 0 rfl) ?_
      refine lv_aload_n hx hb dd_Rs_fill_15 rfl (lv_at hl 3 rfl) ?_
      refine gf_Rs_21 E hM wx rfl dd_Rs_fill_16 ?_
      refine mw_V (As := []) (rest := [.int (nI i)]) E (la_size (k := ss.length) l D z (M1) hkl (List.length_map _)) ky_AL_size kv_AL_size tw_Rs_26 hM hS wk rfl rfl rfl hl.1 rfl (Nat.le_of_ble_eq_true rfl) dd_Rs_fill_19 (by first | decide | exact ⟨by dsimp only; omega, by dsimp only; omega⟩) (by decide) (fun v M1 H locs hp hM hS => ?_)
      obtain ⟨rfl, hq⟩ := hp
      have hq := hq.symm
      subst hq
      refine W.eq (g2 := F0 m 22 ls [.int (nI ss.length), .int (nI i)]) rfl ?_
      refine lv_icmp_ge (tgt := 89) hx hb dd_Rs_fill_22 (by decide) (fun h22 => ?_) (fun h22 => ?_)
      ·
        rw [nI_leI (by omega) (by omega)] at h22
        rw [show i = ss.length by omega, List.take_length] at hcl hu
        refine lv_aload_n hx hb dd_Rs_fill_89 rfl (lv_at hl 2 rfl) ?_
        refine gf_Rs_12 E hM wd rfl dd_Rs_fill_90 ?_
        refine mw_V (As := []) (rest := []) E (la_empty (k := (ss.filter (fl_p EF CF ce sel clk)).length) l D z (M1) hcl (List.length_map _)) ky_AL_isEmpty kv_AL_isEmpty tw_Rs_57 hM hS wc rfl rfl rfl hl.1 rfl (Nat.le_of_ble_eq_true rfl) dd_Rs_fill_93 (by first | decide | exact ⟨by dsimp only; omega, by dsimp only; omega⟩) (by decide) (fun v M1 H locs hp hM hS => ?_)
        obtain ⟨rfl, hq⟩ := hp
        have hq := hq.symm
        subst hq
        refine W.eq (g2 := F0 m 96 ls [.int (zI (decide ((ss.filter (fl_p EF CF ce sel clk)).length = 0)))]) rfl ?_
        refine lv_istore (lv' := [(5, .int (zI (decide ((ss.filter (fl_p EF CF ce sel clk)).length = 0)))), (4, .int (u)), (0, .ref d), (1, .ref x), (2, .int (sel)), (3, .int (clk))]) hx hb dd_Rs_fill_96 hl (by decide) rfl (fun ls hl => ?_)
        refine lv_aload_n hx hb dd_Rs_fill_98 rfl (lv_at hl 2 rfl) ?_
        refine lv_iload hx hb dd_Rs_fill_99 (lv_at hl 0 rfl) ?_
        refine lv_if_eq (tgt := 108) hx hb dd_Rs_fill_101 (by decide) (fun h101 => ?_) (fun h101 => ?_)
        ·
          refine lv_aload_n hx hb dd_Rs_fill_108 rfl (lv_at hl 3 rfl) ?_
          refine gf_Rs_61 E hM wx rfl dd_Rs_fill_109 ?_
          refine pf_Rs_64 E hM hS wd (Nat.le_of_ble_eq_true rfl) dd_Rs_fill_112 (fun H locs hM hS => ?_)
          have hM : mw_at D mg_cl z (va_up M1 d (some (.inr (5, [.ref cl, .int (a_f), .int (r_e), .int (r_g)])))) H := hM
          obtain ⟨M1, hM1⟩ : ∃ M9 : mw_M, M9 = va_up M1 d (some (.inr (5, [.ref cl, .int (a_f), .int (r_e), .int (r_g)]))) := ⟨_, rfl⟩
          rw [← hM1] at hM
          have hcl := hcl.up hM1 wd (mw_ne wd wc (fun q => by cases q))
          have hkl := hkl.up hM1 wd (mw_ne wd wk (fun q => by cases q))
          have hss := fun n hn => (hss n hn).up hM1 wd (by decide)
          have wc := mw_uu hM1 wc (mw_ne wc wd (fun q => by cases q))
          have wx := mw_uu hM1 wx (mw_ne wx wd (fun q => by cases q))
          have wk := mw_uu hM1 wk (mw_ne wk wd (fun q => by cases q))
          have wd := mw_us hM1
          have hF := mw_fu hM1 hF (Or.inl rfl)
          refine lv_aload_n hx hb dd_Rs_fill_115 rfl (lv_at hl 2 rfl) ?_
          refine lv_iload hx hb dd_Rs_fill_116 (lv_at hl 0 rfl) ?_
          refine lv_if_eq (tgt := 125) hx hb dd_Rs_fill_118 (by decide) (fun h118 => ?_) (fun h118 => ?_)
          ·
            refine lv_aload_n hx hb dd_Rs_fill_125 rfl (lv_at hl 3 rfl) ?_
            refine gf_Rs_65 E hM wx rfl dd_Rs_fill_126 ?_
            refine pf_Rs_68 E hM hS wd (Nat.le_of_ble_eq_true rfl) dd_Rs_fill_129 (fun H locs hM hS => ?_)
            have hM : mw_at D mg_cl z (va_up M1 d (some (.inr (5, [.ref cl, .int (a_f), .int (a_e), .int (r_g)])))) H := hM
            obtain ⟨M1, hM1⟩ : ∃ M9 : mw_M, M9 = va_up M1 d (some (.inr (5, [.ref cl, .int (a_f), .int (a_e), .int (r_g)]))) := ⟨_, rfl⟩
            rw [← hM1] at hM
            have hcl := hcl.up hM1 wd (mw_ne wd wc (fun q => by cases q))
            have hkl := hkl.up hM1 wd (mw_ne wd wk (fun q => by cases q))
            have hss := fun n hn => (hss n hn).up hM1 wd (by decide)
            have wc := mw_uu hM1 wc (mw_ne wc wd (fun q => by cases q))
            have wx := mw_uu hM1 wx (mw_ne wx wd (fun q => by cases q))
            have wk := mw_uu hM1 wk (mw_ne wk wd (fun q => by cases q))
            have wd := mw_us hM1
            have hF := mw_fu hM1 hF (Or.inl rfl)
            refine lv_aload_n hx hb dd_Rs_fill_132 rfl (lv_at hl 2 rfl) ?_
            refine lv_iload hx hb dd_Rs_fill_133 (lv_at hl 1 rfl) ?_
            refine lv_aload_n hx hb dd_Rs_fill_135 rfl (lv_at hl 3 rfl) ?_
            refine gf_Rs_69 E hM wx rfl dd_Rs_fill_136 ?_
            refine lv_iand hx hb dd_Rs_fill_139 ?_
            refine pf_Rs_72 E hM hS wd (Nat.le_of_ble_eq_true rfl) dd_Rs_fill_140 (fun H locs hM hS => ?_)
            have hM : mw_at D mg_cl z (va_up M1 d (some (.inr (5, [.ref cl, .int (a_f), .int (a_e), .int (u &&& a_g)])))) H := hM
            obtain ⟨M1, hM1⟩ : ∃ M9 : mw_M, M9 = va_up M1 d (some (.inr (5, [.ref cl, .int (a_f), .int (a_e), .int (u &&& a_g)]))) := ⟨_, rfl⟩
            rw [← hM1] at hM
            have hcl := hcl.up hM1 wd (mw_ne wd wc (fun q => by cases q))
            have hkl := hkl.up hM1 wd (mw_ne wd wk (fun q => by cases q))
            have hss := fun n hn => (hss n hn).up hM1 wd (by decide)
            have wc := mw_uu hM1 wc (mw_ne wc wd (fun q => by cases q))
            have wx := mw_uu hM1 wx (mw_ne wx wd (fun q => by cases q))
            have wk := mw_uu hM1 wk (mw_ne wk wd (fun q => by cases q))
            have wd := mw_us hM1
            have hF := mw_fu hM1 hF (Or.inl rfl)
            refine mr_v E hr hk hM hS (by omega) (by omega) ?_ dd_Rs_fill_143
            rw [hu] at wd
            exact ⟨rfl, by rw [if_neg (of_decide_eq_false (zI_0.mp h101)), if_neg (of_decide_eq_false (zI_0.mp h101))]; exact wd, k1, hcl, hF, har⟩
          ·
            exact absurd h101 h118
        ·
          refine lv_iconst (v := nI 0) hx hb dd_Rs_fill_104 (by decide) ?_
          refine lv_goto (tgt := 112) hx hb dd_Rs_fill_105 (by decide) ?_
          refine pf_Rs_64 E hM hS wd (Nat.le_of_ble_eq_true rfl) dd_Rs_fill_112 (fun H locs hM hS => ?_)
          have hM : mw_at D mg_cl z (va_up M1 d (some (.inr (5, [.ref cl, .int (nI 0), .int (r_e), .int (r_g)])))) H := hM
          obtain ⟨M1, hM1⟩ : ∃ M9 : mw_M, M9 = va_up M1 d (some (.inr (5, [.ref cl, .int (nI 0), .int (r_e), .int (r_g)]))) := ⟨_, rfl⟩
          rw [← hM1] at hM
          have hcl := hcl.up hM1 wd (mw_ne wd wc (fun q => by cases q))
          have hkl := hkl.up hM1 wd (mw_ne wd wk (fun q => by cases q))
          have hss := fun n hn => (hss n hn).up hM1 wd (by decide)
          have wc := mw_uu hM1 wc (mw_ne wc wd (fun q => by cases q))
          have wx := mw_uu hM1 wx (mw_ne wx wd (fun q => by cases q))
          have wk := mw_uu hM1 wk (mw_ne wk wd (fun q => by cases q))
          have wd := mw_us hM1
          have hF := mw_fu hM1 hF (Or.inl rfl)
          refine lv_aload_n hx hb dd_Rs_fill_115 rfl (lv_at hl 2 rfl) ?_
          refine lv_iload hx hb dd_Rs_fill_116 (lv_at hl 0 rfl) ?_
          refine lv_if_eq (tgt := 125) hx hb dd_Rs_fill_118 (by decide) (fun h118 => ?_) (fun h118 => ?_)
          ·
            exact absurd h118 h101
          ·
            refine lv_iconst (v := nI 0) hx hb dd_Rs_fill_121 (by decide) ?_
            refine lv_goto (tgt := 129) hx hb dd_Rs_fill_122 (by decide) ?_
            refine pf_Rs_68 E hM hS wd (Nat.le_of_ble_eq_true rfl) dd_Rs_fill_129 (fun H locs hM hS => ?_)
            have hM : mw_at D mg_cl z (va_up M1 d (some (.inr (5, [.ref cl, .int (nI 0), .int (nI 0), .int (r_g)])))) H := hM
            obtain ⟨M1, hM1⟩ : ∃ M9 : mw_M, M9 = va_up M1 d (some (.inr (5, [.ref cl, .int (nI 0), .int (nI 0), .int (r_g)]))) := ⟨_, rfl⟩
            rw [← hM1] at hM
            have hcl := hcl.up hM1 wd (mw_ne wd wc (fun q => by cases q))
            have hkl := hkl.up hM1 wd (mw_ne wd wk (fun q => by cases q))
            have hss := fun n hn => (hss n hn).up hM1 wd (by decide)
            have wc := mw_uu hM1 wc (mw_ne wc wd (fun q => by cases q))
            have wx := mw_uu hM1 wx (mw_ne wx wd (fun q => by cases q))
            have wk := mw_uu hM1 wk (mw_ne wk wd (fun q => by cases q))
            have wd := mw_us hM1
            have hF := mw_fu hM1 hF (Or.inl rfl)
            refine lv_aload_n hx hb dd_Rs_fill_132 rfl (lv_at hl 2 rfl) ?_
            refine lv_iload hx hb dd_Rs_fill_133 (lv_at hl 1 rfl) ?_
            refine lv_aload_n hx hb dd_Rs_fill_135 rfl (lv_at hl 3 rfl) ?_
            refine gf_Rs_69 E hM wx rfl dd_Rs_fill_136 ?_
            refine lv_iand hx hb dd_Rs_fill_139 ?_
            refine pf_Rs_72 E hM hS wd (Nat.le_of_ble_eq_true rfl) dd_Rs_fill_140 (fun H locs hM hS => ?_)
            have hM : mw_at D mg_cl z (va_up M1 d (some (.inr (5, [.ref cl, .int (nI 0), .int (nI 0), .int (u &&& a_g)])))) H := hM
            obtain ⟨M1, hM1⟩ : ∃ M9 : mw_M, M9 = va_up M1 d (some (.inr (5, [.ref cl, .int (nI 0), .int (nI 0), .int (u &&& a_g)]))) := ⟨_, rfl⟩
            rw [← hM1] at hM
            have hcl := hcl.up hM1 wd (mw_ne wd wc (fun q => by cases q))
            have hkl := hkl.up hM1 wd (mw_ne wd wk (fun q => by cases q))
            have hss := fun n hn => (hss n hn).up hM1 wd (by decide)
            have wc := mw_uu hM1 wc (mw_ne wc wd (fun q => by cases q))
            have wx := mw_uu hM1 wx (mw_ne wx wd (fun q => by cases q))
            have wk := mw_uu hM1 wk (mw_ne wk wd (fun q => by cases q))
            have wd := mw_us hM1
            have hF := mw_fu hM1 hF (Or.inl rfl)
            refine mr_v E hr hk hM hS (by omega) (by omega) ?_ dd_Rs_fill_143
            rw [hu] at wd
            exact ⟨rfl, by rw [if_pos (of_decide_eq_true (Bool.of_not_eq_false (fun q => h101 (zI_0.mpr q)))), if_pos (of_decide_eq_true (Bool.of_not_eq_false (fun q => h101 (zI_0.mpr q))))]; exact wd, k1, hcl, hF, har⟩
      ·
        rw [nI_leI (by omega) (by omega)] at h22
        omega
    | succ d9 ih =>
      intro i k1 u M1 H locs ls hi hu hcl hkl wd wx hss hF har hrr hM hS hl
      obtain ⟨mo1, wc⟩ := hcl.cell
      obtain ⟨mo2, wk⟩ := hkl.cell
      refine lv_iload hx hb dd_Rs_fill_13 (lv_at hl 0 rfl) ?_
      refine lv_aload_n hx hb dd_Rs_fill_15 rfl (lv_at hl 3 rfl) ?_
      refine gf_Rs_21 E hM wx rfl dd_Rs_fill_16 ?_
      refine mw_V (As := []) (rest := [.int (nI i)]) E (la_size (k := ss.length) l D z (M1) hkl (List.length_map _)) ky_AL_size kv_AL_size tw_Rs_26 hM hS wk rfl rfl rfl hl.1 rfl (Nat.le_of_ble_eq_true rfl) dd_Rs_fill_19 (by first | decide | exact ⟨by dsimp only; omega, by dsimp only; omega⟩) (by decide) (fun v M1 H locs hp hM hS => ?_)
      obtain ⟨rfl, hq⟩ := hp
      have hq := hq.symm
      subst hq
      refine W.eq (g2 := F0 m 22 ls [.int (nI ss.length), .int (nI i)]) rfl ?_
      refine lv_icmp_ge (tgt := 89) hx hb dd_Rs_fill_22 (by decide) (fun h22 => ?_) (fun h22 => ?_)
      ·
        rw [nI_leI (by omega) (by omega)] at h22
        omega
      ·
        rw [nI_leI (by omega) (by omega)] at h22
        refine lv_aload_n hx hb dd_Rs_fill_25 rfl (lv_at hl 3 rfl) ?_
        refine gf_Rs_21 E hM wx rfl dd_Rs_fill_26 ?_
        refine lv_iload hx hb dd_Rs_fill_29 (lv_at hl 0 rfl) ?_
        obtain ⟨sn, hs⟩ : ∃ sn, ss[i]? = some sn := ⟨_, List.getElem?_eq_getElem (by omega)⟩
        refine mw_V (As := [.int (nI i)]) (rest := []) E (la_get (y := ca sn) l D z (M1) hkl (ls_map hs)) ky_AL_get kv_AL_get tw_Rs_30 hM hS wk rfl rfl rfl hl.1 rfl (Nat.le_of_ble_eq_true rfl) dd_Rs_fill_31 (by first | decide | exact ⟨by dsimp only; omega, by dsimp only; omega⟩) (by decide) (fun v M1 H locs hp hM hS => ?_)
        obtain ⟨rfl, hq⟩ := hp
        have hq := hq.symm
        subst hq
        have wn : M1 (ca sn) = some (.inr (11, [.ref (ent (ce sn)), .int (nI sn), .int (CF sn 2), .int (CF sn 3), .int (CF sn 4)])) := (hss sn (List.mem_of_getElem? hs)).1
        have we : M1 (ent (ce sn)) = some (.inr (9, [.int (EF (ce sn) 0), .int (EF (ce sn) 1), .int (EF (ce sn) 2), .int (EF (ce sn) 3), .int (EF (ce sn) 4), .int (EF (ce sn) 5)])) := (hss sn (List.mem_of_getElem? hs)).2
        refine W.eq (g2 := F0 m 34 ls [.ref (ca sn)]) rfl ?_
        refine va_castY (C := "IdentityIssuer$Certificate") hx hb E.o (E.t _ tw_Rs_34) (E.N.2.2.1 ("IdentityIssuer$Certificate", "IdentityIssuer$Certificate") (by decide)) (mw_recv E.K hM rfl wn) dd_Rs_fill_34 ?_
        refine lv_astore (lv' := [(6, .ref (ca sn)), (5, .int (nI i)), (4, .int (u)), (0, .ref d), (1, .ref x), (2, .int (sel)), (3, .int (clk))]) hx hb dd_Rs_fill_37 hl (by decide) rfl (fun ls hl => ?_)
        refine lv_aload hx hb dd_Rs_fill_39 (lv_at hl 0 rfl) ?_
        refine gf_Rs_36 E hM wn rfl dd_Rs_fill_41 ?_
        refine lv_iload_n hx hb dd_Rs_fill_44 rfl (lv_at hl 5 rfl) ?_
        refine mw_V (As := [.int (sel)]) (rest := []) E (cc_En_isSelectedBy l D z (M1) (ent (ce sn)) (EF (ce sn) 0) (EF (ce sn) 1) (EF (ce sn) 2) (EF (ce sn) 3) (EF (ce sn) 4) (EF (ce sn) 5) sel we) ky_En_isSelectedBy kv_En_isSelectedBy tw_Rs_40 hM hS we rfl rfl rfl hl.1 rfl (Nat.le_of_ble_eq_true rfl) dd_Rs_fill_45 (by first | decide | exact ⟨by dsimp only; omega, by dsimp only; omega⟩) (by decide) (fun v M1 H locs hp hM hS => ?_)
        obtain ⟨rfl, hq⟩ := hp
        have hq := hq.symm
        subst hq
        refine W.eq (g2 := F0 m 48 ls [.int (zI (decide (EF (ce sn) 3 &&& (sel ^^^ -1) = 0)))]) rfl ?_
        refine lv_if_eq (tgt := 83) hx hb dd_Rs_fill_48 (by decide) (fun h48 => ?_) (fun h48 => ?_)
        ·
          refine lv_iinc (k := 1) (v := nI (i + 1)) (lv' := [(5, .int (nI (i + 1))), (6, .ref (ca sn)), (4, .int (u)), (0, .ref d), (1, .ref x), (2, .int (sel)), (3, .int (clk))]) hx hb dd_Rs_fill_83 hl rfl (nI_1 _) (by decide) rfl (fun ls hl => ?_)
          refine lv_goto (tgt := 13) hx hb dd_Rs_fill_86 (by decide) ?_
          refine W.widen (k := i + 1) (n := 15 * (i + 1)) (by omega) (by omega) ?_
          exact ih (i + 1) _ _ M1 H locs ls (by omega) (by rw [ls_fn hs (by unfold fl_p; rw [zI_0.mp h48]; rfl)]; exact hu) (by rw [ls_fn hs (by unfold fl_p; rw [zI_0.mp h48]; rfl)]; exact hcl) hkl wd wx hss hF har hrr hM hS (lv_sub hl [0, 2, 3, 4, 5, 6] rfl)
        ·
          refine lv_aload hx hb dd_Rs_fill_51 (lv_at hl 0 rfl) ?_
          refine gf_Rs_46 E hM wn rfl dd_Rs_fill_53 ?_
          refine lv_iload_n hx hb dd_Rs_fill_56 rfl (lv_at hl 6 rfl) ?_
          refine lv_icmp_le (tgt := 83) hx hb dd_Rs_fill_57 (by decide) (fun h57 => ?_) (fun h57 => ?_)
          ·
            refine lv_iinc (k := 1) (v := nI (i + 1)) (lv' := [(5, .int (nI (i + 1))), (6, .ref (ca sn)), (4, .int (u)), (0, .ref d), (1, .ref x), (2, .int (sel)), (3, .int (clk))]) hx hb dd_Rs_fill_83 hl rfl (nI_1 _) (by decide) rfl (fun ls hl => ?_)
            refine lv_goto (tgt := 13) hx hb dd_Rs_fill_86 (by decide) ?_
            refine W.widen (k := i + 1) (n := 15 * (i + 1)) (by omega) (by omega) ?_
            exact ih (i + 1) _ _ M1 H locs ls (by omega) (by rw [ls_fn hs (by unfold fl_p; rw [decide_eq_false (fun q => Int32.not_lt.mpr h57 q)]; exact Bool.and_false _)]; exact hu) (by rw [ls_fn hs (by unfold fl_p; rw [decide_eq_false (fun q => Int32.not_lt.mpr h57 q)]; exact Bool.and_false _)]; exact hcl) hkl wd wx hss hF har hrr hM hS (lv_sub hl [0, 2, 3, 4, 5, 6] rfl)
          ·
            have hp9 : fl_p EF CF ce sel clk sn = true := by
              unfold fl_p
              rw [Bool.of_not_eq_false (fun q => h48 (zI_0.mpr q)), decide_eq_true (Int32.not_le.mp h57)]
              rfl
            refine lv_aload_n hx hb dd_Rs_fill_60 rfl (lv_at hl 3 rfl) ?_
            refine gf_Rs_12 E hM wd rfl dd_Rs_fill_61 ?_
            refine lv_aload hx hb dd_Rs_fill_64 (lv_at hl 0 rfl) ?_
            refine mw_V (As := [.ref (ca sn)]) (rest := []) E (la_add (y := ca sn) l D z (M1) hcl (by rw [List.length_map]; have := ls_fl (ss := ss) (i := i) (p := fl_p EF CF ce sel clk); omega) (ct_els (fun n hn => hss n (List.mem_of_mem_take (List.mem_filter.mp hn).1))) wn rfl (by decide +kernel) (by decide)) ky_AL_add kv_AL_add tw_Rs_50 hM hS wc rfl rfl rfl hl.1 rfl (Nat.le_of_ble_eq_true rfl) dd_Rs_fill_66 (⟨(by omega : i + 1 ≤ 12), (by omega : 15 * i + 15 ≤ 180)⟩) (by decide) (fun v M1 H locs hp hM hS => ?_)
            obtain ⟨rfl, k2, hL2, hF2, har2⟩ := hp
            have hr9_0 := row_new hkl har2 hrr
            have hkl := hkl.fr hL2.1 hF2 (fun q => q.elim (Ne.symm hne) (hcl.nr wk)) (fun y => (fun q => q.elim (hkl.nr wc).symm (fun q => y (hkl.zr (hrr q)))))
            have hss := fun n hn => (hss n hn).fr hF2 (fun q9 ci vs w0 hc => (fun q => q.elim (mw_ne w0 wc (fun e9 => by cases e9; exact absurd hc (by decide))) (hcl.nr w0)))
            have wd := hF2.at wd (fun q => q.elim (mw_ne wd wc (fun q => by cases q)) (hcl.nr wd))
            have wx := hF2.at wx (fun q => q.elim (mw_ne wx wc (fun q => by cases q)) (hcl.nr wx))
            have wk := hF2.at wk (fun q => q.elim (Ne.symm hne) (hcl.nr wk))
            have wn := hF2.at wn (fun q => q.elim (mw_ne wn wc (fun q => by cases q)) (hcl.nr wn))
            have we := hF2.at we (fun q => q.elim (mw_ne we wc (fun q => by cases q)) (hcl.nr we))
            have hrr := hr9_0
            have hcl := hL2
            rw [show ((ss.take i).filter (fl_p EF CF ce sel clk)).map ca ++ [ca sn] = ((ss.take (i + 1)).filter (fl_p EF CF ce sel clk)).map ca by rw [ls_fy hs hp9, List.map_append]; rfl] at hcl
            obtain ⟨mo9, wc⟩ := hcl.cell
            have har3 := row_tr hF har har2
            have hF := hF.tr2 hF2 (fun q h => h.elim (fun e => Or.inl (Or.inr (Or.inl e))) (fun e => har.elim (fun e1 => Or.inl (Or.inr (Or.inr (e.trans e1)))) (fun y => Or.inr (by rw [e]; exact y))))
            have har := har3
            refine W.eq (g2 := F0 m 69 ls [.int (1)]) rfl ?_
            refine lv_pop hx hb dd_Rs_fill_69 rfl ?_
            refine lv_iload hx hb dd_Rs_fill_70 (lv_at hl 2 rfl) ?_
            refine lv_aload hx hb dd_Rs_fill_72 (lv_at hl 0 rfl) ?_
            refine gf_Rs_36 E hM wn rfl dd_Rs_fill_74 ?_
            refine gf_Rs_54 E hM we rfl dd_Rs_fill_77 ?_
            refine lv_ior hx hb dd_Rs_fill_80 ?_
            refine lv_istore (lv' := [(4, .int (u ||| (EF (ce sn) 5))), (6, .ref (ca sn)), (5, .int (nI i)), (0, .ref d), (1, .ref x), (2, .int (sel)), (3, .int (clk))]) hx hb dd_Rs_fill_81 hl (by decide) rfl (fun ls hl => ?_)
            refine lv_iinc (k := 2) (v := nI (i + 1)) (lv' := [(5, .int (nI (i + 1))), (4, .int (u ||| (EF (ce sn) 5))), (6, .ref (ca sn)), (0, .ref d), (1, .ref x), (2, .int (sel)), (3, .int (clk))]) hx hb dd_Rs_fill_83 hl rfl (nI_1 _) (by decide) rfl (fun ls hl => ?_)
            refine lv_goto (tgt := 13) hx hb dd_Rs_fill_86 (by decide) ?_
            refine W.widen (k := i + 1) (n := 15 * (i + 1)) (by omega) (by omega) ?_
            exact ih (i + 1) _ _ M1 H locs ls (by omega) (by rw [ls_fy hs hp9, fr_or_s, ← hu]) hcl hkl wd wx hss hF har hrr hM hS (lv_sub hl [0, 1, 3, 4, 5, 6] rfl)
  exact loop13 ss.length 0 cr (nI 0) M1 H locs ls (by omega) rfl hcl hkl wd wx hss hF (Or.inl rfl) hrr hM hS (lv_sub hl [0, 1, 2, 3, 4, 5] rfl)
theorem cc_Rs_isLike (l : Launch) (D : va_G) (z : Nat) (M : mw_M) (d cl cr b c2 r2 : Nat) (r_f r_e r_g s_f s_e s_g : Int32) (ss ts : List Nat) (EF CF : Nat → Nat → Int32) (ent ca ce : Nat → Nat) (wd : M d = some (.inr (5, [.ref cl, .int (r_f), .int (r_e), .int (r_g)]))) (hcl : al_at D M cl cr (ss.map ca)) (wb : M b = some (.inr (5, [.ref c2, .int (s_f), .int (s_e), .int (s_g)]))) (hc2 : al_at D M c2 r2 (ts.map ca)) (hss : ∀ n : Nat, n ∈ ss → ct_is M EF CF ent ca ce n) (hts : ∀ n : Nat, n ∈ ts → ct_is M EF CF ent ca ce n) (hsn : ∀ n : Nat, n ∈ ss → n < 2 ^ 31) (htn : ∀ n : Nat, n ∈ ts → n < 2 ^ 31) : mw_C l yy_Rs_isLike bb_Rs_isLike 3 (Option.some Jvm.ClassFile.FieldType.boolean) 3 64 0 0 D z M [.ref d, .ref b] (fun v M' => v = some (.int (zI (decide (ss = ts ∧ r_f = s_f ∧ r_e = s_e ∧ r_g = s_g)))) ∧ M' = M) := by
  refine mw_of (by decide) (Nat.le_of_ble_eq_true rfl) ?_
  intro p e s m below meth c ls E hr hk hnm hM hl
  have hx := E.x
  have hb := E.b
  have E : mw_E p m c bb_Rs_isLike 3 s _ D z "IdentityIssuer$Response" := E
  have hl : lv_has ls 3 [(0, .ref d), (1, .ref b)] := hl
  have hS : va_S (mw_A z) s.heap s.heap [] := va_S.rf
  obtain ⟨mo1, wc⟩ := hcl.cell
  obtain ⟨mo2, wq⟩ := hc2.cell
  have hl1 := hcl.le
  have hl2 := hc2.le
  rw [List.length_map] at hl1 hl2
  refine lv_aload_n hx hb dd_Rs_isLike_0 rfl (lv_at hl 0 rfl) ?_
  refine gf_Rs_12 E hM wd rfl dd_Rs_isLike_1 ?_
  refine mw_V (As := []) (rest := []) E (la_size (k := ss.length) l D z (M) hcl (List.length_map _)) ky_AL_size kv_AL_size tw_Rs_26 hM hS wc rfl rfl rfl hl.1 rfl (Nat.le_of_ble_eq_true rfl) dd_Rs_isLike_4 (by first | decide | exact ⟨by dsimp only; omega, by dsimp only; omega⟩) (by decide) (fun v M1 H locs hp hM hS => ?_)
  obtain ⟨rfl, hq⟩ := hp
  have hq := hq.symm
  subst hq
  refine W.eq (g2 := F0 m 7 ls [.int (nI ss.length)]) rfl ?_
  refine lv_aload_n hx hb dd_Rs_isLike_7 rfl (lv_at hl 1 rfl) ?_
  refine gf_Rs_12 E hM wb rfl dd_Rs_isLike_8 ?_
  refine mw_V (As := []) (rest := [.int (nI ss.length)]) E (la_size (k := ts.length) l D z (M) hc2 (List.length_map _)) ky_AL_size kv_AL_size tw_Rs_26 hM hS wq rfl rfl rfl hl.1 rfl (Nat.le_of_ble_eq_true rfl) dd_Rs_isLike_11 (by first | decide | exact ⟨by dsimp only; omega, by dsimp only; omega⟩) (by decide) (fun v M1 H locs hp hM hS => ?_)
  obtain ⟨rfl, hq⟩ := hp
  have hq := hq.symm
  subst hq
  refine W.eq (g2 := F0 m 14 ls [.int (nI ts.length), .int (nI ss.length)]) rfl ?_
  refine lv_icmp_ne (tgt := 50) hx hb dd_Rs_isLike_14 (by decide) (fun h14 => ?_) (fun h14 => ?_)
  ·
    rw [nI_eq (by omega) (by omega)] at h14
    refine lv_iconst (v := nI 0) hx hb dd_Rs_isLike_50 (by decide) ?_
    refine mr_z E hr hk hM hS (by decide) (by decide) (rfl) ?_ dd_Rs_isLike_51
    exact ⟨by rw [zI_f (decide_eq_false (fun q => h14 (by rw [q.1])))]; rfl, rfl⟩
  ·
    rw [nI_eq (by omega) (by omega)] at h14
    refine lv_aload_n hx hb dd_Rs_isLike_17 rfl (lv_at hl 0 rfl) ?_
    refine gf_Rs_64 E hM wd rfl dd_Rs_isLike_18 ?_
    refine lv_aload_n hx hb dd_Rs_isLike_21 rfl (lv_at hl 1 rfl) ?_
    refine gf_Rs_64 E hM wb rfl dd_Rs_isLike_22 ?_
    refine lv_icmp_ne (tgt := 50) hx hb dd_Rs_isLike_25 (by decide) (fun h25 => ?_) (fun h25 => ?_)
    ·
      refine lv_iconst (v := nI 0) hx hb dd_Rs_isLike_50 (by decide) ?_
      refine mr_z E hr hk hM hS (by decide) (by decide) (rfl) ?_ dd_Rs_isLike_51
      exact ⟨by rw [zI_f (decide_eq_false (fun q => h25 q.2.1))]; rfl, rfl⟩
    ·
      refine lv_aload_n hx hb dd_Rs_isLike_28 rfl (lv_at hl 0 rfl) ?_
      refine gf_Rs_68 E hM wd rfl dd_Rs_isLike_29 ?_
      refine lv_aload_n hx hb dd_Rs_isLike_32 rfl (lv_at hl 1 rfl) ?_
      refine gf_Rs_68 E hM wb rfl dd_Rs_isLike_33 ?_
      refine lv_icmp_ne (tgt := 50) hx hb dd_Rs_isLike_36 (by decide) (fun h36 => ?_) (fun h36 => ?_)
      ·
        refine lv_iconst (v := nI 0) hx hb dd_Rs_isLike_50 (by decide) ?_
        refine mr_z E hr hk hM hS (by decide) (by decide) (rfl) ?_ dd_Rs_isLike_51
        exact ⟨by rw [zI_f (decide_eq_false (fun q => h36 q.2.2.1))]; rfl, rfl⟩
      ·
        refine lv_aload_n hx hb dd_Rs_isLike_39 rfl (lv_at hl 0 rfl) ?_
        refine gf_Rs_72 E hM wd rfl dd_Rs_isLike_40 ?_
        refine lv_aload_n hx hb dd_Rs_isLike_43 rfl (lv_at hl 1 rfl) ?_
        refine gf_Rs_72 E hM wb rfl dd_Rs_isLike_44 ?_
        refine lv_icmp_eq (tgt := 52) hx hb dd_Rs_isLike_47 (by decide) (fun h47 => ?_) (fun h47 => ?_)
        ·
          refine lv_iconst (v := nI 0) hx hb dd_Rs_isLike_52 (by decide) ?_
          refine lv_istore_n (lv' := [(2, .int (nI 0)), (0, .ref d), (1, .ref b)]) hx hb dd_Rs_isLike_53 rfl hl (by decide) rfl (fun ls hl => ?_)
          have loop54 : ∀ (d9 : Nat) (i : Nat) (H : Heap) (locs : List Loc) (ls : Array Slot), i + d9 = ss.length → ss.take i = ts.take i → mw_at D mg_cl z M H → va_S (mw_A z) s.heap H locs → lv_has ls 3 [(2, .int (nI i)), (0, .ref d), (1, .ref b)] → W p l e ({ frames := 3, cells := 0, slots := 0, locals := 64 } : Room) s m ([.ref d, .ref b] : List Value).toArray below meth c H locs (0) (0) (MQ below (mw_Q D z (fun v M' => v = some (.int (zI (decide (ss = ts ∧ r_f = s_f ∧ r_e = s_e ∧ r_g = s_g)))) ∧ M' = M)) ([.ref d, .ref b] : List Value).toArray s 0 0 (mw_A z)) (F0 m 54 ls []) := by
            intro d9
            induction d9 with
            | zero =>
              intro i H locs ls hi hu hM hS hl
              refine lv_iload_n hx hb dd_Rs_isLike_54 rfl (lv_at hl 0 rfl) ?_
              refine lv_aload_n hx hb dd_Rs_isLike_55 rfl (lv_at hl 1 rfl) ?_
              refine gf_Rs_12 E hM wd rfl dd_Rs_isLike_56 ?_
              refine mw_V (As := []) (rest := [.int (nI i)]) E (la_size (k := ss.length) l D z (M) hcl (List.length_map _)) ky_AL_size kv_AL_size tw_Rs_26 hM hS wc rfl rfl rfl hl.1 rfl (Nat.le_of_ble_eq_true rfl) dd_Rs_isLike_59 (by first | decide | exact ⟨by dsimp only; omega, by dsimp only; omega⟩) (by decide) (fun v M1 H locs hp hM hS => ?_)
              obtain ⟨rfl, hq⟩ := hp
              have hq := hq.symm
              subst hq
              refine W.eq (g2 := F0 m 62 ls [.int (nI ss.length), .int (nI i)]) rfl ?_
              refine lv_icmp_ge (tgt := 104) hx hb dd_Rs_isLike_62 (by decide) (fun h62 => ?_) (fun h62 => ?_)
              ·
                rw [nI_leI (by omega) (by omega)] at h62
                refine lv_iconst (v := nI 1) hx hb dd_Rs_isLike_104 (by decide) ?_
                refine mr_z E hr hk hM hS (by decide) (by decide) (rfl) ?_ dd_Rs_isLike_105
                exact ⟨by rw [zI_t (decide_eq_true ⟨by rw [← List.take_length (l := ss), ← List.take_length (l := ts), ← h14, show ss.length = i by omega]; exact hu, h25, h36, h47⟩)]; rfl, rfl⟩
              ·
                rw [nI_leI (by omega) (by omega)] at h62
                omega
            | succ d9 ih =>
              intro i H locs ls hi hu hM hS hl
              refine lv_iload_n hx hb dd_Rs_isLike_54 rfl (lv_at hl 0 rfl) ?_
              refine lv_aload_n hx hb dd_Rs_isLike_55 rfl (lv_at hl 1 rfl) ?_
              refine gf_Rs_12 E hM wd rfl dd_Rs_isLike_56 ?_
              refine mw_V (As := []) (rest := [.int (nI i)]) E (la_size (k := ss.length) l D z (M) hcl (List.length_map _)) ky_AL_size kv_AL_size tw_Rs_26 hM hS wc rfl rfl rfl hl.1 rfl (Nat.le_of_ble_eq_true rfl) dd_Rs_isLike_59 (by first | decide | exact ⟨by dsimp only; omega, by dsimp only; omega⟩) (by decide) (fun v M1 H locs hp hM hS => ?_)
              obtain ⟨rfl, hq⟩ := hp
              have hq := hq.symm
              subst hq
              refine W.eq (g2 := F0 m 62 ls [.int (nI ss.length), .int (nI i)]) rfl ?_
              refine lv_icmp_ge (tgt := 104) hx hb dd_Rs_isLike_62 (by decide) (fun h62 => ?_) (fun h62 => ?_)
              ·
                rw [nI_leI (by omega) (by omega)] at h62
                omega
              ·
                rw [nI_leI (by omega) (by omega)] at h62
                refine lv_aload_n hx hb dd_Rs_isLike_65 rfl (lv_at hl 1 rfl) ?_
                refine gf_Rs_12 E hM wd rfl dd_Rs_isLike_66 ?_
                refine lv_iload_n hx hb dd_Rs_isLike_69 rfl (lv_at hl 0 rfl) ?_
                obtain ⟨sn, hs⟩ : ∃ sn, ss[i]? = some sn := ⟨_, List.getElem?_eq_getElem (by omega)⟩
                refine mw_V (As := [.int (nI i)]) (rest := []) E (la_get (y := ca sn) l D z (M) hcl (ls_map hs)) ky_AL_get kv_AL_get tw_Rs_30 hM hS wc rfl rfl rfl hl.1 rfl (Nat.le_of_ble_eq_true rfl) dd_Rs_isLike_70 (by first | decide | exact ⟨by dsimp only; omega, by dsimp only; omega⟩) (by decide) (fun v M1 H locs hp hM hS => ?_)
                obtain ⟨rfl, hq⟩ := hp
                have hq := hq.symm
                subst hq
                have wn : M (ca sn) = some (.inr (11, [.ref (ent (ce sn)), .int (nI sn), .int (CF sn 2), .int (CF sn 3), .int (CF sn 4)])) := (hss sn (List.mem_of_getElem? hs)).1
                have we : M (ent (ce sn)) = some (.inr (9, [.int (EF (ce sn) 0), .int (EF (ce sn) 1), .int (EF (ce sn) 2), .int (EF (ce sn) 3), .int (EF (ce sn) 4), .int (EF (ce sn) 5)])) := (hss sn (List.mem_of_getElem? hs)).2
                refine W.eq (g2 := F0 m 73 ls [.ref (ca sn)]) rfl ?_
                refine va_castY (C := "IdentityIssuer$Certificate") hx hb E.o (E.t _ tw_Rs_34) (E.N.2.2.1 ("IdentityIssuer$Certificate", "IdentityIssuer$Certificate") (by decide)) (mw_recv E.K hM rfl wn) dd_Rs_isLike_73 ?_
                refine gf_Rs_73 E hM wn rfl dd_Rs_isLike_76 ?_
                refine lv_aload_n hx hb dd_Rs_isLike_79 rfl (lv_at hl 2 rfl) ?_
                refine gf_Rs_12 E hM wb rfl dd_Rs_isLike_80 ?_
                refine lv_iload_n hx hb dd_Rs_isLike_83 rfl (lv_at hl 0 rfl) ?_
                obtain ⟨tn, ht⟩ : ∃ tn, ts[i]? = some tn := ⟨_, List.getElem?_eq_getElem (by omega)⟩
                refine mw_V (As := [.int (nI i)]) (rest := [.int (nI sn)]) E (la_get (y := ca tn) l D z (M) hc2 (ls_map ht)) ky_AL_get kv_AL_get tw_Rs_30 hM hS wq rfl rfl rfl hl.1 rfl (Nat.le_of_ble_eq_true rfl) dd_Rs_isLike_84 (by first | decide | exact ⟨by dsimp only; omega, by dsimp only; omega⟩) (by decide) (fun v M1 H locs hp hM hS => ?_)
                obtain ⟨rfl, hq⟩ := hp
                have hq := hq.symm
                subst hq
                have wn2 : M (ca tn) = some (.inr (11, [.ref (ent (ce tn)), .int (nI tn), .int (CF tn 2), .int (CF tn 3), .int (CF tn 4)])) := (hts tn (List.mem_of_getElem? ht)).1
                have we2 : M (ent (ce tn)) = some (.inr (9, [.int (EF (ce tn) 0), .int (EF (ce tn) 1), .int (EF (ce tn) 2), .int (EF (ce tn) 3), .int (EF (ce tn) 4), .int (EF (ce tn) 5)])) := (hts tn (List.mem_of_getElem? ht)).2
                refine W.eq (g2 := F0 m 87 ls [.ref (ca tn), .int (nI sn)]) rfl ?_
                refine va_castY (C := "IdentityIssuer$Certificate") hx hb E.o (E.t _ tw_Rs_34) (E.N.2.2.1 ("IdentityIssuer$Certificate", "IdentityIssuer$Certificate") (by decide)) (mw_recv E.K hM rfl wn2) dd_Rs_isLike_87 ?_
                refine gf_Rs_73 E hM wn2 rfl dd_Rs_isLike_90 ?_
                have hb1 := hsn sn (List.mem_of_getElem? hs)
                have hb2 := htn tn (List.mem_of_getElem? ht)
                refine lv_icmp_eq (tgt := 98) hx hb dd_Rs_isLike_93 (by decide) (fun h93 => ?_) (fun h93 => ?_)
                ·
                  rw [nI_eq (by omega) (by omega)] at h93
                  refine lv_iinc (k := 0) (v := nI (i + 1)) (lv' := [(2, .int (nI (i + 1))), (0, .ref d), (1, .ref b)]) hx hb dd_Rs_isLike_98 hl rfl (nI_1 _) (by decide) rfl (fun ls hl => ?_)
                  refine lv_goto (tgt := 54) hx hb dd_Rs_isLike_101 (by decide) ?_
                  exact ih (i + 1) H locs ls (by omega) (by rw [ls_take hs, ls_take ht, hu, h93]) hM hS (lv_sub hl [0, 1, 2] rfl)
                ·
                  rw [nI_eq (by omega) (by omega)] at h93
                  refine lv_iconst (v := nI 0) hx hb dd_Rs_isLike_96 (by decide) ?_
                  refine mr_z E hr hk hM hS (by decide) (by decide) (rfl) ?_ dd_Rs_isLike_97
                  exact ⟨by rw [zI_f (decide_eq_false (fun q => h93 (by have e9 := hs; rw [q.1, ht] at e9; exact (Option.some.inj e9).symm)))]; rfl, rfl⟩
          exact loop54 ss.length 0 H locs ls (by omega) rfl hM hS (lv_sub hl [0, 1, 2] rfl)
        ·
          refine lv_iconst (v := nI 0) hx hb dd_Rs_isLike_50 (by decide) ?_
          refine mr_z E hr hk hM hS (by decide) (by decide) (rfl) ?_ dd_Rs_isLike_51
          exact ⟨by rw [zI_f (decide_eq_false (fun q => h47 q.2.2.2))]; rfl, rfl⟩
theorem cc_Wa_hasGot (l : Launch) (D : va_G) (z : Nat) (M : mw_M) (e0 w_a d cl cr b c2 r2 : Nat) (told : Bool) (w_s r_f r_e r_g s_f s_e s_g : Int32) (ss ts : List Nat) (EF CF : Nat → Nat → Int32) (ent ca ce : Nat → Nat) (w0 : M e0 = some (.inr (12, [.ref w_a, .int (w_s), .ref d, .int (zI told)]))) (wd : M d = some (.inr (5, [.ref cl, .int (r_f), .int (r_e), .int (r_g)]))) (hcl : al_at D M cl cr (ss.map ca)) (wb : M b = some (.inr (5, [.ref c2, .int (s_f), .int (s_e), .int (s_g)]))) (hc2 : al_at D M c2 r2 (ts.map ca)) (hss : ∀ n : Nat, n ∈ ss → ct_is M EF CF ent ca ce n) (hts : ∀ n : Nat, n ∈ ts → ct_is M EF CF ent ca ce n) (hsn : ∀ n : Nat, n ∈ ss → n < 2 ^ 31) (htn : ∀ n : Nat, n ∈ ts → n < 2 ^ 31) : mw_C l yy_Wa_hasGot bb_Wa_hasGot 2 (Option.some Jvm.ClassFile.FieldType.boolean) 4 86 0 0 D z M [.ref e0, .ref b] (fun v M' => v = some (.int (zI (told && decide (ss = ts ∧ r_f = s_f ∧ r_e = s_e ∧ r_g = s_g)))) ∧ M' = M) := by
  refine mw_of (by decide) (Nat.le_of_ble_eq_true rfl) ?_
  intro p e s m below meth c ls E hr hk hnm hM hl
  have hx := E.x
  have hb := E.b
  have E : mw_E p m c bb_Wa_hasGot 2 s _ D z "IdentityIssuer$Watcher" := E
  have hl : lv_has ls 2 [(0, .ref e0), (1, .ref b)] := hl
  have hS : va_S (mw_A z) s.heap s.heap [] := va_S.rf
  refine lv_aload_n hx hb dd_Wa_hasGot_0 rfl (lv_at hl 0 rfl) ?_
  refine gf_Wa_24 E hM w0 rfl dd_Wa_hasGot_1 ?_
  refine lv_if_eq (tgt := 22) hx hb dd_Wa_hasGot_4 (by decide) (fun h4 => ?_) (fun h4 => ?_)
  ·
    refine lv_iconst (v := nI 0) hx hb dd_Wa_hasGot_22 (by decide) ?_
    refine mr_z E hr hk hM hS (by decide) (by decide) (rfl) ?_ dd_Wa_hasGot_23
    exact ⟨by rw [zI_0.mp h4]; rfl, rfl⟩
  ·
    refine lv_aload_n hx hb dd_Wa_hasGot_7 rfl (lv_at hl 0 rfl) ?_
    refine gf_Wa_10 E hM w0 rfl dd_Wa_hasGot_8 ?_
    refine lv_aload_n hx hb dd_Wa_hasGot_11 rfl (lv_at hl 1 rfl) ?_
    refine mw_V (As := [.ref b]) (rest := []) E (cc_Rs_isLike l D z (M) d cl cr b c2 r2 r_f r_e r_g s_f s_e s_g ss ts EF CF ent ca ce wd hcl wb hc2 hss hts hsn htn) ky_Rs_isLike kv_Rs_isLike tw_Wa_28 hM hS wd rfl rfl rfl hl.1 rfl (Nat.le_of_ble_eq_true rfl) dd_Wa_hasGot_12 (by first | decide | exact ⟨by dsimp only; omega, by dsimp only; omega⟩) (by decide) (fun v M1 H locs hp hM hS => ?_)
    obtain ⟨rfl, hq⟩ := hp
    have hq := hq.symm
    subst hq
    refine W.eq (g2 := F0 m 15 ls [.int (zI (decide (ss = ts ∧ r_f = s_f ∧ r_e = s_e ∧ r_g = s_g)))]) rfl ?_
    refine lv_if_eq (tgt := 22) hx hb dd_Wa_hasGot_15 (by decide) (fun h15 => ?_) (fun h15 => ?_)
    ·
      refine lv_iconst (v := nI 0) hx hb dd_Wa_hasGot_22 (by decide) ?_
      refine mr_z E hr hk hM hS (by decide) (by decide) (rfl) ?_ dd_Wa_hasGot_23
      exact ⟨by rw [zI_0.mp h15, Bool.and_false]; rfl, rfl⟩
    ·
      refine lv_iconst (v := nI 1) hx hb dd_Wa_hasGot_18 (by decide) ?_
      refine lv_goto (tgt := 23) hx hb dd_Wa_hasGot_19 (by decide) ?_
      refine mr_z E hr hk hM hS (by decide) (by decide) (rfl) ?_ dd_Wa_hasGot_23
      exact ⟨by rw [zI_t (show (told && decide (ss = ts ∧ r_f = s_f ∧ r_e = s_e ∧ r_g = s_g)) = true by rw [Bool.of_not_eq_false (fun q => h4 (zI_0.mpr q)), Bool.of_not_eq_false (fun q => h15 (zI_0.mpr q))]; rfl)]; rfl, rfl⟩
theorem cc_Wa_take (l : Launch) (D : va_G) (z : Nat) (M : mw_M) (e0 w_a d cl cr b c2 r2 : Nat) (w_t w_s r_f r_e r_g s_f s_e s_g : Int32) (L0 ss : List Nat) (EF CF : Nat → Nat → Int32) (ent ca ce : Nat → Nat) (w0 : M e0 = some (.inr (12, [.ref w_a, .int (w_s), .ref d, .int (w_t)]))) (wd : M d = some (.inr (5, [.ref cl, .int (r_f), .int (r_e), .int (r_g)]))) (hcl : al_at D M cl cr L0) (wb : M b = some (.inr (5, [.ref c2, .int (s_f), .int (s_e), .int (s_g)]))) (hc2 : al_at D M c2 r2 (ss.map ca)) (hss : ∀ n : Nat, n ∈ ss → ct_is M EF CF ent ca ce n) (hln : ss.length ≤ 12) (hdb : d ≠ b) (hne : cl ≠ c2) (hrr : r2 = cr → r2 = D.2 200 0) : mw_C l yy_Wa_take bb_Wa_take 2 (Option.none : Option Jvm.ClassFile.FieldType) 8 179 12 180 D z M [.ref e0, .ref b] (fun v M' => v = none ∧ M' e0 = some (.inr (12, [.ref w_a, .int (w_s), .ref d, .int (nI 1)])) ∧ M' d = some (.inr (5, [.ref cl, .int (s_f), .int (s_e), .int (s_g)])) ∧ ∃ k1, al_at D M' cl k1 (ss.map ca) ∧ mw_fr (fun q => q = e0 ∨ q = d ∨ q = cl ∨ q = cr) M M' ∧ (k1 = cr ∨ M k1 = none)) := by
  refine mw_of (by decide) (Nat.le_of_ble_eq_true rfl) ?_
  intro p e s m below meth c ls E hr hk hnm hM hl
  have hx := E.x
  have hb := E.b
  have E : mw_E p m c bb_Wa_take 2 s _ D z "IdentityIssuer$Watcher" := E
  have hl : lv_has ls 2 [(0, .ref e0), (1, .ref b)] := hl
  have hS : va_S (mw_A z) s.heap s.heap [] := va_S.rf
  have hF : mw_fr (fun q => q = e0 ∨ q = d ∨ q = cl ∨ q = cr) M M := mw_fr.rf
  obtain ⟨mo1, wc⟩ := hcl.cell
  obtain ⟨mo2, wq⟩ := hc2.cell
  refine lv_aload_n hx hb dd_Wa_take_0 rfl (lv_at hl 0 rfl) ?_
  refine lv_iconst (v := nI 1) hx hb dd_Wa_take_1 (by decide) ?_
  refine pf_Wa_24 E hM hS w0 (Nat.le_of_ble_eq_true rfl) (⟨rfl, rfl⟩) dd_Wa_take_2 (fun H locs hM hS => ?_)
  have hM : mw_at D mg_cl z (va_up M e0 (some (.inr (12, [.ref w_a, .int (w_s), .ref d, .int (nI 1)])))) H := hM
  obtain ⟨M1, hM1⟩ : ∃ M9 : mw_M, M9 = va_up M e0 (some (.inr (12, [.ref w_a, .int (w_s), .ref d, .int (nI 1)]))) := ⟨_, rfl⟩
  rw [← hM1] at hM
  have hcl := hcl.up hM1 w0 (mw_ne w0 wc (fun q => by cases q))
  have hc2 := hc2.up hM1 w0 (mw_ne w0 wq (fun q => by cases q))
  have hss := fun n hn => (hss n hn).up hM1 w0 (by decide)
  have wd := mw_uu hM1 wd (mw_ne wd w0 (fun q => by cases q))
  have wc := mw_uu hM1 wc (mw_ne wc w0 (fun q => by cases q))
  have wb := mw_uu hM1 wb (mw_ne wb w0 (fun q => by cases q))
  have wq := mw_uu hM1 wq (mw_ne wq w0 (fun q => by cases q))
  have w0 := mw_us hM1
  have hF := mw_fu hM1 hF (Or.inl rfl)
  refine lv_aload_n hx hb dd_Wa_take_5 rfl (lv_at hl 0 rfl) ?_
  refine gf_Wa_10 E hM w0 rfl dd_Wa_take_6 ?_
  refine lv_aload_n hx hb dd_Wa_take_9 rfl (lv_at hl 1 rfl) ?_
  refine mw_V (As := [.ref b]) (rest := []) E (cc_Rs_copy l D z (M1) d cl cr b c2 r2 r_f r_e r_g s_f s_e s_g L0 ss EF CF ent ca ce wd hcl wb hc2 hss hln hdb hne hrr) ky_Rs_copy kv_Rs_copy tw_Wa_32 hM hS wd rfl rfl rfl hl.1 rfl (Nat.le_of_ble_eq_true rfl) dd_Wa_take_10 (by first | decide | exact ⟨by dsimp only; omega, by dsimp only; omega⟩) (by decide) (fun v M1 H locs hp hM hS => ?_)
  obtain ⟨rfl, wd2, k1, hL2, hF2, har2⟩ := hp
  have hc2 := hc2.fr hL2.1 hF2 (fun q => q.elim (mw_ne wq wd (fun q => by cases q)) (fun q => q.elim (Ne.symm hne) (hcl.nr wq))) (fun y => (fun q => q.elim (hc2.nr wd).symm (fun q => q.elim (hc2.nr wc).symm (fun q => y (hc2.zr (hrr q))))))
  have hss := fun n hn => (hss n hn).fr hF2 (fun q9 ci vs w0 hc => (fun q => q.elim (mw_ne w0 wd (fun e9 => by cases e9; exact absurd hc (by decide))) (fun q => q.elim (mw_ne w0 wc (fun e9 => by cases e9; exact absurd hc (by decide))) (hcl.nr w0))))
  have w0 := hF2.at w0 (fun q => q.elim (mw_ne w0 wd (fun q => by cases q)) (fun q => q.elim (mw_ne w0 wc (fun q => by cases q)) (hcl.nr w0)))
  have wb := hF2.at wb (fun q => q.elim (Ne.symm hdb) (fun q => q.elim (mw_ne wb wc (fun q => by cases q)) (hcl.nr wb)))
  have wq := hF2.at wq (fun q => q.elim (mw_ne wq wd (fun q => by cases q)) (fun q => q.elim (Ne.symm hne) (hcl.nr wq)))
  have wd := wd2
  have har := row_tr hF (Or.inl rfl) har2
  have hF := hF.tr2 hF2 (fun q h => Or.inl (Or.inr h))
  refine W.eq (g2 := F0 m 13 ls []) rfl ?_
  refine mr_v E hr hk hM hS (by decide) (by decide) ?_ dd_Wa_take_13
  exact ⟨rfl, w0, wd, k1, hL2, hF, har⟩
theorem cc_Wa_init (l : Launch) (D : va_G) (z : Nat) (M : mw_M) (d w_a : Nat) (w_s : Int32) (L0 : List Nat) (hA : mn_l (d :: L0) M) (wd : M d = some (.inr (12, [.null, .int (0), .null, .int (0)]))) : mw_C l yy_Wa_init bb_Wa_init 3 (Option.none : Option Jvm.ClassFile.FieldType) 5 100 2 7 D z M [.ref d, .ref w_a, .int (w_s)] (fun v M' => v = none ∧ ∃ q r, M' d = some (.inr (12, [.ref w_a, .int w_s, .ref q, .int 0])) ∧ M' q = some (.inr (5, [.ref r, .int (0), .int (0), .int (0)])) ∧ M' r = some (.inr (4, [.ref (D.2 200 0), .int (nI 0), .int (nI 0)])) ∧ mn_l (r :: (q :: (d :: L0))) M' ∧ mw_fr (fun q => q ∉ L0) M M') := by
  refine mw_of (by decide) (Nat.le_of_ble_eq_true rfl) ?_
  intro p e s m below meth c ls E hr hk hnm hM hl
  have hx := E.x
  have hb := E.b
  have E : mw_E p m c bb_Wa_init 3 s _ D z "IdentityIssuer$Watcher" := E
  have hl : lv_has ls 3 [(0, .ref d), (1, .ref w_a), (2, .int (w_s))] := hl
  have hS : va_S (mw_A z) s.heap s.heap [] := va_S.rf
  have hF : mw_fr (fun q => q ∉ L0) M M := mw_fr.rf
  refine lv_aload_n hx hb dd_Wa_init_0 rfl (lv_at hl 0 rfl) ?_
  refine W.objInit hx hb E.o (E.t _ tw_Wa_1) (E.t _ kw_Ob_im) (E.t _ kw_Ob_code) rfl (by rw [E.ml]; exact hl.1) rfl dd_Wa_init_1 (Nat.le_of_ble_eq_true rfl) (Nat.le_of_ble_eq_true rfl) ?_
  refine W.eq (g2 := F0 m 4 ls []) rfl ?_
  refine lv_aload_n hx hb dd_Wa_init_4 rfl (lv_at hl 0 rfl) ?_
  refine mw_new (C := "IdentityIssuer$Response") (T := ff_Rs) (N := 4) (ci := 5) (fs := [.null, .int (0), .int (0), .int (0)]) hx hb E.t in_Rs tt_Rs ty_Rs E.o (E.t _ tw_Wa_7) (E.t _ tw_inst_Rs) (E.t _ tw_ini_Rs) E.K hM E.zz hS rfl (by decide +kernel) (by decide) (by decide) dd_Wa_init_5 (fun q5 H hq5 hM hS => ?_)
  have hM : mw_at D mg_cl z (va_up M q5 (some (.inr (5, [.null, .int (0), .int (0), .int (0)])))) H := hM
  obtain ⟨M1, hM1⟩ : ∃ M9 : mw_M, M9 = va_up M q5 (some (.inr (5, [.null, .int (0), .int (0), .int (0)]))) := ⟨_, rfl⟩
  rw [← hM1] at hM
  have wd := mw_un hM1 hq5 wd
  have w_q5 := mw_us hM1
  have hF := mw_fn hM1 hq5 hF
  have hA := mn_nn hM1 hq5 hA
  refine lv_dup hx hb dd_Wa_init_8 rfl ?_
  refine mw_IN (As := []) (rest := [.ref q5, .ref d]) E (cc_Rs_init l D z (M1) q5 (d :: (L0)) hA w_q5) ky_Rs_init kv_Rs_init tw_Wa_9 hM hS rfl hl.1 rfl (Nat.le_of_ble_eq_true rfl) dd_Wa_init_9 (by decide) (by decide) (fun v M1 H locs hp hM hS => ?_)
  obtain ⟨rfl, r9, w_q5, w_r9, hA, hF2⟩ := hp
  have wd := hF2.at wd (mn_in 0 rfl)
  have hF := hF.trans (hF2.mono (mn_suf (pre := d :: ([]))))
  have w_q5 : M1 q5 = some (.inr (5, [.ref r9, .int (0), .int (0), .int (0)])) := w_q5
  refine pf_Wa_10 E hnm hM hS wd (Nat.le_of_ble_eq_true rfl) dd_Wa_init_12 (fun H locs hM hS => ?_)
  have hM : mw_at D mg_cl z (va_up M1 d (some (.inr (12, [.null, .int (0), .ref q5, .int (0)])))) H := hM
  obtain ⟨M1, hM1⟩ : ∃ M9 : mw_M, M9 = va_up M1 d (some (.inr (12, [.null, .int (0), .ref q5, .int (0)]))) := ⟨_, rfl⟩
  rw [← hM1] at hM
  have w_q5 := mw_uu hM1 w_q5 (mw_ne w_q5 wd (fun q => by cases q))
  have w_r9 := mw_uu hM1 w_r9 (mw_ne w_r9 wd (fun q => by cases q))
  have wd := mw_us hM1
  have hA := mn_uu hM1 hA
  have hF := mw_fu hM1 hF (mn_out (pre := r9 :: (q5 :: (d :: ([])))) hA 2 rfl)
  refine lv_aload_n hx hb dd_Wa_init_15 rfl (lv_at hl 0 rfl) ?_
  refine lv_aload_n hx hb dd_Wa_init_16 rfl (lv_at hl 1 rfl) ?_
  refine pf_Wa_16 E hnm hM hS wd (Nat.le_of_ble_eq_true rfl) dd_Wa_init_17 (fun H locs hM hS => ?_)
  have hM : mw_at D mg_cl z (va_up M1 d (some (.inr (12, [.ref w_a, .int (0), .ref q5, .int (0)])))) H := hM
  obtain ⟨M1, hM1⟩ : ∃ M9 : mw_M, M9 = va_up M1 d (some (.inr (12, [.ref w_a, .int (0), .ref q5, .int (0)]))) := ⟨_, rfl⟩
  rw [← hM1] at hM
  have w_q5 := mw_uu hM1 w_q5 (mw_ne w_q5 wd (fun q => by cases q))
  have w_r9 := mw_uu hM1 w_r9 (mw_ne w_r9 wd (fun q => by cases q))
  have wd := mw_us hM1
  have hA := mn_uu hM1 hA
  have hF := mw_fu hM1 hF (mn_out (pre := r9 :: (q5 :: (d :: ([])))) hA 2 rfl)
  refine lv_aload_n hx hb dd_Wa_init_20 rfl (lv_at hl 0 rfl) ?_
  refine lv_iload_n hx hb dd_Wa_init_21 rfl (lv_at hl 2 rfl) ?_
  refine pf_Wa_20 E hnm hM hS wd (Nat.le_of_ble_eq_true rfl) dd_Wa_init_22 (fun H locs hM hS => ?_)
  have hM : mw_at D mg_cl z (va_up M1 d (some (.inr (12, [.ref w_a, .int (w_s), .ref q5, .int (0)])))) H := hM
  obtain ⟨M1, hM1⟩ : ∃ M9 : mw_M, M9 = va_up M1 d (some (.inr (12, [.ref w_a, .int (w_s), .ref q5, .int (0)]))) := ⟨_, rfl⟩
  rw [← hM1] at hM
  have w_q5 := mw_uu hM1 w_q5 (mw_ne w_q5 wd (fun q => by cases q))
  have w_r9 := mw_uu hM1 w_r9 (mw_ne w_r9 wd (fun q => by cases q))
  have wd := mw_us hM1
  have hA := mn_uu hM1 hA
  have hF := mw_fu hM1 hF (mn_out (pre := r9 :: (q5 :: (d :: ([])))) hA 2 rfl)
  refine mr_v E hr hk hM hS (by decide) (by decide) ?_ dd_Wa_init_25
  exact ⟨rfl, q5, r9, wd, w_q5, w_r9, hA, hF⟩
