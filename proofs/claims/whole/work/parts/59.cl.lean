/-! ArrayList.clear over al_is; lists and frames -/
theorem cc_AL_clear_z (l : Launch) (D : va_G) (z : Nat) (M : mw_M) (a r k cap : Nat) (mo : Int32) (g : Nat → Option Nat) (wa : M a = some (.inr (4, [.ref r, .int (nI k), .int mo]))) (wr : M r = some (.inl (D.1 103, cap, .inr (.inr (.inr (.inr g)))))) (hkc : k ≤ cap) (hcap : cap < 2 ^ 20) (hgz : ∀ i : Nat, k ≤ i → g i = none) : mw_C l yy_AL_clear bb_AL_clear 4 (Option.none : Option Jvm.ClassFile.FieldType) 0 0 0 0 D z M [.ref a] (fun v M' => v = none ∧ M' a = some (.inr (4, [.ref r, .int (nI 0), .int (mo + nI 1)])) ∧ M' r = some (.inl (D.1 103, cap, .inr (.inr (.inr (.inr (fun _ => none)))))) ∧ mw_fr (fun q => q = a ∨ q = r) M M') := by
  refine mw_of (by decide) (Nat.le_of_ble_eq_true rfl) ?_
  intro p e s m below meth c ls E hr hk hnm hM hl
  have hx := E.x
  have hb := E.b
  have E : mw_E p m c bb_AL_clear 4 s _ D z "java/util/ArrayList" := E
  have hl : lv_has ls 4 [(0, .ref a)] := hl
  have hS : va_S (mw_A z) s.heap s.heap [] := va_S.rf
  have hF : mw_fr (fun q => q = a ∨ q = r) M M := mw_fr.rf
  refine lv_aload_n hx hb dd_AL_clear_0 rfl (lv_at hl 0 rfl) ?_
  refine lv_dup hx hb dd_AL_clear_1 rfl ?_
  refine gf_AL_63 E hM wa rfl dd_AL_clear_2 ?_
  refine lv_iconst (v := nI 1) hx hb dd_AL_clear_5 (by decide) ?_
  refine lv_iadd hx hb dd_AL_clear_6 ?_
  refine pf_AL_63 E hM hS wa (Nat.le_of_ble_eq_true rfl) dd_AL_clear_7 (fun H locs hM hS => ?_)
  have hM : mw_at D mg_cl z (va_up M a (some (.inr (4, [.ref r, .int (nI k), .int (mo + (nI 1))])))) H := hM
  obtain ⟨M1, hM1⟩ : ∃ M9 : mw_M, M9 = va_up M a (some (.inr (4, [.ref r, .int (nI k), .int (mo + (nI 1))]))) := ⟨_, rfl⟩
  rw [← hM1] at hM
  have wr := mw_uu hM1 wr (mw_ne wr wa (fun q => by cases q))
  have wa := mw_us hM1
  have hF := mw_fu hM1 hF (Or.inl rfl)
  refine lv_aload_n hx hb dd_AL_clear_10 rfl (lv_at hl 0 rfl) ?_
  refine gf_AL_9 E hM wa rfl dd_AL_clear_11 ?_
  refine lv_astore_n (lv' := [(1, .ref r), (0, .ref a)]) hx hb dd_AL_clear_14 rfl hl (by decide) rfl (fun ls hl => ?_)
  refine lv_aload_n hx hb dd_AL_clear_15 rfl (lv_at hl 1 rfl) ?_
  refine gf_AL_48 E hM wa rfl dd_AL_clear_16 ?_
  refine lv_istore_n (lv' := [(2, .int (nI k)), (1, .ref r), (0, .ref a)]) hx hb dd_AL_clear_19 rfl hl (by decide) rfl (fun ls hl => ?_)
  refine lv_aload_n hx hb dd_AL_clear_20 rfl (lv_at hl 2 rfl) ?_
  refine lv_iconst (v := nI 0) hx hb dd_AL_clear_21 (by decide) ?_
  refine lv_dup_x1 hx hb dd_AL_clear_22 rfl rfl ?_
  refine pf_AL_48 E hM hS wa (Nat.le_of_ble_eq_true rfl) dd_AL_clear_23 (fun H locs hM hS => ?_)
  have hM : mw_at D mg_cl z (va_up M1 a (some (.inr (4, [.ref r, .int (nI 0), .int (mo + (nI 1))])))) H := hM
  obtain ⟨M1, hM1⟩ : ∃ M9 : mw_M, M9 = va_up M1 a (some (.inr (4, [.ref r, .int (nI 0), .int (mo + (nI 1))]))) := ⟨_, rfl⟩
  rw [← hM1] at hM
  have wr := mw_uu hM1 wr (mw_ne wr wa (fun q => by cases q))
  have wa := mw_us hM1
  have hF := mw_fu hM1 hF (Or.inl rfl)
  refine lv_istore_n (lv' := [(3, .int (nI 0)), (2, .int (nI k)), (1, .ref r), (0, .ref a)]) hx hb dd_AL_clear_26 rfl hl (by decide) rfl (fun ls hl => ?_)
  have loop27 : ∀ (d : Nat) (i : Nat) (g1 : Nat → Option Nat) (M1 : mw_M) (H : Heap) (locs : List Loc) (ls : Array Slot), i + d = k → (∀ j : Nat, j < i → g1 j = none) → (∀ j : Nat, k ≤ j → g1 j = none) → M1 a = some (.inr (4, [.ref r, .int (nI 0), .int (mo + nI 1)])) → M1 r = some (.inl (D.1 103, cap, .inr (.inr (.inr (.inr g1))))) → mw_fr (fun q => q = a ∨ q = r) M M1 → mw_at D mg_cl z M1 H → va_S (mw_A z) s.heap H locs → lv_has ls 4 [(3, .int (nI i)), (2, .int (nI k)), (1, .ref r), (0, .ref a)] → W p l e ({ frames := 0, cells := 0, slots := 0, locals := 0 } : Room) s m ([.ref a] : List Value).toArray below meth c H locs (0) (0) (MQ below (mw_Q D z (fun v M' => v = none ∧ M' a = some (.inr (4, [.ref r, .int (nI 0), .int (mo + nI 1)])) ∧ M' r = some (.inl (D.1 103, cap, .inr (.inr (.inr (.inr (fun _ => none)))))) ∧ mw_fr (fun q => q = a ∨ q = r) M M')) ([.ref a] : List Value).toArray s 0 0 (mw_A z)) (F0 m 27 ls []) := by
    intro d
    induction d with
    | zero =>
      intro i g1 M1 H locs ls hi hz hzk wa wr hF hM hS hl
      refine lv_iload_n hx hb dd_AL_clear_27 rfl (lv_at hl 0 rfl) ?_
      refine lv_iload_n hx hb dd_AL_clear_28 rfl (lv_at hl 1 rfl) ?_
      refine lv_icmp_ge (tgt := 42) hx hb dd_AL_clear_29 (by decide) (fun h29 => ?_) (fun h29 => ?_)
      ·
        rw [nI_leI (by omega) (by omega)] at h29
        refine mr_v E hr hk hM hS (by decide) (by decide) ?_ dd_AL_clear_42
        have g0 : g1 = fun _ => none := funext (fun j => if q : j < k then hz j (by omega) else hzk j (by omega))
        rw [g0] at wr
        exact ⟨rfl, wa, wr, hF⟩
      ·
        rw [nI_leI (by omega) (by omega)] at h29
        omega
    | succ d ih =>
      intro i g1 M1 H locs ls hi hz hzk wa wr hF hM hS hl
      refine lv_iload_n hx hb dd_AL_clear_27 rfl (lv_at hl 0 rfl) ?_
      refine lv_iload_n hx hb dd_AL_clear_28 rfl (lv_at hl 1 rfl) ?_
      refine lv_icmp_ge (tgt := 42) hx hb dd_AL_clear_29 (by decide) (fun h29 => ?_) (fun h29 => ?_)
      ·
        rw [nI_leI (by omega) (by omega)] at h29
        omega
      ·
        rw [nI_leI (by omega) (by omega)] at h29
        refine lv_aload_n hx hb dd_AL_clear_32 rfl (lv_at hl 2 rfl) ?_
        refine lv_iload_n hx hb dd_AL_clear_33 rfl (lv_at hl 0 rfl) ?_
        refine lv_null hx hb dd_AL_clear_34 ?_
        refine mw_astqN hx hb E.K hM E.zz hS 3 wr rfl (vp_in_nI (by omega) (by omega)) dd_AL_clear_35 (fun H locs hM hS => ?_)
        rw [nI_clamp (by omega)] at hM
        have hM : mw_at D mg_cl z (va_up M1 r (some (.inl (D.1 103, cap, .inr (.inr (.inr (.inr (va_up g1 i none)))))))) H := hM
        obtain ⟨M1, hM1⟩ : ∃ M9 : mw_M, M9 = va_up M1 r (some (.inl (D.1 103, cap, .inr (.inr (.inr (.inr (va_up g1 i none))))))) := ⟨_, rfl⟩
        rw [← hM1] at hM
        have wa := mw_uu hM1 wa (mw_ne wa wr (fun q => by cases q))
        have wr := mw_us hM1
        have hF := mw_fu hM1 hF (Or.inr rfl)
        refine lv_iinc (k := 0) (v := nI (i + 1)) (lv' := [(3, .int (nI (i + 1))), (2, .int (nI k)), (1, .ref r), (0, .ref a)]) hx hb dd_AL_clear_36 hl rfl (nI_1 _) (by decide) rfl (fun ls hl => ?_)
        refine lv_goto (tgt := 27) hx hb dd_AL_clear_39 (by decide) ?_
        exact ih (i + 1) (va_up g1 i none) M1 H locs ls (by omega) (fun j hj => if q : j = i then (by rw [q]; exact va_up_self _ _ _) else (va_up_ne _ _ q).trans (hz j (by omega))) (fun j hj => (va_up_ne _ _ (by omega)).trans (hzk j hj)) wa wr hF hM hS (lv_sub hl [0, 1, 2, 3] rfl)
  exact loop27 k 0 g M1 H locs ls (by omega) (fun j hj => absurd hj (by omega)) hgz wa wr hF hM hS (lv_sub hl [0, 1, 2, 3] rfl)
theorem al_clear (l : Launch) (D : va_G) (z : Nat) (M : mw_M) {a ar k cap : Nat} {mo : Int32} {g : Nat → Option Nat} (h : al_is D M a ar k cap mo g) : mw_C l yy_AL_clear bb_AL_clear 4 (Option.none : Option Jvm.ClassFile.FieldType) 0 0 0 0 D z M [.ref a] (fun v M' => v = none ∧ al_is D M' a ar 0 cap (mo + nI 1) (fun _ => none) ∧ mw_fr (fun q => q = a ∨ q = ar) M M') := by
  obtain ⟨wa, hkc, hgz, hc⟩ := h
  rcases hc with ⟨rfl, rfl⟩ | ⟨hcap, wr⟩
  · have k0 : k = 0 := by omega
    subst k0
    refine mw_mono (fun v M' hp => ?_) (mw_room (by decide) (by decide) (by decide) (by decide) (cc_AL_clear_0 l D z M a mo wa))
    obtain ⟨rfl, w1, hF⟩ := hp
    exact ⟨rfl, ⟨w1, Nat.le_refl _, fun _ _ => rfl, Or.inl ⟨rfl, rfl⟩⟩, hF.mono (fun q h => Or.inl h)⟩
  · refine mw_mono (fun v M' hp => ?_) (mw_room (by decide) (by decide) (by decide) (by decide) (cc_AL_clear_z l D z M a ar k cap mo g wa wr hkc (by omega) hgz))
    obtain ⟨rfl, w1, w2, hF⟩ := hp
    exact ⟨rfl, ⟨w1, Nat.zero_le _, fun _ _ => rfl, Or.inr ⟨hcap, w2⟩⟩, hF⟩
theorem al_is.fr {D : va_G} {P : Nat → Prop} {M M1 : mw_M} {a ar k cap : Nat} {mo : Int32} {g : Nat → Option Nat} (h : al_is D M a ar k cap mo g) (hF : mw_fr P M M1) (h1 : ¬ P a) (h2 : ¬ P ar) : al_is D M1 a ar k cap mo g :=
  ⟨hF.at h.1 h1, h.2.1, h.2.2.1, h.2.2.2.imp id (fun q => ⟨q.1, hF.at q.2 h2⟩)⟩
theorem el_ok.fr {P : Nat → Prop} {M M1 : mw_M} {f : Nat → Option Nat} {k : Nat} (hel : el_ok M f k) (hF : mw_fr P M M1) (hp : ∀ i y : Nat, f i = some y → ¬ P y) : el_ok M1 f k := fun i hi y hy => by
  obtain ⟨ci, vs, rr, w, h1, h2⟩ := hel i hi y hy
  exact ⟨ci, vs, rr, hF.at w (hp i y hy), h1, h2⟩
theorem mw_fr.fresh {P : Nat → Prop} {M M1 M2 : mw_M} (h : mw_fr (fun q => P q ∨ M q = none) M M1) (h2 : mw_fr (fun q => P q ∨ M1 q = none) M1 M2) : mw_fr (fun q => P q ∨ M q = none) M M2 :=
  ⟨fun q e hq hm => h2.1 q e (fun z => z.elim (fun z => hq (Or.inl z)) (fun z => absurd z (h.2 q (by rw [hm]; exact fun q => by cases q)))) (h.1 q e hq hm), fun q hq => h2.2 q (h.2 q hq)⟩
