section LSL
variable {p : Program} {e : Env} {s : State} {m : MethodId} {below : List Frame} {meth : Method} {c : Code} {l : Launch} {b L : Nat} {xs : Nat → Int32} {D : va_G} {z x mm : Nat}
set_option maxRecDepth 100000 in
set_option maxHeartbeats 4000000 in
theorem ls_loop (E : mw_E p m c code 4 s #[Value.ref b] D z "IdentityIssuerLaw") (hX : va_X b L xs s s.heap) (hbl : b < s.heap.size) (hbA : ¬ mw_A z b) (hL : L ≤ 3073) (hr : meth.sig.returnType = ret) (hlk : meth.locks = false) (hz : z = s.heap.size) (Inv : Nat → mw_M → Prop) (hstep : ∀ (j : Nat) (M : mw_M) (k : Nat), Inv j M → 1 + 6 * (j + 1) ≤ L → k < 18 → xs (1 + 6 * j) &&& nI 31 = nI k → ls_case l D z x mm (fun q => xs (1 + 6 * j + q)) M (Inv (j + 1)) k) (hskip : ∀ (j : Nat) (M : mw_M), Inv j M → 1 + 6 * (j + 1) ≤ L → Inv (j + 1) M) :
    ∀ (d j : Nat) (M : mw_M) (H : Heap) (locs : List Loc) (ls : Array Slot), j + d = 513 → Inv j M → mw_at D mg_cl z M H → va_S (mw_A z) s.heap H locs → lv_has ls 4 [(3, .int (nI (1 + 6 * j))), (2, .ref mm), (1, .ref x), (0, .ref b)] → W p l e room_1 s m #[Value.ref b] below meth c H locs (100 + 50 * j) (5000 + 1500 * j) (lw_Z below #[Value.ref b] s) (F0 m 28 ls []) := by
  have hx := E.x
  have hb := E.b
  intro d
  induction d with
  | zero =>
    intro j M H locs ls hj hI hM hS hl
    refine lv_iload_n hx hb dd_La_law_28 rfl (lv_at hl 0 rfl) ?_
    refine lv_aload_n hx hb dd_La_law_29 rfl (lv_at hl 3 rfl) ?_
    refine va_slen hx hb hX hbl hbA hS dd_La_law_30 ?_
    refine mw_topi (y := nI L) rfl ?_
    refine lv_bipush (v := nI 6) hx hb dd_La_law_31 (by decide) ?_
    refine lv_isub hx hb dd_La_law_33 ?_
    refine lv_icmp_gt (tgt := 624) hx hb dd_La_law_34 (by decide) (fun h34 => ?_) (fun h34 => ?_)
    · refine lv_iconst (v := 1) hx hb dd_La_law_624 (by decide) ?_
      refine va_forget (fun q hq => by have := hS.2.2 q hq; rw [hz] at this; exact this) ?_
      exact W.widen (k := 600000) (n := 7302250) (by omega) (by omega) (lw_ret hx hb hr hlk dd_La_law_625)
    · rw [Int32.lt_iff_toInt_lt, pk_sub_toInt (by omega) (by decide), nI_toInt (by omega)] at h34
      omega
  | succ d ih =>
    intro j M H locs ls hj hI hM hS hl
    refine lv_iload_n hx hb dd_La_law_28 rfl (lv_at hl 0 rfl) ?_
    refine lv_aload_n hx hb dd_La_law_29 rfl (lv_at hl 3 rfl) ?_
    refine va_slen hx hb hX hbl hbA hS dd_La_law_30 ?_
    refine mw_topi (y := nI L) rfl ?_
    refine lv_bipush (v := nI 6) hx hb dd_La_law_31 (by decide) ?_
    refine lv_isub hx hb dd_La_law_33 ?_
    refine lv_icmp_gt (tgt := 624) hx hb dd_La_law_34 (by decide) (fun h34 => ?_) (fun h34 => ?_)
    · refine lv_iconst (v := 1) hx hb dd_La_law_624 (by decide) ?_
      refine va_forget (fun q hq => by have := hS.2.2 q hq; rw [hz] at this; exact this) ?_
      exact W.widen (k := 600000) (n := 7302250) (by omega) (by omega) (lw_ret hx hb hr hlk dd_La_law_625)
    · rw [Int32.lt_iff_toInt_lt, pk_sub_toInt (by omega) (by decide), nI_toInt (by omega)] at h34
      have hj6 : 1 + 6 * (j + 1) ≤ L := by omega
      refine lv_aload_n hx hb dd_La_law_37 rfl (lv_at hl 3 rfl) ?_
      refine lv_iload_n hx hb dd_La_law_38 rfl (lv_at hl 0 rfl) ?_
      refine va_sld hx hb hX hbl hbA hS (vp_in_nI (by omega) (by omega)) dd_La_law_39 ?_
      refine mw_topi (y := xs (1 + 6 * j)) (by rw [nI_clamp (by omega)]) ?_
      refine lv_bipush (v := nI 31) hx hb dd_La_law_40 (by decide) ?_
      refine lv_iand hx hb dd_La_law_42 ?_
      obtain ⟨k, hk, ek⟩ := ls_31 (xs (1 + 6 * j))
      refine mw_topi ek ?_
      have hgo : ∀ (M2 : mw_M) (H : Heap) (locs : List Loc), Inv (j + 1) M2 → mw_at D mg_cl z M2 H → va_S (mw_A z) s.heap H locs → W p l e room_1 s m #[Value.ref b] below meth c H locs (100 + 50 * (j + 1)) (5000 + 1500 * (j + 1)) (lw_Z below #[Value.ref b] s) (F0 m 618 ls []) := by
        intro M2 H locs hI2 hM hS
        refine lv_iinc (k := 0) (v := nI (1 + 6 * (j + 1))) (lv' := [(3, .int (nI (1 + 6 * (j + 1)))), (2, .ref mm), (1, .ref x), (0, .ref b)]) hx hb dd_La_law_618 hl rfl ((nI_add _ _).trans (by rw [show 1 + 6 * j + 6 = 1 + 6 * (j + 1) by omega])) (by decide) rfl (fun ls hl => ?_)
        refine lv_goto (tgt := 28) hx hb dd_La_law_621 (by decide) ?_
        exact ih (j + 1) M2 H locs ls (by omega) hI2 hM hS hl
      by_cases hk18 : k < 18
      · have hc := hstep j M k hI hj6 hk18 ek
        rcases (show k = 0 ∨ k = 1 ∨ k = 2 ∨ k = 3 ∨ k = 4 ∨ k = 5 ∨ k = 6 ∨ k = 7 ∨ k = 8 ∨ k = 9 ∨ k = 10 ∨ k = 11 ∨ k = 12 ∨ k = 13 ∨ k = 14 ∨ k = 15 ∨ k = 16 ∨ k = 17 by omega) with rfl | rfl | rfl | rfl | rfl | rfl | rfl | rfl | rfl | rfl | rfl | rfl | rfl | rfl | rfl | rfl | rfl | rfl
        · refine lv_tableIn (off := 85) (tgt := 128) hx hb dd_La_law_43 (by decide) (by decide) (by decide) (by decide) ?_
          exact ls_c0 E hX hbl hbA hL hj6 hM hS hl hc hgo
        · refine lv_tableIn (off := 118) (tgt := 161) hx hb dd_La_law_43 (by decide) (by decide) (by decide) (by decide) ?_
          exact ls_c1 E hX hbl hbA hL hj6 hM hS hl hc hgo
        · refine lv_tableIn (off := 131) (tgt := 174) hx hb dd_La_law_43 (by decide) (by decide) (by decide) (by decide) ?_
          exact ls_c2 E hX hbl hbA hL hj6 hM hS hl hc hgo
        · refine lv_tableIn (off := 194) (tgt := 237) hx hb dd_La_law_43 (by decide) (by decide) (by decide) (by decide) ?_
          exact ls_c3 E hX hbl hbA hL hj6 hM hS hl hc hgo
        · refine lv_tableIn (off := 217) (tgt := 260) hx hb dd_La_law_43 (by decide) (by decide) (by decide) (by decide) ?_
          exact ls_c4 E hX hbl hbA hL hj6 hM hS hl hc hgo
        · refine lv_tableIn (off := 266) (tgt := 309) hx hb dd_La_law_43 (by decide) (by decide) (by decide) (by decide) ?_
          exact ls_c5 E hX hbl hbA hL hj6 hM hS hl hc hgo
        · refine lv_tableIn (off := 299) (tgt := 342) hx hb dd_La_law_43 (by decide) (by decide) (by decide) (by decide) ?_
          exact ls_c6 E hX hbl hbA hL hj6 hM hS hl hc hgo
        · refine lv_tableIn (off := 322) (tgt := 365) hx hb dd_La_law_43 (by decide) (by decide) (by decide) (by decide) ?_
          exact ls_c7 E hX hbl hbA hL hj6 hM hS hl hc hgo
        · refine lv_tableIn (off := 355) (tgt := 398) hx hb dd_La_law_43 (by decide) (by decide) (by decide) (by decide) ?_
          exact ls_c8 E hX hbl hbA hL hj6 hM hS hl hc hgo
        · refine lv_tableIn (off := 388) (tgt := 431) hx hb dd_La_law_43 (by decide) (by decide) (by decide) (by decide) ?_
          exact ls_c9 E hX hbl hbA hL hj6 hM hS hl hc hgo
        · refine lv_tableIn (off := 411) (tgt := 454) hx hb dd_La_law_43 (by decide) (by decide) (by decide) (by decide) ?_
          exact ls_c10 E hX hbl hbA hL hj6 hM hS hl hc hgo
        · refine lv_tableIn (off := 444) (tgt := 487) hx hb dd_La_law_43 (by decide) (by decide) (by decide) (by decide) ?_
          exact ls_c11 E hX hbl hbA hL hj6 hM hS hl hc hgo
        · refine lv_tableIn (off := 467) (tgt := 510) hx hb dd_La_law_43 (by decide) (by decide) (by decide) (by decide) ?_
          exact ls_c12 E hX hbl hbA hL hj6 hM hS hl hc hgo
        · refine lv_tableIn (off := 480) (tgt := 523) hx hb dd_La_law_43 (by decide) (by decide) (by decide) (by decide) ?_
          exact ls_c13 E hX hbl hbA hL hj6 hM hS hl hc hgo
        · refine lv_tableIn (off := 513) (tgt := 556) hx hb dd_La_law_43 (by decide) (by decide) (by decide) (by decide) ?_
          exact ls_c14 E hX hbl hbA hL hj6 hM hS hl hc hgo
        · refine lv_tableIn (off := 526) (tgt := 569) hx hb dd_La_law_43 (by decide) (by decide) (by decide) (by decide) ?_
          exact ls_c15 E hX hbl hbA hL hj6 hM hS hl hc hgo
        · refine lv_tableIn (off := 539) (tgt := 582) hx hb dd_La_law_43 (by decide) (by decide) (by decide) (by decide) ?_
          exact ls_c16 E hX hbl hbA hL hj6 hM hS hl hc hgo
        · refine lv_tableIn (off := 552) (tgt := 595) hx hb dd_La_law_43 (by decide) (by decide) (by decide) (by decide) ?_
          exact ls_c17 E hX hbl hbA hL hj6 hM hS hl hc hgo
      · refine lv_tableOut (tgt := 618) hx hb dd_La_law_43 (Or.inr (by rw [nI_toInt (by omega)]; omega)) (by decide) ?_
        exact W.widen (k := 100 + 50 * (j + 1)) (n := 5000 + 1500 * (j + 1)) (by omega) (by omega) (hgo M H locs (hskip j M hI hj6) hM hS)
end LSL
