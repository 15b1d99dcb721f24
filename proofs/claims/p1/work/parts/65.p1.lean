/-! one call on fresh objects -/
theorem xi_has_0 (i : Int32) : xi_has 0 i = false := by
  simp only [xi_has, Bool.and_eq_false_iff, decide_eq_false_iff_not]
  omega
def mo_F (V : List Value) : Nat → Value := fun k => V.getD k .null
theorem mo_l_F {V : List Value} (h : V.length = 52) : mo_l (mo_F V) = V := by
  apply List.ext_getElem?
  intro j
  by_cases hj : j < 52
  · rw [mo_at hj, mo_F, List.getD_eq_getElem?_getD, List.getElem?_eq_getElem (by omega)]
    rfl
  · rw [List.getElem?_eq_none (by rw [mo_len]; omega), List.getElem?_eq_none (by omega)]
theorem p1_life (life : Int32) : ∃ lf : Nat, 32 ≤ lf ∧ lf ≤ 256 ∧ (if (nI 32) < (if life < (nI 256) then life else (nI 256)) then (if life < (nI 256) then life else (nI 256)) else (nI 32)) = nI lf ∧ mo_life life = nI lf := by
  by_cases h1 : life < nI 32
  · refine ⟨32, by decide, by decide, ?_, by rw [mo_life, if_pos h1]⟩
    have h2 : life < nI 256 := Int32.lt_trans h1 (by decide)
    rw [if_pos h2, if_neg (fun q => Int32.lt_irrefl (Int32.lt_trans q h1))]
  · by_cases h2 : nI 256 < life
    · refine ⟨256, by decide, by decide, ?_, by rw [mo_life, if_neg h1, if_pos h2]⟩
      rw [if_neg (fun q => Int32.lt_irrefl (Int32.lt_trans q h2)), if_pos (by decide)]
    · have h0 : ¬ life < 0 := fun q => h1 (Int32.lt_trans q (by decide))
      obtain ⟨j, hj, rfl⟩ := nI_of h0
      rw [nI_ltI hj (by decide)] at h1
      rw [nI_ltI (by decide) hj] at h2
      refine ⟨j, by omega, by omega, ?_, by rw [mo_life, if_neg (nI_nlt (by omega) hj), if_neg (nI_nlt (by omega) (by decide))]⟩
      by_cases h3 : j < 256
      · rw [if_pos (nI_lt h3 (by decide))]
        by_cases h4 : 32 < j
        · rw [if_pos (nI_lt h4 hj)]
        · rw [if_neg (nI_nlt (by omega) (by decide)), show j = 32 by omega]
      · rw [if_neg (nI_nlt (by omega) hj), if_pos (by decide), show j = 256 by omega]
theorem ls_bz (x : Int32) : ls_b x = zI (!decide (x = 0)) := by
  unfold ls_b
  by_cases h : x = 0
  · rw [if_pos h, decide_eq_true h]
    rfl
  · rw [if_neg h, decide_eq_false h]
    rfl
theorem p1_kg {lf : Nat} (h : 0 < lf) : ky_good 1 lf (fun _ => 0) (nI 0) 0 = true := by
  rw [ky_goodN (by decide)]
  simp only [Bool.and_eq_true, decide_eq_true_eq]
  omega
theorem p1_kn {kc lf : Nat} {g : Nat → Nat} {cl : Nat} : ky_good kc lf g (-1) cl = false := by
  have e : (-1 : Int32).toInt = -1 := by decide
  simp only [ky_good, e, Bool.and_eq_false_iff, decide_eq_false_iff_not]
  omega
theorem p1_mn {kc lf : Nat} {g : Nat → Nat} {cl : Nat} : mo_good kc lf g (-1) cl = false := by
  have e : (-1 : Int32).toInt = -1 := by decide
  simp only [mo_good, e, Bool.and_eq_false_iff, decide_eq_false_iff_not]
  omega
theorem p1_may {lf : Nat} (h : 0 < lf) : (!ky_good 1 lf (fun _ => 0) (-1) 0 && decide (1 < ky_first 1 lf (fun _ => 0) 0 + 4)) = true := by
  rw [p1_kn]
  simp
theorem p1_mm {lf : Nat} (h : 0 < lf) : (!mo_good 1 lf (fun _ => 0) (-1) 0 && decide (mo_cnt 1 lf (fun _ => 0) 0 1 < 4)) = true := by
  rw [p1_mn]
  have := mo_cnt_le 1 lf (fun _ => 0) 0 1
  simp
  omega
set_option maxRecDepth 100000 in
set_option maxHeartbeats 8000000 in
theorem p1_hI (l : Launch) (z : Nat) {L : Nat} (xs : Nat → Int32) (hL7 : L ≤ 7) : ∀ (D : va_G) (x mm : Nat) (life : Int32), ∃ Inv : Nat → mw_M → Prop, (∀ (M : mw_M) (L1 L2 : List Nat), lf_X D M x life [] L1 → lf_M D M mm life L1 L2 → mn_l L2 M → Inv 0 M) ∧
      (∀ (j : Nat) (M : mw_M) (k : Nat), Inv j M → 1 + 6 * (j + 1) ≤ L → k < 18 → xs (1 + 6 * j) &&& nI 31 = nI k → ls_case l D z x mm (fun q => xs (1 + 6 * j + q)) M (Inv (j + 1)) k) ∧ ∀ (j : Nat) (M : mw_M), Inv j M → 1 + 6 * (j + 1) ≤ L → Inv (j + 1) M := by
  intro D x mm life
  refine ⟨fun j M => match j with | 0 => ∃ L1 L2, lf_X D M x life [] L1 ∧ lf_M D M mm life L1 L2 ∧ mn_l L2 M | _ + 1 => True, fun M L1 L2 h1 h2 h3 => ⟨L1, L2, h1, h2, h3⟩, ?_, fun j M _ _ => trivial⟩
  intro j M k hI hj hk _
  obtain rfl : j = 0 := by omega
  obtain ⟨L1, L2, h1, h2, hA⟩ := hI
  obtain ⟨r115, q115, l104, q104, q93, r82, y82, q82, r71, y71, q71, l60, q60, q49, q38, l27, q27, de, le, t, q16, r5, q5, wx, w_r115, w_q115, w_l104, w_q104, w_q93, w_r82, w_y82, w_q82, w_r71, w_y71, w_q71, w_l60, w_q60, w_q49, w_q38, w_l27, w_q27, w_de, w_le, w_t, w_q16, w_r5, w_q5, hrow, rfl⟩ := h1
  obtain ⟨m_q250, m_q242, m_q234, m_q227, m_q219, m_q212, m_q204, m_q197, m_q189, m_q182, m_q175, m_q168, m_q161, m_q154, m_q146, m_q137, m_q128, m_q119, m_q110, m_q103, m_q96, m_q88, m_q80, m_q72, m_q64, m_q56, m_q48, m_q41, m_q32, m_q24, m_q16, m_q7, wm, hW, rfl⟩ := h2
  obtain ⟨lf, hlf1, hlf2, hlfx, hlfm⟩ := p1_life life
  rw [hlfx] at w_q115
  rw [hlfm] at wm
  obtain ⟨VV, hVV⟩ : ∃ V9 : List Value, V9 = [.int (nI lf), .int 0, .ref m_q7, .int 0, .int 0, .ref m_q16, .ref m_q24, .ref m_q32, .int 0, .int (nI 1), .ref m_q41, .int 0, .int (-1), .ref m_q48, .int 0, .int 0, .ref m_q56, .ref m_q64, .ref m_q72, .ref m_q80, .ref m_q88, .ref m_q96, .int 0, .int 0, .ref m_q103, .ref m_q110, .ref m_q119, .ref m_q128, .ref m_q137, .ref m_q146, .ref m_q154, .ref m_q161, .ref m_q168, .int 0, .ref m_q175, .ref m_q182, .ref m_q189, .ref m_q197, .ref m_q204, .ref m_q212, .ref m_q219, .int 0, .ref m_q227, .int 0, .ref m_q234, .int 0, .int 0, .ref m_q242, .int 0, .ref m_q250, .int 0, .int 0] := ⟨_, rfl⟩
  have wm : M mm = some (.inr (13, mo_l (mo_F VV))) := by rw [mo_l_F (by rw [hVV]; rfl), hVV]; exact wm
  have hlf : mo_F VV 0 = .int (nI lf) := by rw [hVV]; rfl
  have g1 : mo_F VV 1 = .int (nI 0) := by rw [hVV]; rfl
  have g2 : mo_F VV 2 = .ref m_q7 := by rw [hVV]; rfl
  have g3 : mo_F VV 3 = .int (nI 0) := by rw [hVV]; rfl
  have g4 : mo_F VV 4 = .int (nI 0) := by rw [hVV]; rfl
  have g9 : mo_F VV 9 = .int (nI 1) := by rw [hVV]; rfl
  have g10 : mo_F VV 10 = .ref m_q41 := by rw [hVV]; rfl
  have g11 : mo_F VV 11 = .int 0 := by rw [hVV]; rfl
  have g12 : mo_F VV 12 = .int (-1) := by rw [hVV]; rfl
  have g15 : mo_F VV 15 = .int (nI 0) := by rw [hVV]; rfl
  have g22 : mo_F VV 22 = .int 0 := by rw [hVV]; rfl
  have g23 : mo_F VV 23 = .int (nI 0) := by rw [hVV]; rfl
  have g33 : mo_F VV 33 = .int (nI 0) := by rw [hVV]; rfl
  have g41 : mo_F VV 41 = .int (nI 0) := by rw [hVV]; rfl
  have g43 : mo_F VV 43 = .int (nI 0) := by rw [hVV]; rfl
  have g44 : mo_F VV 44 = .ref m_q234 := by rw [hVV]; rfl
  have g45 : mo_F VV 45 = .int 0 := by rw [hVV]; rfl
  have g50 : mo_F VV 50 = .int 0 := by rw [hVV]; rfl
  have g51 : mo_F VV 51 = .int 0 := by rw [hVV]; rfl
  rcases (show k = 0 ∨ k = 1 ∨ k = 2 ∨ k = 3 ∨ k = 4 ∨ k = 5 ∨ k = 6 ∨ k = 7 ∨ k = 8 ∨ k = 9 ∨ k = 10 ∨ k = 11 ∨ k = 12 ∨ k = 13 ∨ k = 14 ∨ k = 15 ∨ k = 16 ∨ k = 17 by omega) with rfl | rfl | rfl | rfl | rfl | rfl | rfl | rfl | rfl | rfl | rfl | rfl | rfl | rfl | rfl | rfl | rfl | rfl
  · show ls_ok l D z x mm _ _ _ _ _ _ _ _ _ M _
    by_cases hq : 1 ≤ (xs (1 + 6 * 0 + 2)).toInt ∧ (xs (1 + 6 * 0 + 2)).toInt ≤ 4
    · obtain ⟨n, hn1, hn4, en⟩ : ∃ n : Nat, 1 ≤ n ∧ n ≤ 4 ∧ xs (1 + 6 * 0 + 2) = nI n := ⟨(xs (1 + 6 * 0 + 2)).toInt.toNat, by omega, by omega, Int32.toInt_inj.mp (by rw [nI_toInt (by omega)]; omega)⟩
      show ls_ok l D z x mm _ _ _ _ _ _ _ _ [.int (xs (1 + 6 * 0 + 1)), .int (xs (1 + 6 * 0 + 2))] M _
      rw [en]
      unfold ls_ok
      refine ⟨⟨_, wx⟩, 1, 21, 0, 0, _, by decide, by decide, by decide, by decide, cc_Xi_put_y l D z M x q5 q16 q115 q27 q38 q49 q60 q71 q82 q93 q104 0 0 0 r5 0 (fun _ => 0) _ n wx w_q5 w_r5 hn1 hn4 (by omega), fun v M1 hp => ?_⟩
      obtain ⟨rfl, -, -, hF⟩ := hp
      have wr := hF.at (mo_wg hW 31 rfl) (fun q => q.elim (fun q => (mw_ne (mo_wg hW 31 rfl) w_q5 (fun q => by cases q)) q) (fun q => (mn_ne hA 31 66 rfl rfl (by decide)) q))
      have wm := hF.at wm (fun q => q.elim (fun q => (mw_ne wm w_q5 (fun q => by cases q)) q) (fun q => (mw_ne wm w_r5 (fun q => by cases q)) q))
      refine ⟨1, rfl, ⟨_, wm⟩, 1, 22, _, by decide, by decide, cc_Mo_put_y l D z M1 mm (mo_F VV) m_q7 0 (fun _ => 0) _ n wm g2 g3 wr hn1 hn4 (by omega), fun v2 M2 hp2 => ⟨?_, trivial⟩⟩
      exact hp2.1
    · have hq2 : xs (1 + 6 * 0 + 2) < nI 1 ∨ nI 4 < xs (1 + 6 * 0 + 2) := by
        rw [Int32.lt_iff_toInt_lt, Int32.lt_iff_toInt_lt, nI_toInt (by decide), nI_toInt (by decide)]
        omega
      have hq3 : xs (1 + 6 * 0 + 2) < nI 1 ∨ nI 4 < xs (1 + 6 * 0 + 2) ∨ ∃ j : Nat, xs (1 + 6 * 0 + 2) = nI j ∧ j < 2 ^ 20 ∧ 100 < 0 + j := hq2.elim Or.inl (fun q => Or.inr (Or.inl q))
      unfold ls_ok
      refine ⟨⟨_, wx⟩, 1, 20, 0, 0, _, by decide, by decide, by decide, by decide, cc_Xi_put_n l D z M x q5 q16 q115 q27 q38 q49 q60 q71 q82 q93 q104 0 0 0 r5 0 (fun _ => 0) _ _ wx w_q5 w_r5 (by decide) hq3, fun v M1 hp => ?_⟩
      obtain ⟨rfl, rfl⟩ := hp
      refine ⟨0, rfl, ⟨_, wm⟩, 1, 22, _, by decide, by decide, cc_Mo_put_n l D z M1 mm (mo_F VV) m_q7 0 (fun _ => 0) _ _ wm g2 g3 (mo_wg hW 31 rfl) (by decide) hq3, fun v2 M2 hp2 => ⟨?_, trivial⟩⟩
      exact hp2.1
  · show ls_ok l D z x mm _ _ _ _ _ _ _ _ _ M _
    unfold ls_ok
    refine ⟨⟨_, wx⟩, 5, 110, 0, 0, _, by decide, by decide, by decide, by decide, cc_Xi_id_0 l D z M x q5 q16 q115 q27 q38 q49 q60 q71 q82 q93 q104 0 0 0 r5 (fun _ => 0) wx w_q5 w_r5, fun v M1 hp => ?_⟩
    obtain ⟨rfl, hF⟩ := hp
    have wm := hF.at wm (mw_ne wm w_q5 (fun q => by cases q))
    refine ⟨-1, rfl, ⟨_, wm⟩, 4, 95, _, by decide, by decide, cc_Mo_id_0 l D z M1 mm (mo_F VV) wm g3, fun v2 M2 hp2 => ⟨?_, trivial⟩⟩
    exact hp2.1
  · show ls_ok l D z x mm _ _ _ _ _ _ _ _ _ M _
    unfold ls_ok
    refine ⟨⟨_, wx⟩, 1, 21, 0, 0, _, by decide, by decide, by decide, by decide, cc_Xi_entry_m l D z M x q5 q16 q115 q27 q38 q49 q60 q71 q82 q93 q104 0 0 0 t le de 0 _ _ _ _ _ wx w_q16 (by decide) (Or.inl (xi_has_0 _)), fun v M1 hp => ?_⟩
    obtain ⟨rfl, rfl⟩ := hp
    refine ⟨-1001, rfl, ⟨_, wm⟩, 1, 22, _, by decide, by decide, cc_Mo_entry_m l D z M1 mm (mo_F VV) 0 _ _ _ _ _ wm g4 (by decide) (Or.inl (xi_has_0 _)), fun v2 M2 hp2 => ⟨?_, trivial⟩⟩
    exact hp2.1
  · show ls_ok l D z x mm _ _ _ _ _ _ _ _ _ M _
    unfold ls_ok
    refine ⟨⟨_, wx⟩, 2, 42, 0, 0, _, by decide, by decide, by decide, by decide, cc_Xi_remove_0 l D z M x q5 q16 q115 q27 q38 q49 q60 q71 q82 q93 q104 0 0 0 l27 (D.2 200 0) 0 (nI 0) _ wx w_q27 w_l27, fun v M1 hp => ?_⟩
    obtain ⟨rfl, rfl⟩ := hp
    refine ⟨0, rfl, ⟨_, wm⟩, 1, 22, _, by decide, by decide, cc_Mo_remove_m l D z M1 mm (mo_F VV) 0 _ wm g15 (by decide) (xi_has_0 _), fun v2 M2 hp2 => ⟨?_, trivial⟩⟩
    exact hp2.1
  · show ls_ok l D z x mm _ _ _ _ _ _ _ _ _ M _
    show ls_ok l D z x mm _ _ _ _ _ _ _ _ [.int (xs (1 + 6 * 0 + 1)), .int (ls_b (xs (1 + 6 * 0 + 2)))] M _
    rw [ls_bz]
    generalize (!decide (xs (1 + 6 * 0 + 2) = 0)) = b0
    unfold ls_ok
    refine ⟨⟨_, wx⟩, 0, 0, 0, 0, _, by decide, by decide, by decide, by decide, cc_Xi_foreign l D z M x q5 q16 q115 q27 q38 q49 q60 q71 q82 q93 q104 0 0 0 _ b0 wx, fun v M1 hp => ?_⟩
    obtain ⟨hp1, hp2, hF⟩ := hp
    have wm := hF.at wm (mw_ne wm wx (fun q => by cases q))
    by_cases hq : xi_has 4 (xs (1 + 6 * 0 + 1)) = false ∨ ((0 : Int32) >>> (xs (1 + 6 * 0 + 1) &&& 31)) &&& nI 1 = zI b0
    · obtain ⟨rfl, -⟩ := hp1 hq
      refine ⟨0, rfl, ⟨_, wm⟩, 1, 22, _, by decide, by decide, cc_Mo_foreign l D z M1 mm (mo_F VV) 0 _ b0 wm g22, fun v2 M2 hp3 => ⟨?_, trivial⟩⟩
      exact (hp3.1 hq).1
    · have hq2 : xi_has 4 (xs (1 + 6 * 0 + 1)) = true ∧ ¬ ((0 : Int32) >>> (xs (1 + 6 * 0 + 1) &&& 31)) &&& nI 1 = zI b0 := ⟨Bool.of_not_eq_false (fun q => hq (Or.inl q)), fun q => hq (Or.inr q)⟩
      obtain ⟨rfl, -⟩ := hp2 hq2
      refine ⟨1, rfl, ⟨_, wm⟩, 1, 22, _, by decide, by decide, cc_Mo_foreign l D z M1 mm (mo_F VV) 0 _ b0 wm g22, fun v2 M2 hp3 => ⟨?_, trivial⟩⟩
      exact (hp3.2.1 hq2).1
  · show ls_ok l D z x mm _ _ _ _ _ _ _ _ _ M _
    unfold ls_ok
    refine ⟨⟨_, wx⟩, 1, 21, 0, 0, _, by decide, by decide, by decide, by decide, cc_Xi_attest_m l D z M x q5 q16 q115 q27 q38 q49 q60 q71 q82 q93 q104 0 0 0 t le de 0 _ _ wx w_q16 (by decide) (xi_has_0 _), fun v M1 hp => ?_⟩
    obtain ⟨rfl, rfl⟩ := hp
    refine ⟨-1001, rfl, ⟨_, wm⟩, 1, 22, _, by decide, by decide, cc_Mo_attest_m l D z M1 mm (mo_F VV) 0 _ _ wm g4 (by decide) (xi_has_0 _), fun v2 M2 hp2 => ⟨?_, trivial⟩⟩
    exact hp2.1
  · show ls_ok l D z x mm _ _ _ _ _ _ _ _ _ M _
    unfold ls_ok
    refine ⟨⟨_, wx⟩, 2, 41, 0, 0, _, by decide, by decide, by decide, by decide, cc_Xi_sync_m l D z M x q5 q16 q115 q27 q38 q49 q60 q71 q82 q93 q104 0 0 0 (D.2 200 0) 0 (nI 0) _ wx w_q38 (by decide) (xi_has_0 _), fun v M1 hp => ?_⟩
    obtain ⟨rfl, rfl⟩ := hp
    refine ⟨-1001, rfl, ⟨_, wm⟩, 1, 22, _, by decide, by decide, cc_Mo_sync_m l D z M1 mm (mo_F VV) 0 _ wm g23 (by decide) (xi_has_0 _), fun v2 M2 hp2 => ⟨?_, trivial⟩⟩
    exact hp2.1
  · show ls_ok l D z x mm _ _ _ _ _ _ _ _ _ M _
    unfold ls_ok
    refine ⟨⟨_, wx⟩, 2, 41, 0, 0, _, by decide, by decide, by decide, by decide, cc_Xi_fetch_m l D z M x q5 q16 q115 q27 q38 q49 q60 q71 q82 q93 q104 0 0 0 (D.2 200 0) 0 (nI 0) _ _ wx w_q38 (by decide) (xi_has_0 _), fun v M1 hp => ?_⟩
    obtain ⟨rfl, rfl⟩ := hp
    refine ⟨-1001, rfl, ⟨_, wm⟩, 1, 22, _, by decide, by decide, cc_Mo_fetch_m l D z M1 mm (mo_F VV) 0 _ _ wm g23 (by decide) (xi_has_0 _), fun v2 M2 hp2 => ⟨?_, trivial⟩⟩
    exact hp2.1
  · show ls_ok l D z x mm _ _ _ _ _ _ _ _ _ M _
    unfold ls_ok
    refine ⟨⟨_, wx⟩, 2, 41, 0, 0, _, by decide, by decide, by decide, by decide, cc_Xi_watch_m l D z M x q5 q16 q115 q27 q38 q49 q60 q71 q82 q93 q104 0 0 0 (D.2 200 0) 0 (nI 0) _ _ wx w_q38 (by decide) (xi_has_0 _), fun v M1 hp => ?_⟩
    obtain ⟨rfl, rfl⟩ := hp
    refine ⟨-1001, rfl, ⟨_, wm⟩, 1, 22, _, by decide, by decide, cc_Mo_watch_m l D z M1 mm (mo_F VV) 0 _ _ wm g23 (by decide) (xi_has_0 _), fun v2 M2 hp2 => ⟨?_, trivial⟩⟩
    exact hp2.1
  · show ls_ok l D z x mm _ _ _ _ _ _ _ _ _ M _
    unfold ls_ok
    refine ⟨⟨_, wx⟩, 1, 20, 0, 0, _, by decide, by decide, by decide, by decide, cc_Xi_poll_m l D z M x q5 q16 q115 q27 q38 q49 q60 q71 q82 q93 q104 0 0 0 (D.2 200 0) 0 (nI 0) _ wx w_q49 (by decide) (xi_has_0 _), fun v M1 hp => ?_⟩
    obtain ⟨rfl, rfl⟩ := hp
    refine ⟨-1001, rfl, ⟨_, wm⟩, 1, 22, _, by decide, by decide, cc_Mo_poll_m l D z M1 mm (mo_F VV) 0 _ wm g33 (by decide) (xi_has_0 _), fun v2 M2 hp2 => ⟨?_, trivial⟩⟩
    exact hp2.1
  · show ls_ok l D z x mm _ _ _ _ _ _ _ _ _ M _
    unfold ls_ok
    refine ⟨⟨_, wx⟩, 2, 41, 0, 0, _, by decide, by decide, by decide, by decide, cc_Xi_svid_m l D z M x q5 q16 q115 q27 q38 q49 q60 q71 q82 q93 q104 0 0 0 l60 (D.2 200 0) 0 0 0 0 (nI 0) _ _ wx w_q60 w_l60 (by decide) (xi_has_0 _), fun v M1 hp => ?_⟩
    obtain ⟨rfl, rfl⟩ := hp
    refine ⟨-1001, rfl, ⟨_, wm⟩, 1, 22, _, by decide, by decide, cc_Mo_svid_m l D z M1 mm (mo_F VV) 0 _ _ wm g41 (by decide) (xi_has_0 _), fun v2 M2 hp2 => ⟨?_, trivial⟩⟩
    exact hp2.1
  · show ls_ok l D z x mm _ _ _ _ _ _ _ _ _ M _
    unfold ls_ok
    refine ⟨⟨_, wx⟩, 1, 20, 0, 0, _, by decide, by decide, by decide, by decide, cc_Xi_key l D z M x q5 q16 q115 q27 q38 q49 q60 q71 q82 q93 q104 0 0 0 l60 0 0 0 _ wx w_q60 (by decide), fun v M1 hp => ?_⟩
    obtain ⟨rfl, rfl⟩ := hp
    refine ⟨-1001, by rw [if_neg (by rw [xi_has_0]; decide)], ⟨_, wm⟩, 1, 22, _, by decide, by decide, cc_Mo_key l D z M1 mm (mo_F VV) m_q234 0 (fun _ => 0) _ wm g43 g44 (mo_wg hW 2 rfl) (by decide), fun v2 M2 hp2 => ⟨?_, trivial⟩⟩
    rw [if_neg (by rw [xi_has_0]; decide)] at hp2
    exact hp2.1
  · show ls_ok l D z x mm _ _ _ _ _ _ _ _ _ M _
    unfold ls_ok
    refine ⟨⟨_, wx⟩, 0, 0, 0, 0, _, by decide, by decide, by decide, by decide, cc_Xi_friends l D z M x q5 q16 q115 q27 q38 q49 q60 q71 q82 q93 q104 0 0 0 l60 0 0 0 wx w_q60, fun v M1 hp => ?_⟩
    obtain ⟨rfl, rfl⟩ := hp
    refine ⟨0, rfl, ⟨_, wm⟩, 0, 0, _, by decide, by decide, cc_Mo_friends l D z M1 mm (mo_F VV) 0 wm g45, fun v2 M2 hp2 => ⟨?_, trivial⟩⟩
    exact hp2.1
  · show ls_ok l D z x mm _ _ _ _ _ _ _ _ _ M _
    unfold ls_ok
    refine ⟨⟨_, wx⟩, 2, 41, 0, 0, _, by decide, by decide, by decide, by decide, cc_Xi_written_m l D z M x q5 q16 q115 q27 q38 q49 q60 q71 q82 q93 q104 0 0 0 l60 (D.2 200 0) 0 0 0 0 (nI 0) _ _ wx w_q60 w_l60 (by decide) (xi_has_0 _), fun v M1 hp => ?_⟩
    obtain ⟨rfl, rfl⟩ := hp
    refine ⟨-1001, rfl, ⟨_, wm⟩, 1, 22, _, by decide, by decide, cc_Mo_written_m l D z M1 mm (mo_F VV) 0 _ _ wm g41 (by decide) (xi_has_0 _), fun v2 M2 hp2 => ⟨?_, trivial⟩⟩
    exact hp2.1
  · show ls_ok l D z x mm _ _ _ _ _ _ _ _ _ M _
    unfold ls_ok
    refine ⟨⟨_, wx⟩, 4, 88, 0, 0, _, by decide, by decide, by decide, by decide, cc_Xi_verify_0 l D z M x q5 q16 q115 q27 q38 q49 q60 q71 q82 q93 q104 0 0 0 y71 r5 0 0 0 0 0 0 0 0 (fun _ => 0) wx w_q5 w_r5 w_q71, fun v M1 hp => ?_⟩
    obtain ⟨rfl, hF⟩ := hp
    have wm := hF.at wm (fun q => q.elim (fun q => (mw_ne wm w_q5 (fun q => by cases q)) q) (fun q => (mw_ne wm w_q71 (fun q => by cases q)) q))
    refine ⟨-1, rfl, ⟨_, wm⟩, 4, 100, _, by decide, by decide, cc_Mo_verify_0 l D z M1 mm (mo_F VV) 0 0 wm g3 g50 g51, fun v2 M2 hp2 => ⟨?_, trivial⟩⟩
    exact hp2.1
  · show ls_ok l D z x mm _ _ _ _ _ _ _ _ _ M _
    unfold ls_ok
    refine ⟨⟨_, wx⟩, 4, 86, 0, 0, _, by decide, by decide, by decide, by decide, cc_Xi_prepare l D z M x q5 q16 q115 q27 q38 q49 q60 q71 q82 q93 q104 0 0 0 r115 lf 1 0 (-1) (fun _ => 0) (fun _ => 0) 0 wx w_q115 w_r115 (fun _ _ => ⟨rfl, by decide⟩) (by omega) (by decide) (by decide), fun v M1 hp => ?_⟩
    obtain ⟨hp1, -, hF⟩ := hp
    obtain ⟨rfl, -, -⟩ := hp1 (p1_may (by omega))
    have wr := hF.at (mo_wg hW 27 rfl) (fun q => q.elim (fun q => (mw_ne (mo_wg hW 27 rfl) w_q115 (fun q => by cases q)) q) (fun q => (mn_ne hA 27 33 rfl rfl (by decide)) q))
    have wm := hF.at wm (fun q => q.elim (fun q => (mw_ne wm w_q115 (fun q => by cases q)) q) (fun q => (mw_ne wm w_r115 (fun q => by cases q)) q))
    refine ⟨nI 1, rfl, ⟨_, wm⟩, 1, 21, _, by decide, by decide, cc_Mo_prepare l D z M1 mm (mo_F VV) m_q41 lf 1 0 0 (-1) (fun _ => 0) (fun _ => 0) wm hlf g1 g9 g10 g11 g12 wr (fun _ _ => ⟨rfl, by decide⟩) (by omega) (by decide) (by decide), fun v2 M2 hp2 => ⟨?_, trivial⟩⟩
    exact (hp2.1 (p1_mm (by omega))).1
  · show ls_ok l D z x mm _ _ _ _ _ _ _ _ _ M _
    unfold ls_ok
    refine ⟨⟨_, wx⟩, 3, 64, 0, 0, _, by decide, by decide, by decide, by decide, cc_Xi_activate l D z M x q5 q16 q115 q27 q38 q49 q60 q71 q82 q93 q104 0 0 0 r115 lf 1 0 (-1) (fun _ => 0) (fun _ => 0) 0 wx w_q115 w_r115 (fun _ _ => ⟨rfl, by decide⟩) (by omega) (by decide) (by decide), fun v M1 hp => ?_⟩
    obtain ⟨rfl, -, hF⟩ := hp
    have wr := hF.at (mo_wg hW 27 rfl) (mw_ne (mo_wg hW 27 rfl) w_q115 (fun q => by cases q))
    have wm := hF.at wm (mw_ne wm w_q115 (fun q => by cases q))
    rw [p1_kn]
    refine ⟨zI false, rfl, ⟨_, wm⟩, 1, 21, _, by decide, by decide, cc_Mo_activate l D z M1 mm (mo_F VV) m_q41 lf 1 0 0 (-1) (fun _ => 0) (fun _ => 0) wm hlf g1 g9 g10 g11 g12 wr (fun _ _ => ⟨rfl, by decide⟩) (by omega) (by decide) (by decide), fun v2 M2 hp2 => ⟨?_, trivial⟩⟩
    rw [p1_mn] at hp2
    exact hp2.1
  · show ls_ok l D z x mm _ _ _ _ _ _ _ _ _ M _
    by_cases hq : 1 ≤ (xs (1 + 6 * 0 + 1)).toInt ∧ (xs (1 + 6 * 0 + 1)).toInt ≤ 64
    · obtain ⟨n, hn1, hn4, en⟩ : ∃ n : Nat, 1 ≤ n ∧ n ≤ 64 ∧ xs (1 + 6 * 0 + 1) = nI n := ⟨(xs (1 + 6 * 0 + 1)).toInt.toNat, by omega, by omega, Int32.toInt_inj.mp (by rw [nI_toInt (by omega)]; omega)⟩
      show ls_ok l D z x mm _ _ _ _ _ _ _ _ [.int (xs (1 + 6 * 0 + 1))] M _
      rw [en]
      unfold ls_ok
      refine ⟨⟨_, wx⟩, 0, 0, 0, 0, _, by decide, by decide, by decide, by decide, cc_Xi_tick_y l D z M x q5 q16 q115 q27 q38 q49 q60 q71 q82 q93 q104 0 0 0 0 n wx hn1 hn4 (by decide), fun v M1 hp => ?_⟩
      obtain ⟨rfl, -, hF⟩ := hp
      have wm := hF.at wm (mw_ne wm wx (fun q => by cases q))
      refine ⟨nI (0 + n), rfl, ⟨_, wm⟩, 1, 22, _, by decide, by decide, cc_Mo_tick_y l D z M1 mm (mo_F VV) 0 n wm g1 hn1 hn4, fun v2 M2 hp2 => ⟨?_, trivial⟩⟩
      exact hp2.1
    · have hq2 : xs (1 + 6 * 0 + 1) < nI 1 ∨ nI 64 < xs (1 + 6 * 0 + 1) := by
        rw [Int32.lt_iff_toInt_lt, Int32.lt_iff_toInt_lt, nI_toInt (by decide), nI_toInt (by decide)]
        omega
      unfold ls_ok
      refine ⟨⟨_, wx⟩, 0, 0, 0, 0, _, by decide, by decide, by decide, by decide, cc_Xi_tick_n l D z M x _ hq2, fun v M1 hp => ?_⟩
      obtain ⟨rfl, rfl⟩ := hp
      refine ⟨-1002, rfl, ⟨_, wm⟩, 1, 22, _, by decide, by decide, cc_Mo_tick_n l D z M1 mm _ hq2, fun v2 M2 hp2 => ⟨?_, trivial⟩⟩
      exact hp2.1
