/-! fresh objects have the invariant -/
def tb_N (z : Nat) : List (Nat × Nat) → Nat → Nat
  | [], _ => z
  | p :: tb, t => if t = p.1 then p.2 else tb_N z tb t
def tb_o : List (Nat × Nat) → Nat → Nat
  | [], _ => 0
  | p :: tb, q => if q = p.2 then p.1 else tb_o tb q
theorem tb_in (z : Nat) : ∀ (tb : List (Nat × Nat)) (t : Nat), tb_N z tb t = z ∨ (t, tb_N z tb t) ∈ tb
  | [], t => Or.inl rfl
  | p :: tb, t => by
    unfold tb_N
    by_cases h : t = p.1
    · rw [if_pos h, h]
      exact Or.inr List.mem_cons_self
    · rw [if_neg h]
      exact (tb_in z tb t).imp id (fun h => List.mem_cons_of_mem _ h)
theorem tb_ot : ∀ (tb : List (Nat × Nat)) (t q : Nat), (tb.map Prod.snd).Nodup → (t, q) ∈ tb → tb_o tb q = t
  | [], t, q, _, h => absurd h List.not_mem_nil
  | p :: tb, t, q, hd, h => by
    rw [List.map_cons, List.nodup_cons] at hd
    unfold tb_o
    rcases List.mem_cons.mp h with e | e
    · rw [if_pos (by rw [← e]), ← e]
    · rw [if_neg (fun e2 => hd.1 (by rw [← e2]; exact List.mem_map.mpr ⟨(t, q), e, rfl⟩))]
      exact tb_ot tb t q hd.2 e
theorem tb_O {D : va_G} {M : mw_M} {tb : List (Nat × Nat)} (hz : M (D.2 200 0) = none) (h : mn_l (tb.map Prod.snd) M) : iv_O D M (tb_N (D.2 200 0) tb) (tb_o tb) := ⟨hz, fun t => (tb_in (D.2 200 0) tb t).imp id (fun e => ⟨tb_ot tb t _ h.1 e, h.2 _ (List.mem_map.mpr ⟨_, e, rfl⟩)⟩)⟩
theorem al_0 {D : va_G} {M : mw_M} {a : Nat} {mo : Int32} (hz : M (D.2 200 0) = none) (w : M a = some (.inr (4, [.ref (D.2 200 0), .int (nI 0), .int mo]))) : al_at D M a (D.2 200 0) [] := ⟨hz, 0, mo, w, Nat.le_refl _, fun i _ => List.getElem?_nil, Or.inl ⟨rfl, rfl⟩⟩
theorem iv_life (life : Int32) : ∃ lf : Nat, 32 ≤ lf ∧ lf ≤ 256 ∧ (if (nI 32) < (if life < (nI 256) then life else (nI 256)) then (if life < (nI 256) then life else (nI 256)) else (nI 32)) = nI lf ∧ mo_life life = nI lf := by
  by_cases h1 : life < nI 32
  · refine ⟨32, by decide, by decide, ?_, by rw [mo_life, if_pos h1]⟩
    have h2 : life < nI 256 := Int32.lt_trans h1 (by decide)
    rw [if_pos h2, if_neg (fun q => Int32.lt_irrefl (Int32.lt_trans q h1))]
  · by_cases h2 : nI 256 < life
    · refine ⟨256, by decide, by decide, ?_, by rw [mo_life, if_neg h1, if_pos h2]⟩
      rw [if_neg (fun q => Int32.lt_irrefl (Int32.lt_trans q h2)), if_pos (by decide)]
    · have h0 : ¬ life < 0 := fun q => h1 (Int32.lt_trans q (by decide))
      obtain ⟨j, hj, rfl⟩ := nI_of h0
      rw [nI_ltI hj (by decide)] at h1
      rw [nI_ltI (by decide) hj] at h2
      refine ⟨j, by omega, by omega, ?_, by rw [mo_life, if_neg (nI_nlt (by omega) hj), if_neg (nI_nlt (by omega) (by decide))]⟩
      by_cases h3 : j < 256
      · rw [if_pos (nI_lt h3 (by decide))]
        by_cases h4 : 32 < j
        · rw [if_pos (nI_lt h4 hj)]
        · rw [if_neg (nI_nlt (by omega) (by decide)), show j = 32 by omega]
      · rw [if_neg (nI_nlt (by omega) hj), if_pos (by decide), show j = 256 by omega]
def iv_V (lf : Nat) (k : Nat) : Int32 := if k = 0 then nI lf else if k = 9 then nI 1 else if k = 12 then -1 else 0
theorem mq_isA_of {k : Nat} (h : mq_isA k = true) : k = 2 ∨ k = 5 ∨ k = 6 ∨ k = 7 ∨ k = 10 ∨ k = 13 ∨ k = 16 ∨ k = 17 ∨ k = 18 ∨ k = 19 ∨ k = 20 ∨ k = 21 ∨ k = 24 ∨ k = 25 ∨ k = 26 ∨ k = 27 ∨ k = 28 ∨ k = 29 ∨ k = 30 ∨ k = 31 ∨ k = 32 ∨ k = 34 ∨ k = 35 ∨ k = 36 ∨ k = 37 ∨ k = 38 ∨ k = 39 ∨ k = 40 ∨ k = 42 ∨ k = 44 ∨ k = 47 ∨ k = 49 := by
  unfold mq_isA at h
  simp only [Bool.or_eq_true, beq_iff_eq] at h
  omega
set_option maxRecDepth 100000 in
set_option maxHeartbeats 4000000 in
theorem iv_start {D : va_G} {M : mw_M} {x mm : Nat} {life : Int32} {L1 L2 : List Nat} (h1 : lf_X D M x life [] L1) (h2 : lf_M D M mm life L1 L2) (hA : mn_l L2 M) (hz : M (D.2 200 0) = none) : iv D x mm 0 M := by
  obtain ⟨r115, q115, l104, q104, q93, r82, y82, q82, r71, y71, q71, l60, q60, q49, q38, l27, q27, de, le, t, q16, r5, q5, wx, w_r115, w_q115, w_l104, w_q104, w_q93, w_r82, w_y82, w_q82, w_r71, w_y71, w_q71, w_l60, w_q60, w_q49, w_q38, w_l27, w_q27, w_de, w_le, w_t, w_q16, w_r5, w_q5, hrow, rfl⟩ := h1
  obtain ⟨m_q250, m_q242, m_q234, m_q227, m_q219, m_q212, m_q204, m_q197, m_q189, m_q182, m_q175, m_q168, m_q161, m_q154, m_q146, m_q137, m_q128, m_q119, m_q110, m_q103, m_q96, m_q88, m_q80, m_q72, m_q64, m_q56, m_q48, m_q41, m_q32, m_q24, m_q16, m_q7, wm, hW, rfl⟩ := h2
  obtain ⟨lf, hlf1, hlf2, hlfx, hlfm⟩ := iv_life life
  rw [hlfx] at w_q115
  rw [hlfm] at wm
  have hO := tb_O (tb := [(249, m_q250), (247, m_q242), (244, m_q234), (242, m_q227), (240, m_q219), (239, m_q212), (238, m_q204), (237, m_q197), (236, m_q189), (235, m_q182), (234, m_q175), (232, m_q168), (231, m_q161), (230, m_q154), (229, m_q146), (228, m_q137), (227, m_q128), (226, m_q119), (225, m_q110), (224, m_q103), (221, m_q96), (220, m_q88), (219, m_q80), (218, m_q72), (217, m_q64), (216, m_q56), (213, m_q48), (210, m_q41), (207, m_q32), (206, m_q24), (205, m_q16), (202, m_q7), (199, mm), (31, r115), (30, q115), (44, l104), (43, q104), (46, q93), (53, r82), (52, y82), (51, q82), (60, r71), (61, y71), (50, q71), (41, l60), (40, q60), (37, q49), (35, q38), (33, l27), (32, q27), (6, de), (5, le), (4, t), (10, (t + 1 + 0)), (11, (t + 1 + 1)), (12, (t + 1 + 2)), (13, (t + 1 + 3)), (14, (t + 1 + 4)), (15, (t + 1 + 5)), (16, (t + 1 + 6)), (17, (t + 1 + 7)), (18, (t + 1 + 8)), (19, (t + 1 + 9)), (20, (t + 1 + 10)), (21, (t + 1 + 11)), (3, q16), (2, r5), (1, q5), (0, x)]) hz hA
  obtain ⟨N, hN⟩ : ∃ f : Nat → Nat, f = tb_N (D.2 200 0) [(249, m_q250), (247, m_q242), (244, m_q234), (242, m_q227), (240, m_q219), (239, m_q212), (238, m_q204), (237, m_q197), (236, m_q189), (235, m_q182), (234, m_q175), (232, m_q168), (231, m_q161), (230, m_q154), (229, m_q146), (228, m_q137), (227, m_q128), (226, m_q119), (225, m_q110), (224, m_q103), (221, m_q96), (220, m_q88), (219, m_q80), (218, m_q72), (217, m_q64), (216, m_q56), (213, m_q48), (210, m_q41), (207, m_q32), (206, m_q24), (205, m_q16), (202, m_q7), (199, mm), (31, r115), (30, q115), (44, l104), (43, q104), (46, q93), (53, r82), (52, y82), (51, q82), (60, r71), (61, y71), (50, q71), (41, l60), (40, q60), (37, q49), (35, q38), (33, l27), (32, q27), (6, de), (5, le), (4, t), (10, (t + 1 + 0)), (11, (t + 1 + 1)), (12, (t + 1 + 2)), (13, (t + 1 + 3)), (14, (t + 1 + 4)), (15, (t + 1 + 5)), (16, (t + 1 + 6)), (17, (t + 1 + 7)), (18, (t + 1 + 8)), (19, (t + 1 + 9)), (20, (t + 1 + 10)), (21, (t + 1 + 11)), (3, q16), (2, r5), (1, q5), (0, x)] := ⟨_, rfl⟩
  obtain ⟨o, ho⟩ : ∃ f : Nat → Nat, f = tb_o [(249, m_q250), (247, m_q242), (244, m_q234), (242, m_q227), (240, m_q219), (239, m_q212), (238, m_q204), (237, m_q197), (236, m_q189), (235, m_q182), (234, m_q175), (232, m_q168), (231, m_q161), (230, m_q154), (229, m_q146), (228, m_q137), (227, m_q128), (226, m_q119), (225, m_q110), (224, m_q103), (221, m_q96), (220, m_q88), (219, m_q80), (218, m_q72), (217, m_q64), (216, m_q56), (213, m_q48), (210, m_q41), (207, m_q32), (206, m_q24), (205, m_q16), (202, m_q7), (199, mm), (31, r115), (30, q115), (44, l104), (43, q104), (46, q93), (53, r82), (52, y82), (51, q82), (60, r71), (61, y71), (50, q71), (41, l60), (40, q60), (37, q49), (35, q38), (33, l27), (32, q27), (6, de), (5, le), (4, t), (10, (t + 1 + 0)), (11, (t + 1 + 1)), (12, (t + 1 + 2)), (13, (t + 1 + 3)), (14, (t + 1 + 4)), (15, (t + 1 + 5)), (16, (t + 1 + 6)), (17, (t + 1 + 7)), (18, (t + 1 + 8)), (19, (t + 1 + 9)), (20, (t + 1 + 10)), (21, (t + 1 + 11)), (3, q16), (2, r5), (1, q5), (0, x)] := ⟨_, rfl⟩
  rw [← hN, ← ho] at hO
  have n249 : N 249 = m_q250 := by rw [hN]; rfl
  have n247 : N 247 = m_q242 := by rw [hN]; rfl
  have n244 : N 244 = m_q234 := by rw [hN]; rfl
  have n242 : N 242 = m_q227 := by rw [hN]; rfl
  have n240 : N 240 = m_q219 := by rw [hN]; rfl
  have n239 : N 239 = m_q212 := by rw [hN]; rfl
  have n238 : N 238 = m_q204 := by rw [hN]; rfl
  have n237 : N 237 = m_q197 := by rw [hN]; rfl
  have n236 : N 236 = m_q189 := by rw [hN]; rfl
  have n235 : N 235 = m_q182 := by rw [hN]; rfl
  have n234 : N 234 = m_q175 := by rw [hN]; rfl
  have n232 : N 232 = m_q168 := by rw [hN]; rfl
  have n231 : N 231 = m_q161 := by rw [hN]; rfl
  have n230 : N 230 = m_q154 := by rw [hN]; rfl
  have n229 : N 229 = m_q146 := by rw [hN]; rfl
  have n228 : N 228 = m_q137 := by rw [hN]; rfl
  have n227 : N 227 = m_q128 := by rw [hN]; rfl
  have n226 : N 226 = m_q119 := by rw [hN]; rfl
  have n225 : N 225 = m_q110 := by rw [hN]; rfl
  have n224 : N 224 = m_q103 := by rw [hN]; rfl
  have n221 : N 221 = m_q96 := by rw [hN]; rfl
  have n220 : N 220 = m_q88 := by rw [hN]; rfl
  have n219 : N 219 = m_q80 := by rw [hN]; rfl
  have n218 : N 218 = m_q72 := by rw [hN]; rfl
  have n217 : N 217 = m_q64 := by rw [hN]; rfl
  have n216 : N 216 = m_q56 := by rw [hN]; rfl
  have n213 : N 213 = m_q48 := by rw [hN]; rfl
  have n210 : N 210 = m_q41 := by rw [hN]; rfl
  have n207 : N 207 = m_q32 := by rw [hN]; rfl
  have n206 : N 206 = m_q24 := by rw [hN]; rfl
  have n205 : N 205 = m_q16 := by rw [hN]; rfl
  have n202 : N 202 = m_q7 := by rw [hN]; rfl
  have n199 : N 199 = mm := by rw [hN]; rfl
  have n31 : N 31 = r115 := by rw [hN]; rfl
  have n30 : N 30 = q115 := by rw [hN]; rfl
  have n44 : N 44 = l104 := by rw [hN]; rfl
  have n43 : N 43 = q104 := by rw [hN]; rfl
  have n46 : N 46 = q93 := by rw [hN]; rfl
  have n53 : N 53 = r82 := by rw [hN]; rfl
  have n52 : N 52 = y82 := by rw [hN]; rfl
  have n51 : N 51 = q82 := by rw [hN]; rfl
  have n60 : N 60 = r71 := by rw [hN]; rfl
  have n61 : N 61 = y71 := by rw [hN]; rfl
  have n50 : N 50 = q71 := by rw [hN]; rfl
  have n41 : N 41 = l60 := by rw [hN]; rfl
  have n40 : N 40 = q60 := by rw [hN]; rfl
  have n37 : N 37 = q49 := by rw [hN]; rfl
  have n35 : N 35 = q38 := by rw [hN]; rfl
  have n33 : N 33 = l27 := by rw [hN]; rfl
  have n32 : N 32 = q27 := by rw [hN]; rfl
  have n6 : N 6 = de := by rw [hN]; rfl
  have n5 : N 5 = le := by rw [hN]; rfl
  have n4 : N 4 = t := by rw [hN]; rfl
  have n10 : N 10 = (t + 1 + 0) := by rw [hN]; rfl
  have n11 : N 11 = (t + 1 + 1) := by rw [hN]; rfl
  have n12 : N 12 = (t + 1 + 2) := by rw [hN]; rfl
  have n13 : N 13 = (t + 1 + 3) := by rw [hN]; rfl
  have n14 : N 14 = (t + 1 + 4) := by rw [hN]; rfl
  have n15 : N 15 = (t + 1 + 5) := by rw [hN]; rfl
  have n16 : N 16 = (t + 1 + 6) := by rw [hN]; rfl
  have n17 : N 17 = (t + 1 + 7) := by rw [hN]; rfl
  have n18 : N 18 = (t + 1 + 8) := by rw [hN]; rfl
  have n19 : N 19 = (t + 1 + 9) := by rw [hN]; rfl
  have n20 : N 20 = (t + 1 + 10) := by rw [hN]; rfl
  have n21 : N 21 = (t + 1 + 11) := by rw [hN]; rfl
  have n3 : N 3 = q16 := by rw [hN]; rfl
  have n2 : N 2 = r5 := by rw [hN]; rfl
  have n1 : N 1 = q5 := by rw [hN]; rfl
  have n0 : N 0 = x := by rw [hN]; rfl
  have n34 : N 34 = D.2 200 0 := by rw [hN]; rfl
  have n36 : N 36 = D.2 200 0 := by rw [hN]; rfl
  have n38 : N 38 = D.2 200 0 := by rw [hN]; rfl
  have n42 : N 42 = D.2 200 0 := by rw [hN]; rfl
  have n45 : N 45 = D.2 200 0 := by rw [hN]; rfl
  have n47 : N 47 = D.2 200 0 := by rw [hN]; rfl
  have n10 : ∀ j : Nat, j < 12 → N (10 + j) = N 4 + 1 + j := fun j hj => by
    rw [n4]
    rcases (show j = 0 ∨ j = 1 ∨ j = 2 ∨ j = 3 ∨ j = 4 ∨ j = 5 ∨ j = 6 ∨ j = 7 ∨ j = 8 ∨ j = 9 ∨ j = 10 ∨ j = 11 by omega) with rfl | rfl | rfl | rfl | rfl | rfl | rfl | rfl | rfl | rfl | rfl | rfl
    · exact n10
    · exact n11
    · exact n12
    · exact n13
    · exact n14
    · exact n15
    · exact n16
    · exact n17
    · exact n18
    · exact n19
    · exact n20
    · exact n21
  have hl : mo_l (mq_v (fun k => N (200 + k)) (iv_V lf)) = [.int (nI lf), .int 0, .ref m_q7, .int 0, .int 0, .ref m_q16, .ref m_q24, .ref m_q32, .int 0, .int (nI 1), .ref m_q41, .int 0, .int (-1), .ref m_q48, .int 0, .int 0, .ref m_q56, .ref m_q64, .ref m_q72, .ref m_q80, .ref m_q88, .ref m_q96, .int 0, .int 0, .ref m_q103, .ref m_q110, .ref m_q119, .ref m_q128, .ref m_q137, .ref m_q146, .ref m_q154, .ref m_q161, .ref m_q168, .int 0, .ref m_q175, .ref m_q182, .ref m_q189, .ref m_q197, .ref m_q204, .ref m_q212, .ref m_q219, .int 0, .ref m_q227, .int 0, .ref m_q234, .int 0, .int 0, .ref m_q242, .int 0, .ref m_q250, .int 0, .int 0] := by
    show ([.int (nI lf), .int 0, .ref (N 202), .int 0, .int 0, .ref (N 205), .ref (N 206), .ref (N 207), .int 0, .int (nI 1), .ref (N 210), .int 0, .int (-1), .ref (N 213), .int 0, .int 0, .ref (N 216), .ref (N 217), .ref (N 218), .ref (N 219), .ref (N 220), .ref (N 221), .int 0, .int 0, .ref (N 224), .ref (N 225), .ref (N 226), .ref (N 227), .ref (N 228), .ref (N 229), .ref (N 230), .ref (N 231), .ref (N 232), .int 0, .ref (N 234), .ref (N 235), .ref (N 236), .ref (N 237), .ref (N 238), .ref (N 239), .ref (N 240), .int 0, .ref (N 242), .int 0, .ref (N 244), .int 0, .int 0, .ref (N 247), .int 0, .ref (N 249), .int 0, .int 0] : List Value) = _
    rw [n202, n205, n206, n207, n210, n213, n216, n217, n218, n219, n220, n221, n224, n225, n226, n227, n228, n229, n230, n231, n232, n234, n235, n236, n237, n238, n239, n240, n242, n244, n247, n249]
  have hR2 : ∀ k : Nat, mq_isA k = true → k ≠ 13 → M (N (200 + k)) = some (.inl (D.1 (mq_ty k), mq_len k, .inl (fun _ => 0))) := fun k hk h13 => by
    rcases mq_isA_of hk with rfl | rfl | rfl | rfl | rfl | rfl | rfl | rfl | rfl | rfl | rfl | rfl | rfl | rfl | rfl | rfl | rfl | rfl | rfl | rfl | rfl | rfl | rfl | rfl | rfl | rfl | rfl | rfl | rfl | rfl | rfl | rfl
    · exact (congrArg M n202).trans (mo_wg hW 31 rfl)
    · exact (congrArg M n205).trans (mo_wg hW 30 rfl)
    · exact (congrArg M n206).trans (mo_wg hW 29 rfl)
    · exact (congrArg M n207).trans (mo_wg hW 28 rfl)
    · exact (congrArg M n210).trans (mo_wg hW 27 rfl)
    · exact absurd rfl h13
    · exact (congrArg M n216).trans (mo_wg hW 25 rfl)
    · exact (congrArg M n217).trans (mo_wg hW 24 rfl)
    · exact (congrArg M n218).trans (mo_wg hW 23 rfl)
    · exact (congrArg M n219).trans (mo_wg hW 22 rfl)
    · exact (congrArg M n220).trans (mo_wg hW 21 rfl)
    · exact (congrArg M n221).trans (mo_wg hW 20 rfl)
    · exact (congrArg M n224).trans (mo_wg hW 19 rfl)
    · exact (congrArg M n225).trans (mo_wg hW 18 rfl)
    · exact (congrArg M n226).trans (mo_wg hW 17 rfl)
    · exact (congrArg M n227).trans (mo_wg hW 16 rfl)
    · exact (congrArg M n228).trans (mo_wg hW 15 rfl)
    · exact (congrArg M n229).trans (mo_wg hW 14 rfl)
    · exact (congrArg M n230).trans (mo_wg hW 13 rfl)
    · exact (congrArg M n231).trans (mo_wg hW 12 rfl)
    · exact (congrArg M n232).trans (mo_wg hW 11 rfl)
    · exact (congrArg M n234).trans (mo_wg hW 10 rfl)
    · exact (congrArg M n235).trans (mo_wg hW 9 rfl)
    · exact (congrArg M n236).trans (mo_wg hW 8 rfl)
    · exact (congrArg M n237).trans (mo_wg hW 7 rfl)
    · exact (congrArg M n238).trans (mo_wg hW 6 rfl)
    · exact (congrArg M n239).trans (mo_wg hW 5 rfl)
    · exact (congrArg M n240).trans (mo_wg hW 4 rfl)
    · exact (congrArg M n242).trans (mo_wg hW 3 rfl)
    · exact (congrArg M n244).trans (mo_wg hW 2 rfl)
    · exact (congrArg M n247).trans (mo_wg hW 1 rfl)
    · exact (congrArg M n249).trans (mo_wg hW 0 rfl)
  have hR3 : M (N 213) = some (.inl (D.1 101, 4, .inr (.inl (fun _ => 0)))) := (congrArg M n213).trans (mo_wg hW 26 rfl)
  have hR4 : ∀ k : Nat, mq_isA k = true → M (N (200 + k)) ≠ none := fun k hk => by
    by_cases e : k = 13
    · rw [e]
      exact iv_nn hR3
    · exact iv_nn (hR2 k hk e)
  have hR : iv_R D M N (iv_V lf) (fun _ _ => 0) (fun _ => 0) := ⟨by rw [n199, hl]; exact wm, hR2, hR3, fun i j hi hj hij q => hij (by have := hO.inj (hR4 i hi) q; omega)⟩
  have wle : M (N 5) = some (.inl (D.1 100, 12, .inl (fun _ => 0))) := (congrArg M n5).trans w_le
  have wde : M (N 6) = some (.inl (D.1 100, 12, .inl (fun _ => 0))) := (congrArg M n6).trans w_de
  have hI : iv_I D M N 0 (fun _ => 0) (fun _ => 0) (fun _ _ => 0) := by
    refine ⟨⟨fun j => if j < 12 then some (t + 1 + j) else none, fun _ => 0, fun _ => 0, fun _ _ => 0, by rw [n3, n4, n5, n6]; exact w_q16, by rw [n4]; exact w_t, fun j hj => by rw [n4]; exact if_pos hj, wle, wde, fun j hj => by rw [n4]; exact hrow j hj, fun j hj => absurd hj (Nat.not_lt_zero _), hO.ne wle (by decide), fun j hj => ?_⟩, n10⟩
    rw [← n10 j hj]
    exact ⟨Ne.symm (hO.ne wle (by omega)), Ne.symm (hO.ne wde (by omega))⟩
  have hX : iv_X M N (iv_V lf 22) 0 0 := by
    unfold iv_X
    rw [n0, n1, n3, n30, n32, n35, n37, n40, n50, n51, n46, n43]
    exact wx
  have hB : iv_B D M N 0 (fun _ => 0) := ⟨by rw [n1, n2]; exact w_q5, by rw [n2]; exact w_r5⟩
  have hK : iv_K D M N lf 1 0 (-1) (fun _ => 0) := ⟨by rw [n30, n31]; exact w_q115, by rw [n31]; exact w_r115⟩
  have hE : iv_E D M N 0 (mq_es (fun _ _ => 0) 0) (mq_EF (fun _ _ => 0)) (fun _ => 0) := ⟨⟨by rw [n32, n33]; exact w_q27, by rw [n33, n34]; exact al_0 hz w_l27, fun e he => absurd he List.not_mem_nil⟩, fun e he => absurd he (Nat.not_lt_zero _)⟩
  have hC : iv_C M (mq_EF (fun _ _ => 0)) (fun _ _ => 0) (fun _ => 0) (fun _ => 0) (fun _ => 0) 0 := fun n a1 a2 => by omega
  have hAg : iv_A D M N 0 (fun _ => 0) (fun _ => 0) (fun _ => 0) (fun _ => 0) (fun _ => 0) (fun a9 => mq_ss (fun _ _ => 0) a9 0) (fun _ => 0) := ⟨by rw [n35, n36]; exact al_0 hz w_q38, fun a ha => absurd ha (Nat.not_lt_zero _)⟩
  have hWa : iv_W D M N 0 0 (fun _ => 0) (fun _ => 0) (fun _ => false) (fun _ => 0) (fun _ => 0) (fun _ => 0) (fun _ => []) (fun _ => 0) := ⟨by rw [n37, n38]; exact al_0 hz w_q49, fun a ha => absurd ha (Nat.not_lt_zero _)⟩
  have hL : iv_L D M N [] 0 0 (iv_V lf 45) (fun _ => 0) := ⟨by rw [n40, n41]; exact w_q60, by rw [n41, n42]; exact al_0 hz w_l60⟩
  have hU : iv_U D M N := ⟨0, 0, 0, [], by rw [n43, n44]; exact w_q104, by rw [n44, n45]; exact al_0 hz w_l104⟩
  have hNn : iv_N D M N := ⟨[], by rw [n46, n47]; exact al_0 hz w_q93⟩
  have hD : iv_D M N := ⟨y71, 0, 0, 0, 0, 0, 0, 0, 0, by rw [n50]; exact w_q71⟩
  have hT : iv_T D M N 0 [] := ⟨by rw [n51, n52]; exact w_q82, fun _ => 0, by rw [n52, n53]; exact w_y82, by rw [n53]; exact w_r82, by_nil _, by decide⟩
  have no : ∀ (q : Nat) {P : Prop}, q < 0 → P := fun q _ h => absurd h (Nat.not_lt_zero _)
  exact ⟨N, o, (iv_V lf), (fun _ _ => 0), (fun _ => 0), 0, 0, (fun _ => 0), (fun _ => 0), (fun _ _ => 0), lf, 0, 1, 0, (-1), (fun _ => 0), (fun _ => 0), (fun _ => 0), 0, (fun _ => 0), 0, (fun _ => 0), (fun _ => 0), (fun _ _ => 0), 0, (fun _ => 0), (fun _ => 0), 0, (fun _ => 0), (fun _ => false), (fun _ => 0), (fun _ => 0), (fun _ => 0), (fun _ => []), [], 0, 0, 0, [], n0, n199, hO, hX, hB, hI, hK, hE, hC, hAg, hWa, hL, hU, hNn, hD, hT, hR, ⟨rfl, rfl, rfl, rfl, rfl, rfl, rfl, rfl, rfl, rfl, rfl, rfl⟩, ⟨hlf2, by omega, by omega, by omega, by omega, by omega, by omega, by omega, by omega, by decide, by omega, by decide⟩, fun q h => no q h, ⟨⟨rfl, fun q h => no q h⟩, by decide, fun q h => no q h⟩, ⟨⟨Nat.le_refl _, fun _ _ _ => rfl, fun _ _ _ _ => Nat.le_refl _, fun _ _ => Nat.le_refl _, fun q h => by omega⟩, fun _ _ => ⟨rfl, Nat.two_pow_pos 20⟩, fun _ _ => ⟨rfl, Nat.two_pow_pos 20⟩⟩, fun q h => no q h, fun n a1 a2 => by omega, fun q h => no q h, fun q h => no q h, ⟨by decide, fun q h => no q h, fun i n h => by
    rw [List.getElem?_nil] at h
    cases h⟩, fun _ _ => Or.inl rfl, ⟨0, Nat.le_refl _, rfl, fun h => no 0 h⟩⟩
set_option maxRecDepth 100000 in
set_option maxHeartbeats 4000000 in
theorem iv_hI (l : Launch) (z : Nat) {L : Nat} (xs : Nat → Int32) (hL : L ≤ 3073) : ∀ (D : va_G) (x mm : Nat) (life : Int32), ∃ Inv : Nat → mw_M → Prop, (∀ (M : mw_M) (L1 L2 : List Nat), lf_X D M x life [] L1 → lf_M D M mm life L1 L2 → mn_l L2 M → Inv 0 M) ∧
      (∀ (j : Nat) (M : mw_M) (k : Nat), Inv j M → 1 + 6 * (j + 1) ≤ L → k < 18 → xs (1 + 6 * j) &&& nI 31 = nI k → ls_case l D z x mm (fun q => xs (1 + 6 * j + q)) M (Inv (j + 1)) k) ∧ ∀ (j : Nat) (M : mw_M), Inv j M → 1 + 6 * (j + 1) ≤ L → Inv (j + 1) M := by
  intro D x mm life
  refine ⟨Iv D x mm, fun M L1 L2 h1 h2 hA => ⟨?_, fun hz => iv_start h1 h2 hA hz⟩, ?_, fun j M h _ => h.skip⟩
  · obtain ⟨_, _, _, _, _, _, _, _, _, _, _, _, _, _, _, _, _, _, _, _, _, _, _, wx, -⟩ := h1
    exact ⟨_, wx⟩
  · intro j M k hI hj hk _
    have hj9 : j < 512 := by omega
    rcases (show k = 0 ∨ k = 1 ∨ k = 2 ∨ k = 3 ∨ k = 4 ∨ k = 5 ∨ k = 6 ∨ k = 7 ∨ k = 8 ∨ k = 9 ∨ k = 10 ∨ k = 11 ∨ k = 12 ∨ k = 13 ∨ k = 14 ∨ k = 15 ∨ k = 16 ∨ k = 17 by omega) with rfl | rfl | rfl | rfl | rfl | rfl | rfl | rfl | rfl | rfl | rfl | rfl | rfl | rfl | rfl | rfl | rfl | rfl
    · exact iv_ok hI (by decide) (fun h => iv_put l (fun q => xs (1 + 6 * j + q)) hj9 h)
    · exact iv_ok hI (by decide) (fun h => iv_id l (fun q => xs (1 + 6 * j + q)) hj9 h)
    · exact iv_ok hI (by decide) (fun h => iv_entry l (fun q => xs (1 + 6 * j + q)) hj9 h)
    · exact iv_ok hI (by decide) (fun h => iv_remove l (fun q => xs (1 + 6 * j + q)) hj9 h)
    · exact iv_ok hI (by decide) (fun h => iv_foreign l (fun q => xs (1 + 6 * j + q)) hj9 h)
    · exact iv_ok hI (by decide) (fun h => iv_attest l (fun q => xs (1 + 6 * j + q)) hj9 h)
    · exact iv_ok hI (by decide) (fun h => iv_sync l (fun q => xs (1 + 6 * j + q)) hj9 h)
    · exact iv_ok hI (by decide) (fun h => iv_fetch l (fun q => xs (1 + 6 * j + q)) hj9 h)
    · exact iv_ok hI (by decide) (fun h => iv_watch l (fun q => xs (1 + 6 * j + q)) hj9 h)
    · exact iv_ok hI (by decide) (fun h => iv_poll l (fun q => xs (1 + 6 * j + q)) hj9 h)
    · exact iv_ok hI (by decide) (fun h => iv_svid l (fun q => xs (1 + 6 * j + q)) hj9 h)
    · exact iv_ok hI (by decide) (fun h => iv_key l (fun q => xs (1 + 6 * j + q)) hj9 h)
    · exact iv_ok hI (by decide) (fun h => iv_friends l (fun q => xs (1 + 6 * j + q)) hj9 h)
    · exact iv_ok hI (by decide) (fun h => iv_written l (fun q => xs (1 + 6 * j + q)) hj9 h)
    · exact iv_ok hI (by decide) (fun h => iv_verify l (fun q => xs (1 + 6 * j + q)) hj9 h)
    · exact iv_ok hI (by decide) (fun h => iv_prepare l (fun q => xs (1 + 6 * j + q)) hj9 h)
    · exact iv_ok hI (by decide) (fun h => iv_activate l (fun q => xs (1 + 6 * j + q)) hj9 h)
    · exact iv_ok hI (by decide) (fun h => iv_tick l (fun q => xs (1 + 6 * j + q)) hj9 h)
