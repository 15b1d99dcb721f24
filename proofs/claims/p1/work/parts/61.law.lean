/-! the law's loop: from a state with Inv, a call of the class and the same call of the reference answer alike, and Inv holds again -/
def ls_ok (l : Launch) (D : va_G) (z x mm : Nat) (yx : MethodName) (bx : ByteArray) (nx : Nat) (rx : Option FieldType) (ym : MethodName) (bm : ByteArray) (nm : Nat) (rm : Option FieldType) (As : List Value) (M : mw_M) (Nxt : mw_M → Prop) : Prop :=
  (∃ fs, M x = some (.inr (0, fs))) ∧ ∃ (fr lo mc ms : Nat) (post : Option Value → mw_M → Prop), fr + 1 ≤ 12 ∧ 8 + (nx + 11) + lo ≤ 454 ∧ mc ≤ 50 ∧ ms ≤ 1500 ∧ mw_C l yx bx nx rx fr lo mc ms D z M (.ref x :: As) post ∧
    ∀ v M1, post v M1 → ∃ r : Int32, v = some (.int r) ∧ (∃ fs, M1 mm = some (.inr (13, fs))) ∧ ∃ (fr2 lo2 : Nat) (post2 : Option Value → mw_M → Prop), fr2 + 1 ≤ 12 ∧ 8 + (nm + 11) + lo2 ≤ 454 ∧ mw_C l ym bm nm rm fr2 lo2 0 0 D z M1 (.ref mm :: As) post2 ∧ ∀ v2 M2, post2 v2 M2 → v2 = some (.int r) ∧ Nxt M2
def ls_b (x : Int32) : Int32 := if x = 0 then nI 0 else nI 1
def ls_case (l : Launch) (D : va_G) (z x mm : Nat) (a : Nat → Int32) (M : mw_M) (Nxt : mw_M → Prop) (k : Nat) : Prop := match k with
  | 0 => ls_ok l D z x mm yy_Xi_put bb_Xi_put 4 (Option.some Jvm.ClassFile.FieldType.boolean) yy_Mo_put bb_Mo_put 4 (Option.some Jvm.ClassFile.FieldType.boolean) [.int (a 1), .int (a 2)] M Nxt
  | 1 => ls_ok l D z x mm yy_Xi_id bb_Xi_id 2 (Option.some Jvm.ClassFile.FieldType.int) yy_Mo_id bb_Mo_id 2 (Option.some Jvm.ClassFile.FieldType.int) [] M Nxt
  | 2 => ls_ok l D z x mm yy_Xi_entry bb_Xi_entry 6 (Option.some Jvm.ClassFile.FieldType.int) yy_Mo_entry bb_Mo_entry 8 (Option.some Jvm.ClassFile.FieldType.int) [.int (a 1), .int (a 2), .int (a 3), .int (a 4), .int (a 5)] M Nxt
  | 3 => ls_ok l D z x mm yy_Xi_remove bb_Xi_remove 2 (Option.some Jvm.ClassFile.FieldType.boolean) yy_Mo_remove bb_Mo_remove 2 (Option.some Jvm.ClassFile.FieldType.boolean) [.int (a 1)] M Nxt
  | 4 => ls_ok l D z x mm yy_Xi_foreign bb_Xi_foreign 3 (Option.some Jvm.ClassFile.FieldType.boolean) yy_Mo_foreign bb_Mo_foreign 3 (Option.some Jvm.ClassFile.FieldType.boolean) [.int (a 1), .int (ls_b (a 2))] M Nxt
  | 5 => ls_ok l D z x mm yy_Xi_attest bb_Xi_attest 4 (Option.some Jvm.ClassFile.FieldType.int) yy_Mo_attest bb_Mo_attest 4 (Option.some Jvm.ClassFile.FieldType.int) [.int (a 1), .int (a 2)] M Nxt
  | 6 => ls_ok l D z x mm yy_Xi_sync bb_Xi_sync 5 (Option.some Jvm.ClassFile.FieldType.int) yy_Mo_sync bb_Mo_sync 5 (Option.some Jvm.ClassFile.FieldType.int) [.int (a 1)] M Nxt
  | 7 => ls_ok l D z x mm yy_Xi_fetch bb_Xi_fetch 3 (Option.some Jvm.ClassFile.FieldType.int) yy_Mo_fetch bb_Mo_fetch 3 (Option.some Jvm.ClassFile.FieldType.int) [.int (a 1), .int (a 2)] M Nxt
  | 8 => ls_ok l D z x mm yy_Xi_watch bb_Xi_watch 3 (Option.some Jvm.ClassFile.FieldType.int) yy_Mo_watch bb_Mo_watch 3 (Option.some Jvm.ClassFile.FieldType.int) [.int (a 1), .int (a 2)] M Nxt
  | 9 => ls_ok l D z x mm yy_Xi_poll bb_Xi_poll 3 (Option.some Jvm.ClassFile.FieldType.int) yy_Mo_poll bb_Mo_poll 5 (Option.some Jvm.ClassFile.FieldType.int) [.int (a 1)] M Nxt
  | 10 => ls_ok l D z x mm yy_Xi_svid bb_Xi_svid 4 (Option.some Jvm.ClassFile.FieldType.int) yy_Mo_svid bb_Mo_svid 3 (Option.some Jvm.ClassFile.FieldType.int) [.int (a 1), .int (a 2)] M Nxt
  | 11 => ls_ok l D z x mm yy_Xi_key bb_Xi_key 2 (Option.some Jvm.ClassFile.FieldType.int) yy_Mo_key bb_Mo_key 2 (Option.some Jvm.ClassFile.FieldType.int) [.int (a 1)] M Nxt
  | 12 => ls_ok l D z x mm yy_Xi_friends bb_Xi_friends 1 (Option.some Jvm.ClassFile.FieldType.int) yy_Mo_friends bb_Mo_friends 1 (Option.some Jvm.ClassFile.FieldType.int) [] M Nxt
  | 13 => ls_ok l D z x mm yy_Xi_written bb_Xi_written 4 (Option.some Jvm.ClassFile.FieldType.int) yy_Mo_written bb_Mo_written 3 (Option.some Jvm.ClassFile.FieldType.int) [.int (a 1), .int (a 2)] M Nxt
  | 14 => ls_ok l D z x mm yy_Xi_verify bb_Xi_verify 2 (Option.some Jvm.ClassFile.FieldType.int) yy_Mo_verify bb_Mo_verify 2 (Option.some Jvm.ClassFile.FieldType.int) [] M Nxt
  | 15 => ls_ok l D z x mm yy_Xi_prepare bb_Xi_prepare 1 (Option.some Jvm.ClassFile.FieldType.int) yy_Mo_prepare bb_Mo_prepare 3 (Option.some Jvm.ClassFile.FieldType.int) [] M Nxt
  | 16 => ls_ok l D z x mm yy_Xi_activate bb_Xi_activate 1 (Option.some Jvm.ClassFile.FieldType.boolean) yy_Mo_activate bb_Mo_activate 1 (Option.some Jvm.ClassFile.FieldType.boolean) [] M Nxt
  | 17 => ls_ok l D z x mm yy_Xi_tick bb_Xi_tick 2 (Option.some Jvm.ClassFile.FieldType.int) yy_Mo_tick bb_Mo_tick 2 (Option.some Jvm.ClassFile.FieldType.int) [.int (a 1)] M Nxt
  | _ => Nxt M
theorem ls_31 (x : Int32) : ∃ k : Nat, k < 32 ∧ x &&& nI 31 = nI k := by
  obtain ⟨k, hk, e⟩ := pk_andE x (m := nI 31) 5 (by decide)
  exact ⟨k, hk, e⟩
section LSL
variable {p : Program} {e : Env} {s : State} {m : MethodId} {below : List Frame} {meth : Method} {c : Code} {l : Launch} {b L : Nat} {xs : Nat → Int32} {D : va_G} {z x mm : Nat}
set_option maxRecDepth 100000 in
set_option maxHeartbeats 2000000 in
theorem ls_c0 (E : mw_E p m c code 4 s #[Value.ref b] D z "IdentityIssuerLaw") (hX : va_X b L xs s s.heap) (hbl : b < s.heap.size) (hbA : ¬ mw_A z b) (hL : L ≤ 3073) {M : mw_M} {H : Heap} {locs : List Loc} {ls : Array Slot} {j : Nat} (hj : 1 + 6 * (j + 1) ≤ L) (hM : mw_at D mg_cl z M H) (hS : va_S (mw_A z) s.heap H locs) (hl : lv_has ls 4 [(3, .int (nI (1 + 6 * j))), (2, .ref mm), (1, .ref x), (0, .ref b)]) {Nxt : mw_M → Prop} (hc : ls_ok l D z x mm yy_Xi_put bb_Xi_put 4 (Option.some Jvm.ClassFile.FieldType.boolean) yy_Mo_put bb_Mo_put 4 (Option.some Jvm.ClassFile.FieldType.boolean) [.int (xs (1 + 6 * j + 1)), .int (xs (1 + 6 * j + 2))] M Nxt)
    (kk : ∀ (M2 : mw_M) (H : Heap) (locs : List Loc), Nxt M2 → mw_at D mg_cl z M2 H → va_S (mw_A z) s.heap H locs → W p l e room_1 s m #[Value.ref b] below meth c H locs (100 + 50 * (j + 1)) (5000 + 1500 * (j + 1)) (lw_Z below #[Value.ref b] s) (F0 m 618 ls [])) : W p l e room_1 s m #[Value.ref b] below meth c H locs (100 + 50 * j) (5000 + 1500 * j) (lw_Z below #[Value.ref b] s) (F0 m 128 ls []) := by
  have hx := E.x
  have hb := E.b
  obtain ⟨⟨fsx, wx⟩, fr, lo, mc, ms, post, hfr, hlo, hmc, hms, hC, hn⟩ := hc
  refine lv_aload_n hx hb dd_La_law_128 rfl (lv_at hl 2 rfl) ?_
  refine lv_aload_n hx hb dd_La_law_129 rfl (lv_at hl 3 rfl) ?_
  refine lv_iload_n hx hb dd_La_law_130 rfl (lv_at hl 0 rfl) ?_
  refine lv_iconst (v := nI 1) hx hb dd_La_law_131 (by decide) ?_
  refine lv_iadd hx hb dd_La_law_132 ?_
  refine mw_topi (y := nI (1 + 6 * j + 1)) (nI_add _ _) ?_
  refine va_sld hx hb hX hbl hbA hS (vp_in_nI (by omega) (by omega)) dd_La_law_133 ?_
  refine mw_topi (y := xs (1 + 6 * j + 1)) (by rw [nI_clamp (by omega)]) ?_
  refine lv_aload_n hx hb dd_La_law_134 rfl (lv_at hl 3 rfl) ?_
  refine lv_iload_n hx hb dd_La_law_135 rfl (lv_at hl 0 rfl) ?_
  refine lv_iconst (v := nI 2) hx hb dd_La_law_136 (by decide) ?_
  refine lv_iadd hx hb dd_La_law_137 ?_
  refine mw_topi (y := nI (1 + 6 * j + 2)) (nI_add _ _) ?_
  refine va_sld hx hb hX hbl hbA hS (vp_in_nI (by omega) (by omega)) dd_La_law_138 ?_
  refine mw_topi (y := xs (1 + 6 * j + 2)) (by rw [nI_clamp (by omega)]) ?_
  refine mw_V (As := [.int (xs (1 + 6 * j + 1)), .int (xs (1 + 6 * j + 2))]) (rest := []) E hC ky_Xi_put kv_Xi_put tw_La_21 hM hS wx rfl rfl rfl hl.1 rfl (Nat.le_of_ble_eq_true rfl) dd_La_law_139 ⟨by show _ ≤ 600000; omega, by show _ ≤ 7302250; omega⟩ ⟨hfr, hlo⟩ (fun v M1 H locs hp hM hS => ?_)
  obtain ⟨r, rfl, ⟨fsm, wm⟩, fr2, lo2, post2, hfr2, hlo2, hC2, hn2⟩ := hn v M1 hp
  refine W.eq (g2 := F0 m 142 ls [.int r]) rfl ?_
  refine lv_aload_n hx hb dd_La_law_142 rfl (lv_at hl 1 rfl) ?_
  refine lv_aload_n hx hb dd_La_law_143 rfl (lv_at hl 3 rfl) ?_
  refine lv_iload_n hx hb dd_La_law_144 rfl (lv_at hl 0 rfl) ?_
  refine lv_iconst (v := nI 1) hx hb dd_La_law_145 (by decide) ?_
  refine lv_iadd hx hb dd_La_law_146 ?_
  refine mw_topi (y := nI (1 + 6 * j + 1)) (nI_add _ _) ?_
  refine va_sld hx hb hX hbl hbA hS (vp_in_nI (by omega) (by omega)) dd_La_law_147 ?_
  refine mw_topi (y := xs (1 + 6 * j + 1)) (by rw [nI_clamp (by omega)]) ?_
  refine lv_aload_n hx hb dd_La_law_148 rfl (lv_at hl 3 rfl) ?_
  refine lv_iload_n hx hb dd_La_law_149 rfl (lv_at hl 0 rfl) ?_
  refine lv_iconst (v := nI 2) hx hb dd_La_law_150 (by decide) ?_
  refine lv_iadd hx hb dd_La_law_151 ?_
  refine mw_topi (y := nI (1 + 6 * j + 2)) (nI_add _ _) ?_
  refine va_sld hx hb hX hbl hbA hS (vp_in_nI (by omega) (by omega)) dd_La_law_152 ?_
  refine mw_topi (y := xs (1 + 6 * j + 2)) (by rw [nI_clamp (by omega)]) ?_
  refine mw_V (As := [.int (xs (1 + 6 * j + 1)), .int (xs (1 + 6 * j + 2))]) (rest := [.int r]) E hC2 ky_Mo_put kv_Mo_put tw_La_25 hM hS wm rfl rfl rfl hl.1 rfl (Nat.le_of_ble_eq_true rfl) dd_La_law_153 ⟨by show _ ≤ 600000; omega, by show _ ≤ 7302250; omega⟩ ⟨hfr2, hlo2⟩ (fun v2 M2 H locs hp2 hM hS => ?_)
  obtain ⟨rfl, hN⟩ := hn2 v2 M2 hp2
  refine W.eq (g2 := F0 m 156 ls [.int r, .int r]) rfl ?_
  refine lv_icmp_eq (tgt := 618) hx hb dd_La_law_156 (by decide) (fun _ => ?_) (fun h => absurd rfl h)
  exact W.widen (k := 100 + 50 * (j + 1)) (n := 5000 + 1500 * (j + 1)) (by omega) (by omega) (kk M2 H locs hN hM hS)
set_option maxRecDepth 100000 in
set_option maxHeartbeats 2000000 in
theorem ls_c1 (E : mw_E p m c code 4 s #[Value.ref b] D z "IdentityIssuerLaw") (hX : va_X b L xs s s.heap) (hbl : b < s.heap.size) (hbA : ¬ mw_A z b) (hL : L ≤ 3073) {M : mw_M} {H : Heap} {locs : List Loc} {ls : Array Slot} {j : Nat} (hj : 1 + 6 * (j + 1) ≤ L) (hM : mw_at D mg_cl z M H) (hS : va_S (mw_A z) s.heap H locs) (hl : lv_has ls 4 [(3, .int (nI (1 + 6 * j))), (2, .ref mm), (1, .ref x), (0, .ref b)]) {Nxt : mw_M → Prop} (hc : ls_ok l D z x mm yy_Xi_id bb_Xi_id 2 (Option.some Jvm.ClassFile.FieldType.int) yy_Mo_id bb_Mo_id 2 (Option.some Jvm.ClassFile.FieldType.int) [] M Nxt)
    (kk : ∀ (M2 : mw_M) (H : Heap) (locs : List Loc), Nxt M2 → mw_at D mg_cl z M2 H → va_S (mw_A z) s.heap H locs → W p l e room_1 s m #[Value.ref b] below meth c H locs (100 + 50 * (j + 1)) (5000 + 1500 * (j + 1)) (lw_Z below #[Value.ref b] s) (F0 m 618 ls [])) : W p l e room_1 s m #[Value.ref b] below meth c H locs (100 + 50 * j) (5000 + 1500 * j) (lw_Z below #[Value.ref b] s) (F0 m 161 ls []) := by
  have hx := E.x
  have hb := E.b
  obtain ⟨⟨fsx, wx⟩, fr, lo, mc, ms, post, hfr, hlo, hmc, hms, hC, hn⟩ := hc
  refine lv_aload_n hx hb dd_La_law_161 rfl (lv_at hl 2 rfl) ?_
  refine mw_V (As := []) (rest := []) E hC ky_Xi_id kv_Xi_id tw_La_26 hM hS wx rfl rfl rfl hl.1 rfl (Nat.le_of_ble_eq_true rfl) dd_La_law_162 ⟨by show _ ≤ 600000; omega, by show _ ≤ 7302250; omega⟩ ⟨hfr, hlo⟩ (fun v M1 H locs hp hM hS => ?_)
  obtain ⟨r, rfl, ⟨fsm, wm⟩, fr2, lo2, post2, hfr2, hlo2, hC2, hn2⟩ := hn v M1 hp
  refine W.eq (g2 := F0 m 165 ls [.int r]) rfl ?_
  refine lv_aload_n hx hb dd_La_law_165 rfl (lv_at hl 1 rfl) ?_
  refine mw_V (As := []) (rest := [.int r]) E hC2 ky_Mo_id kv_Mo_id tw_La_30 hM hS wm rfl rfl rfl hl.1 rfl (Nat.le_of_ble_eq_true rfl) dd_La_law_166 ⟨by show _ ≤ 600000; omega, by show _ ≤ 7302250; omega⟩ ⟨hfr2, hlo2⟩ (fun v2 M2 H locs hp2 hM hS => ?_)
  obtain ⟨rfl, hN⟩ := hn2 v2 M2 hp2
  refine W.eq (g2 := F0 m 169 ls [.int r, .int r]) rfl ?_
  refine lv_icmp_eq (tgt := 618) hx hb dd_La_law_169 (by decide) (fun _ => ?_) (fun h => absurd rfl h)
  exact W.widen (k := 100 + 50 * (j + 1)) (n := 5000 + 1500 * (j + 1)) (by omega) (by omega) (kk M2 H locs hN hM hS)
set_option maxRecDepth 100000 in
set_option maxHeartbeats 2000000 in
theorem ls_c2 (E : mw_E p m c code 4 s #[Value.ref b] D z "IdentityIssuerLaw") (hX : va_X b L xs s s.heap) (hbl : b < s.heap.size) (hbA : ¬ mw_A z b) (hL : L ≤ 3073) {M : mw_M} {H : Heap} {locs : List Loc} {ls : Array Slot} {j : Nat} (hj : 1 + 6 * (j + 1) ≤ L) (hM : mw_at D mg_cl z M H) (hS : va_S (mw_A z) s.heap H locs) (hl : lv_has ls 4 [(3, .int (nI (1 + 6 * j))), (2, .ref mm), (1, .ref x), (0, .ref b)]) {Nxt : mw_M → Prop} (hc : ls_ok l D z x mm yy_Xi_entry bb_Xi_entry 6 (Option.some Jvm.ClassFile.FieldType.int) yy_Mo_entry bb_Mo_entry 8 (Option.some Jvm.ClassFile.FieldType.int) [.int (xs (1 + 6 * j + 1)), .int (xs (1 + 6 * j + 2)), .int (xs (1 + 6 * j + 3)), .int (xs (1 + 6 * j + 4)), .int (xs (1 + 6 * j + 5))] M Nxt)
    (kk : ∀ (M2 : mw_M) (H : Heap) (locs : List Loc), Nxt M2 → mw_at D mg_cl z M2 H → va_S (mw_A z) s.heap H locs → W p l e room_1 s m #[Value.ref b] below meth c H locs (100 + 50 * (j + 1)) (5000 + 1500 * (j + 1)) (lw_Z below #[Value.ref b] s) (F0 m 618 ls [])) : W p l e room_1 s m #[Value.ref b] below meth c H locs (100 + 50 * j) (5000 + 1500 * j) (lw_Z below #[Value.ref b] s) (F0 m 174 ls []) := by
  have hx := E.x
  have hb := E.b
  obtain ⟨⟨fsx, wx⟩, fr, lo, mc, ms, post, hfr, hlo, hmc, hms, hC, hn⟩ := hc
  refine lv_aload_n hx hb dd_La_law_174 rfl (lv_at hl 2 rfl) ?_
  refine lv_aload_n hx hb dd_La_law_175 rfl (lv_at hl 3 rfl) ?_
  refine lv_iload_n hx hb dd_La_law_176 rfl (lv_at hl 0 rfl) ?_
  refine lv_iconst (v := nI 1) hx hb dd_La_law_177 (by decide) ?_
  refine lv_iadd hx hb dd_La_law_178 ?_
  refine mw_topi (y := nI (1 + 6 * j + 1)) (nI_add _ _) ?_
  refine va_sld hx hb hX hbl hbA hS (vp_in_nI (by omega) (by omega)) dd_La_law_179 ?_
  refine mw_topi (y := xs (1 + 6 * j + 1)) (by rw [nI_clamp (by omega)]) ?_
  refine lv_aload_n hx hb dd_La_law_180 rfl (lv_at hl 3 rfl) ?_
  refine lv_iload_n hx hb dd_La_law_181 rfl (lv_at hl 0 rfl) ?_
  refine lv_iconst (v := nI 2) hx hb dd_La_law_182 (by decide) ?_
  refine lv_iadd hx hb dd_La_law_183 ?_
  refine mw_topi (y := nI (1 + 6 * j + 2)) (nI_add _ _) ?_
  refine va_sld hx hb hX hbl hbA hS (vp_in_nI (by omega) (by omega)) dd_La_law_184 ?_
  refine mw_topi (y := xs (1 + 6 * j + 2)) (by rw [nI_clamp (by omega)]) ?_
  refine lv_aload_n hx hb dd_La_law_185 rfl (lv_at hl 3 rfl) ?_
  refine lv_iload_n hx hb dd_La_law_186 rfl (lv_at hl 0 rfl) ?_
  refine lv_iconst (v := nI 3) hx hb dd_La_law_187 (by decide) ?_
  refine lv_iadd hx hb dd_La_law_188 ?_
  refine mw_topi (y := nI (1 + 6 * j + 3)) (nI_add _ _) ?_
  refine va_sld hx hb hX hbl hbA hS (vp_in_nI (by omega) (by omega)) dd_La_law_189 ?_
  refine mw_topi (y := xs (1 + 6 * j + 3)) (by rw [nI_clamp (by omega)]) ?_
  refine lv_aload_n hx hb dd_La_law_190 rfl (lv_at hl 3 rfl) ?_
  refine lv_iload_n hx hb dd_La_law_191 rfl (lv_at hl 0 rfl) ?_
  refine lv_iconst (v := nI 4) hx hb dd_La_law_192 (by decide) ?_
  refine lv_iadd hx hb dd_La_law_193 ?_
  refine mw_topi (y := nI (1 + 6 * j + 4)) (nI_add _ _) ?_
  refine va_sld hx hb hX hbl hbA hS (vp_in_nI (by omega) (by omega)) dd_La_law_194 ?_
  refine mw_topi (y := xs (1 + 6 * j + 4)) (by rw [nI_clamp (by omega)]) ?_
  refine lv_aload_n hx hb dd_La_law_195 rfl (lv_at hl 3 rfl) ?_
  refine lv_iload_n hx hb dd_La_law_196 rfl (lv_at hl 0 rfl) ?_
  refine lv_iconst (v := nI 5) hx hb dd_La_law_197 (by decide) ?_
  refine lv_iadd hx hb dd_La_law_198 ?_
  refine mw_topi (y := nI (1 + 6 * j + 5)) (nI_add _ _) ?_
  refine va_sld hx hb hX hbl hbA hS (vp_in_nI (by omega) (by omega)) dd_La_law_199 ?_
  refine mw_topi (y := xs (1 + 6 * j + 5)) (by rw [nI_clamp (by omega)]) ?_
  refine mw_V (As := [.int (xs (1 + 6 * j + 1)), .int (xs (1 + 6 * j + 2)), .int (xs (1 + 6 * j + 3)), .int (xs (1 + 6 * j + 4)), .int (xs (1 + 6 * j + 5))]) (rest := []) E hC ky_Xi_entry kv_Xi_entry tw_La_31 hM hS wx rfl rfl rfl hl.1 rfl (Nat.le_of_ble_eq_true rfl) dd_La_law_200 ⟨by show _ ≤ 600000; omega, by show _ ≤ 7302250; omega⟩ ⟨hfr, hlo⟩ (fun v M1 H locs hp hM hS => ?_)
  obtain ⟨r, rfl, ⟨fsm, wm⟩, fr2, lo2, post2, hfr2, hlo2, hC2, hn2⟩ := hn v M1 hp
  refine W.eq (g2 := F0 m 203 ls [.int r]) rfl ?_
  refine lv_aload_n hx hb dd_La_law_203 rfl (lv_at hl 1 rfl) ?_
  refine lv_aload_n hx hb dd_La_law_204 rfl (lv_at hl 3 rfl) ?_
  refine lv_iload_n hx hb dd_La_law_205 rfl (lv_at hl 0 rfl) ?_
  refine lv_iconst (v := nI 1) hx hb dd_La_law_206 (by decide) ?_
  refine lv_iadd hx hb dd_La_law_207 ?_
  refine mw_topi (y := nI (1 + 6 * j + 1)) (nI_add _ _) ?_
  refine va_sld hx hb hX hbl hbA hS (vp_in_nI (by omega) (by omega)) dd_La_law_208 ?_
  refine mw_topi (y := xs (1 + 6 * j + 1)) (by rw [nI_clamp (by omega)]) ?_
  refine lv_aload_n hx hb dd_La_law_209 rfl (lv_at hl 3 rfl) ?_
  refine lv_iload_n hx hb dd_La_law_210 rfl (lv_at hl 0 rfl) ?_
  refine lv_iconst (v := nI 2) hx hb dd_La_law_211 (by decide) ?_
  refine lv_iadd hx hb dd_La_law_212 ?_
  refine mw_topi (y := nI (1 + 6 * j + 2)) (nI_add _ _) ?_
  refine va_sld hx hb hX hbl hbA hS (vp_in_nI (by omega) (by omega)) dd_La_law_213 ?_
  refine mw_topi (y := xs (1 + 6 * j + 2)) (by rw [nI_clamp (by omega)]) ?_
  refine lv_aload_n hx hb dd_La_law_214 rfl (lv_at hl 3 rfl) ?_
  refine lv_iload_n hx hb dd_La_law_215 rfl (lv_at hl 0 rfl) ?_
  refine lv_iconst (v := nI 3) hx hb dd_La_law_216 (by decide) ?_
  refine lv_iadd hx hb dd_La_law_217 ?_
  refine mw_topi (y := nI (1 + 6 * j + 3)) (nI_add _ _) ?_
  refine va_sld hx hb hX hbl hbA hS (vp_in_nI (by omega) (by omega)) dd_La_law_218 ?_
  refine mw_topi (y := xs (1 + 6 * j + 3)) (by rw [nI_clamp (by omega)]) ?_
  refine lv_aload_n hx hb dd_La_law_219 rfl (lv_at hl 3 rfl) ?_
  refine lv_iload_n hx hb dd_La_law_220 rfl (lv_at hl 0 rfl) ?_
  refine lv_iconst (v := nI 4) hx hb dd_La_law_221 (by decide) ?_
  refine lv_iadd hx hb dd_La_law_222 ?_
  refine mw_topi (y := nI (1 + 6 * j + 4)) (nI_add _ _) ?_
  refine va_sld hx hb hX hbl hbA hS (vp_in_nI (by omega) (by omega)) dd_La_law_223 ?_
  refine mw_topi (y := xs (1 + 6 * j + 4)) (by rw [nI_clamp (by omega)]) ?_
  refine lv_aload_n hx hb dd_La_law_224 rfl (lv_at hl 3 rfl) ?_
  refine lv_iload_n hx hb dd_La_law_225 rfl (lv_at hl 0 rfl) ?_
  refine lv_iconst (v := nI 5) hx hb dd_La_law_226 (by decide) ?_
  refine lv_iadd hx hb dd_La_law_227 ?_
  refine mw_topi (y := nI (1 + 6 * j + 5)) (nI_add _ _) ?_
  refine va_sld hx hb hX hbl hbA hS (vp_in_nI (by omega) (by omega)) dd_La_law_228 ?_
  refine mw_topi (y := xs (1 + 6 * j + 5)) (by rw [nI_clamp (by omega)]) ?_
  refine mw_V (As := [.int (xs (1 + 6 * j + 1)), .int (xs (1 + 6 * j + 2)), .int (xs (1 + 6 * j + 3)), .int (xs (1 + 6 * j + 4)), .int (xs (1 + 6 * j + 5))]) (rest := [.int r]) E hC2 ky_Mo_entry kv_Mo_entry tw_La_35 hM hS wm rfl rfl rfl hl.1 rfl (Nat.le_of_ble_eq_true rfl) dd_La_law_229 ⟨by show _ ≤ 600000; omega, by show _ ≤ 7302250; omega⟩ ⟨hfr2, hlo2⟩ (fun v2 M2 H locs hp2 hM hS => ?_)
  obtain ⟨rfl, hN⟩ := hn2 v2 M2 hp2
  refine W.eq (g2 := F0 m 232 ls [.int r, .int r]) rfl ?_
  refine lv_icmp_eq (tgt := 618) hx hb dd_La_law_232 (by decide) (fun _ => ?_) (fun h => absurd rfl h)
  exact W.widen (k := 100 + 50 * (j + 1)) (n := 5000 + 1500 * (j + 1)) (by omega) (by omega) (kk M2 H locs hN hM hS)
set_option maxRecDepth 100000 in
set_option maxHeartbeats 2000000 in
theorem ls_c3 (E : mw_E p m c code 4 s #[Value.ref b] D z "IdentityIssuerLaw") (hX : va_X b L xs s s.heap) (hbl : b < s.heap.size) (hbA : ¬ mw_A z b) (hL : L ≤ 3073) {M : mw_M} {H : Heap} {locs : List Loc} {ls : Array Slot} {j : Nat} (hj : 1 + 6 * (j + 1) ≤ L) (hM : mw_at D mg_cl z M H) (hS : va_S (mw_A z) s.heap H locs) (hl : lv_has ls 4 [(3, .int (nI (1 + 6 * j))), (2, .ref mm), (1, .ref x), (0, .ref b)]) {Nxt : mw_M → Prop} (hc : ls_ok l D z x mm yy_Xi_remove bb_Xi_remove 2 (Option.some Jvm.ClassFile.FieldType.boolean) yy_Mo_remove bb_Mo_remove 2 (Option.some Jvm.ClassFile.FieldType.boolean) [.int (xs (1 + 6 * j + 1))] M Nxt)
    (kk : ∀ (M2 : mw_M) (H : Heap) (locs : List Loc), Nxt M2 → mw_at D mg_cl z M2 H → va_S (mw_A z) s.heap H locs → W p l e room_1 s m #[Value.ref b] below meth c H locs (100 + 50 * (j + 1)) (5000 + 1500 * (j + 1)) (lw_Z below #[Value.ref b] s) (F0 m 618 ls [])) : W p l e room_1 s m #[Value.ref b] below meth c H locs (100 + 50 * j) (5000 + 1500 * j) (lw_Z below #[Value.ref b] s) (F0 m 237 ls []) := by
  have hx := E.x
  have hb := E.b
  obtain ⟨⟨fsx, wx⟩, fr, lo, mc, ms, post, hfr, hlo, hmc, hms, hC, hn⟩ := hc
  refine lv_aload_n hx hb dd_La_law_237 rfl (lv_at hl 2 rfl) ?_
  refine lv_aload_n hx hb dd_La_law_238 rfl (lv_at hl 3 rfl) ?_
  refine lv_iload_n hx hb dd_La_law_239 rfl (lv_at hl 0 rfl) ?_
  refine lv_iconst (v := nI 1) hx hb dd_La_law_240 (by decide) ?_
  refine lv_iadd hx hb dd_La_law_241 ?_
  refine mw_topi (y := nI (1 + 6 * j + 1)) (nI_add _ _) ?_
  refine va_sld hx hb hX hbl hbA hS (vp_in_nI (by omega) (by omega)) dd_La_law_242 ?_
  refine mw_topi (y := xs (1 + 6 * j + 1)) (by rw [nI_clamp (by omega)]) ?_
  refine mw_V (As := [.int (xs (1 + 6 * j + 1))]) (rest := []) E hC ky_Xi_remove kv_Xi_remove tw_La_36 hM hS wx rfl rfl rfl hl.1 rfl (Nat.le_of_ble_eq_true rfl) dd_La_law_243 ⟨by show _ ≤ 600000; omega, by show _ ≤ 7302250; omega⟩ ⟨hfr, hlo⟩ (fun v M1 H locs hp hM hS => ?_)
  obtain ⟨r, rfl, ⟨fsm, wm⟩, fr2, lo2, post2, hfr2, hlo2, hC2, hn2⟩ := hn v M1 hp
  refine W.eq (g2 := F0 m 246 ls [.int r]) rfl ?_
  refine lv_aload_n hx hb dd_La_law_246 rfl (lv_at hl 1 rfl) ?_
  refine lv_aload_n hx hb dd_La_law_247 rfl (lv_at hl 3 rfl) ?_
  refine lv_iload_n hx hb dd_La_law_248 rfl (lv_at hl 0 rfl) ?_
  refine lv_iconst (v := nI 1) hx hb dd_La_law_249 (by decide) ?_
  refine lv_iadd hx hb dd_La_law_250 ?_
  refine mw_topi (y := nI (1 + 6 * j + 1)) (nI_add _ _) ?_
  refine va_sld hx hb hX hbl hbA hS (vp_in_nI (by omega) (by omega)) dd_La_law_251 ?_
  refine mw_topi (y := xs (1 + 6 * j + 1)) (by rw [nI_clamp (by omega)]) ?_
  refine mw_V (As := [.int (xs (1 + 6 * j + 1))]) (rest := [.int r]) E hC2 ky_Mo_remove kv_Mo_remove tw_La_40 hM hS wm rfl rfl rfl hl.1 rfl (Nat.le_of_ble_eq_true rfl) dd_La_law_252 ⟨by show _ ≤ 600000; omega, by show _ ≤ 7302250; omega⟩ ⟨hfr2, hlo2⟩ (fun v2 M2 H locs hp2 hM hS => ?_)
  obtain ⟨rfl, hN⟩ := hn2 v2 M2 hp2
  refine W.eq (g2 := F0 m 255 ls [.int r, .int r]) rfl ?_
  refine lv_icmp_eq (tgt := 618) hx hb dd_La_law_255 (by decide) (fun _ => ?_) (fun h => absurd rfl h)
  exact W.widen (k := 100 + 50 * (j + 1)) (n := 5000 + 1500 * (j + 1)) (by omega) (by omega) (kk M2 H locs hN hM hS)
set_option maxRecDepth 100000 in
set_option maxHeartbeats 2000000 in
theorem ls_c4 (E : mw_E p m c code 4 s #[Value.ref b] D z "IdentityIssuerLaw") (hX : va_X b L xs s s.heap) (hbl : b < s.heap.size) (hbA : ¬ mw_A z b) (hL : L ≤ 3073) {M : mw_M} {H : Heap} {locs : List Loc} {ls : Array Slot} {j : Nat} (hj : 1 + 6 * (j + 1) ≤ L) (hM : mw_at D mg_cl z M H) (hS : va_S (mw_A z) s.heap H locs) (hl : lv_has ls 4 [(3, .int (nI (1 + 6 * j))), (2, .ref mm), (1, .ref x), (0, .ref b)]) {Nxt : mw_M → Prop} (hc : ls_ok l D z x mm yy_Xi_foreign bb_Xi_foreign 3 (Option.some Jvm.ClassFile.FieldType.boolean) yy_Mo_foreign bb_Mo_foreign 3 (Option.some Jvm.ClassFile.FieldType.boolean) [.int (xs (1 + 6 * j + 1)), .int (ls_b (xs (1 + 6 * j + 2)))] M Nxt)
    (kk : ∀ (M2 : mw_M) (H : Heap) (locs : List Loc), Nxt M2 → mw_at D mg_cl z M2 H → va_S (mw_A z) s.heap H locs → W p l e room_1 s m #[Value.ref b] below meth c H locs (100 + 50 * (j + 1)) (5000 + 1500 * (j + 1)) (lw_Z below #[Value.ref b] s) (F0 m 618 ls [])) : W p l e room_1 s m #[Value.ref b] below meth c H locs (100 + 50 * j) (5000 + 1500 * j) (lw_Z below #[Value.ref b] s) (F0 m 260 ls []) := by
  have hx := E.x
  have hb := E.b
  obtain ⟨⟨fsx, wx⟩, fr, lo, mc, ms, post, hfr, hlo, hmc, hms, hC, hn⟩ := hc
  refine lv_aload_n hx hb dd_La_law_260 rfl (lv_at hl 2 rfl) ?_
  refine lv_aload_n hx hb dd_La_law_261 rfl (lv_at hl 3 rfl) ?_
  refine lv_iload_n hx hb dd_La_law_262 rfl (lv_at hl 0 rfl) ?_
  refine lv_iconst (v := nI 1) hx hb dd_La_law_263 (by decide) ?_
  refine lv_iadd hx hb dd_La_law_264 ?_
  refine mw_topi (y := nI (1 + 6 * j + 1)) (nI_add _ _) ?_
  refine va_sld hx hb hX hbl hbA hS (vp_in_nI (by omega) (by omega)) dd_La_law_265 ?_
  refine mw_topi (y := xs (1 + 6 * j + 1)) (by rw [nI_clamp (by omega)]) ?_
  refine lv_aload_n hx hb dd_La_law_266 rfl (lv_at hl 3 rfl) ?_
  refine lv_iload_n hx hb dd_La_law_267 rfl (lv_at hl 0 rfl) ?_
  refine lv_iconst (v := nI 2) hx hb dd_La_law_268 (by decide) ?_
  refine lv_iadd hx hb dd_La_law_269 ?_
  refine mw_topi (y := nI (1 + 6 * j + 2)) (nI_add _ _) ?_
  refine va_sld hx hb hX hbl hbA hS (vp_in_nI (by omega) (by omega)) dd_La_law_270 ?_
  refine mw_topi (y := xs (1 + 6 * j + 2)) (by rw [nI_clamp (by omega)]) ?_
  have hbr : (W p l e room_1 s m #[Value.ref b] below meth c H locs (100 + 50 * j) (5000 + 1500 * j) (lw_Z below #[Value.ref b] s) (F0 m 279 ls [.int (ls_b (xs (1 + 6 * j + 2))), .int (xs (1 + 6 * j + 1)), .ref x])) → W p l e room_1 s m #[Value.ref b] below meth c H locs (100 + 50 * j) (5000 + 1500 * j) (lw_Z below #[Value.ref b] s) (F0 m 271 ls [.int (xs (1 + 6 * j + 2)), .int (xs (1 + 6 * j + 1)), .ref x]) := fun kz => by
    refine lv_if_eq (tgt := 278) hx hb dd_La_law_271 (by decide) (fun h => ?_) (fun h => ?_)
    · refine lv_iconst (v := nI 0) hx hb dd_La_law_278 (by decide) ?_
      rw [ls_b, if_pos h] at kz
      exact kz
    · refine lv_iconst (v := nI 1) hx hb dd_La_law_274 (by decide) ?_
      refine lv_goto (tgt := 279) hx hb dd_La_law_275 (by decide) ?_
      rw [ls_b, if_neg h] at kz
      exact kz
  refine hbr ?_
  refine mw_V (As := [.int (xs (1 + 6 * j + 1)), .int (ls_b (xs (1 + 6 * j + 2)))]) (rest := []) E hC ky_Xi_foreign kv_Xi_foreign tw_La_41 hM hS wx rfl rfl rfl hl.1 rfl (Nat.le_of_ble_eq_true rfl) dd_La_law_279 ⟨by show _ ≤ 600000; omega, by show _ ≤ 7302250; omega⟩ ⟨hfr, hlo⟩ (fun v M1 H locs hp hM hS => ?_)
  obtain ⟨r, rfl, ⟨fsm, wm⟩, fr2, lo2, post2, hfr2, hlo2, hC2, hn2⟩ := hn v M1 hp
  refine W.eq (g2 := F0 m 282 ls [.int r]) rfl ?_
  refine lv_aload_n hx hb dd_La_law_282 rfl (lv_at hl 1 rfl) ?_
  refine lv_aload_n hx hb dd_La_law_283 rfl (lv_at hl 3 rfl) ?_
  refine lv_iload_n hx hb dd_La_law_284 rfl (lv_at hl 0 rfl) ?_
  refine lv_iconst (v := nI 1) hx hb dd_La_law_285 (by decide) ?_
  refine lv_iadd hx hb dd_La_law_286 ?_
  refine mw_topi (y := nI (1 + 6 * j + 1)) (nI_add _ _) ?_
  refine va_sld hx hb hX hbl hbA hS (vp_in_nI (by omega) (by omega)) dd_La_law_287 ?_
  refine mw_topi (y := xs (1 + 6 * j + 1)) (by rw [nI_clamp (by omega)]) ?_
  refine lv_aload_n hx hb dd_La_law_288 rfl (lv_at hl 3 rfl) ?_
  refine lv_iload_n hx hb dd_La_law_289 rfl (lv_at hl 0 rfl) ?_
  refine lv_iconst (v := nI 2) hx hb dd_La_law_290 (by decide) ?_
  refine lv_iadd hx hb dd_La_law_291 ?_
  refine mw_topi (y := nI (1 + 6 * j + 2)) (nI_add _ _) ?_
  refine va_sld hx hb hX hbl hbA hS (vp_in_nI (by omega) (by omega)) dd_La_law_292 ?_
  refine mw_topi (y := xs (1 + 6 * j + 2)) (by rw [nI_clamp (by omega)]) ?_
  have hbr : (W p l e room_1 s m #[Value.ref b] below meth c H locs (100 + 50 * j + mc) (5000 + 1500 * j + ms) (lw_Z below #[Value.ref b] s) (F0 m 301 ls [.int (ls_b (xs (1 + 6 * j + 2))), .int (xs (1 + 6 * j + 1)), .ref mm, .int r])) → W p l e room_1 s m #[Value.ref b] below meth c H locs (100 + 50 * j + mc) (5000 + 1500 * j + ms) (lw_Z below #[Value.ref b] s) (F0 m 293 ls [.int (xs (1 + 6 * j + 2)), .int (xs (1 + 6 * j + 1)), .ref mm, .int r]) := fun kz => by
    refine lv_if_eq (tgt := 300) hx hb dd_La_law_293 (by decide) (fun h => ?_) (fun h => ?_)
    · refine lv_iconst (v := nI 0) hx hb dd_La_law_300 (by decide) ?_
      rw [ls_b, if_pos h] at kz
      exact kz
    · refine lv_iconst (v := nI 1) hx hb dd_La_law_296 (by decide) ?_
      refine lv_goto (tgt := 301) hx hb dd_La_law_297 (by decide) ?_
      rw [ls_b, if_neg h] at kz
      exact kz
  refine hbr ?_
  refine mw_V (As := [.int (xs (1 + 6 * j + 1)), .int (ls_b (xs (1 + 6 * j + 2)))]) (rest := [.int r]) E hC2 ky_Mo_foreign kv_Mo_foreign tw_La_45 hM hS wm rfl rfl rfl hl.1 rfl (Nat.le_of_ble_eq_true rfl) dd_La_law_301 ⟨by show _ ≤ 600000; omega, by show _ ≤ 7302250; omega⟩ ⟨hfr2, hlo2⟩ (fun v2 M2 H locs hp2 hM hS => ?_)
  obtain ⟨rfl, hN⟩ := hn2 v2 M2 hp2
  refine W.eq (g2 := F0 m 304 ls [.int r, .int r]) rfl ?_
  refine lv_icmp_eq (tgt := 618) hx hb dd_La_law_304 (by decide) (fun _ => ?_) (fun h => absurd rfl h)
  exact W.widen (k := 100 + 50 * (j + 1)) (n := 5000 + 1500 * (j + 1)) (by omega) (by omega) (kk M2 H locs hN hM hS)
set_option maxRecDepth 100000 in
set_option maxHeartbeats 2000000 in
theorem ls_c5 (E : mw_E p m c code 4 s #[Value.ref b] D z "IdentityIssuerLaw") (hX : va_X b L xs s s.heap) (hbl : b < s.heap.size) (hbA : ¬ mw_A z b) (hL : L ≤ 3073) {M : mw_M} {H : Heap} {locs : List Loc} {ls : Array Slot} {j : Nat} (hj : 1 + 6 * (j + 1) ≤ L) (hM : mw_at D mg_cl z M H) (hS : va_S (mw_A z) s.heap H locs) (hl : lv_has ls 4 [(3, .int (nI (1 + 6 * j))), (2, .ref mm), (1, .ref x), (0, .ref b)]) {Nxt : mw_M → Prop} (hc : ls_ok l D z x mm yy_Xi_attest bb_Xi_attest 4 (Option.some Jvm.ClassFile.FieldType.int) yy_Mo_attest bb_Mo_attest 4 (Option.some Jvm.ClassFile.FieldType.int) [.int (xs (1 + 6 * j + 1)), .int (xs (1 + 6 * j + 2))] M Nxt)
    (kk : ∀ (M2 : mw_M) (H : Heap) (locs : List Loc), Nxt M2 → mw_at D mg_cl z M2 H → va_S (mw_A z) s.heap H locs → W p l e room_1 s m #[Value.ref b] below meth c H locs (100 + 50 * (j + 1)) (5000 + 1500 * (j + 1)) (lw_Z below #[Value.ref b] s) (F0 m 618 ls [])) : W p l e room_1 s m #[Value.ref b] below meth c H locs (100 + 50 * j) (5000 + 1500 * j) (lw_Z below #[Value.ref b] s) (F0 m 309 ls []) := by
  have hx := E.x
  have hb := E.b
  obtain ⟨⟨fsx, wx⟩, fr, lo, mc, ms, post, hfr, hlo, hmc, hms, hC, hn⟩ := hc
  refine lv_aload_n hx hb dd_La_law_309 rfl (lv_at hl 2 rfl) ?_
  refine lv_aload_n hx hb dd_La_law_310 rfl (lv_at hl 3 rfl) ?_
  refine lv_iload_n hx hb dd_La_law_311 rfl (lv_at hl 0 rfl) ?_
  refine lv_iconst (v := nI 1) hx hb dd_La_law_312 (by decide) ?_
  refine lv_iadd hx hb dd_La_law_313 ?_
  refine mw_topi (y := nI (1 + 6 * j + 1)) (nI_add _ _) ?_
  refine va_sld hx hb hX hbl hbA hS (vp_in_nI (by omega) (by omega)) dd_La_law_314 ?_
  refine mw_topi (y := xs (1 + 6 * j + 1)) (by rw [nI_clamp (by omega)]) ?_
  refine lv_aload_n hx hb dd_La_law_315 rfl (lv_at hl 3 rfl) ?_
  refine lv_iload_n hx hb dd_La_law_316 rfl (lv_at hl 0 rfl) ?_
  refine lv_iconst (v := nI 2) hx hb dd_La_law_317 (by decide) ?_
  refine lv_iadd hx hb dd_La_law_318 ?_
  refine mw_topi (y := nI (1 + 6 * j + 2)) (nI_add _ _) ?_
  refine va_sld hx hb hX hbl hbA hS (vp_in_nI (by omega) (by omega)) dd_La_law_319 ?_
  refine mw_topi (y := xs (1 + 6 * j + 2)) (by rw [nI_clamp (by omega)]) ?_
  refine mw_V (As := [.int (xs (1 + 6 * j + 1)), .int (xs (1 + 6 * j + 2))]) (rest := []) E hC ky_Xi_attest kv_Xi_attest tw_La_46 hM hS wx rfl rfl rfl hl.1 rfl (Nat.le_of_ble_eq_true rfl) dd_La_law_320 ⟨by show _ ≤ 600000; omega, by show _ ≤ 7302250; omega⟩ ⟨hfr, hlo⟩ (fun v M1 H locs hp hM hS => ?_)
  obtain ⟨r, rfl, ⟨fsm, wm⟩, fr2, lo2, post2, hfr2, hlo2, hC2, hn2⟩ := hn v M1 hp
  refine W.eq (g2 := F0 m 323 ls [.int r]) rfl ?_
  refine lv_aload_n hx hb dd_La_law_323 rfl (lv_at hl 1 rfl) ?_
  refine lv_aload_n hx hb dd_La_law_324 rfl (lv_at hl 3 rfl) ?_
  refine lv_iload_n hx hb dd_La_law_325 rfl (lv_at hl 0 rfl) ?_
  refine lv_iconst (v := nI 1) hx hb dd_La_law_326 (by decide) ?_
  refine lv_iadd hx hb dd_La_law_327 ?_
  refine mw_topi (y := nI (1 + 6 * j + 1)) (nI_add _ _) ?_
  refine va_sld hx hb hX hbl hbA hS (vp_in_nI (by omega) (by omega)) dd_La_law_328 ?_
  refine mw_topi (y := xs (1 + 6 * j + 1)) (by rw [nI_clamp (by omega)]) ?_
  refine lv_aload_n hx hb dd_La_law_329 rfl (lv_at hl 3 rfl) ?_
  refine lv_iload_n hx hb dd_La_law_330 rfl (lv_at hl 0 rfl) ?_
  refine lv_iconst (v := nI 2) hx hb dd_La_law_331 (by decide) ?_
  refine lv_iadd hx hb dd_La_law_332 ?_
  refine mw_topi (y := nI (1 + 6 * j + 2)) (nI_add _ _) ?_
  refine va_sld hx hb hX hbl hbA hS (vp_in_nI (by omega) (by omega)) dd_La_law_333 ?_
  refine mw_topi (y := xs (1 + 6 * j + 2)) (by rw [nI_clamp (by omega)]) ?_
  refine mw_V (As := [.int (xs (1 + 6 * j + 1)), .int (xs (1 + 6 * j + 2))]) (rest := [.int r]) E hC2 ky_Mo_attest kv_Mo_attest tw_La_50 hM hS wm rfl rfl rfl hl.1 rfl (Nat.le_of_ble_eq_true rfl) dd_La_law_334 ⟨by show _ ≤ 600000; omega, by show _ ≤ 7302250; omega⟩ ⟨hfr2, hlo2⟩ (fun v2 M2 H locs hp2 hM hS => ?_)
  obtain ⟨rfl, hN⟩ := hn2 v2 M2 hp2
  refine W.eq (g2 := F0 m 337 ls [.int r, .int r]) rfl ?_
  refine lv_icmp_eq (tgt := 618) hx hb dd_La_law_337 (by decide) (fun _ => ?_) (fun h => absurd rfl h)
  exact W.widen (k := 100 + 50 * (j + 1)) (n := 5000 + 1500 * (j + 1)) (by omega) (by omega) (kk M2 H locs hN hM hS)
set_option maxRecDepth 100000 in
set_option maxHeartbeats 2000000 in
theorem ls_c6 (E : mw_E p m c code 4 s #[Value.ref b] D z "IdentityIssuerLaw") (hX : va_X b L xs s s.heap) (hbl : b < s.heap.size) (hbA : ¬ mw_A z b) (hL : L ≤ 3073) {M : mw_M} {H : Heap} {locs : List Loc} {ls : Array Slot} {j : Nat} (hj : 1 + 6 * (j + 1) ≤ L) (hM : mw_at D mg_cl z M H) (hS : va_S (mw_A z) s.heap H locs) (hl : lv_has ls 4 [(3, .int (nI (1 + 6 * j))), (2, .ref mm), (1, .ref x), (0, .ref b)]) {Nxt : mw_M → Prop} (hc : ls_ok l D z x mm yy_Xi_sync bb_Xi_sync 5 (Option.some Jvm.ClassFile.FieldType.int) yy_Mo_sync bb_Mo_sync 5 (Option.some Jvm.ClassFile.FieldType.int) [.int (xs (1 + 6 * j + 1))] M Nxt)
    (kk : ∀ (M2 : mw_M) (H : Heap) (locs : List Loc), Nxt M2 → mw_at D mg_cl z M2 H → va_S (mw_A z) s.heap H locs → W p l e room_1 s m #[Value.ref b] below meth c H locs (100 + 50 * (j + 1)) (5000 + 1500 * (j + 1)) (lw_Z below #[Value.ref b] s) (F0 m 618 ls [])) : W p l e room_1 s m #[Value.ref b] below meth c H locs (100 + 50 * j) (5000 + 1500 * j) (lw_Z below #[Value.ref b] s) (F0 m 342 ls []) := by
  have hx := E.x
  have hb := E.b
  obtain ⟨⟨fsx, wx⟩, fr, lo, mc, ms, post, hfr, hlo, hmc, hms, hC, hn⟩ := hc
  refine lv_aload_n hx hb dd_La_law_342 rfl (lv_at hl 2 rfl) ?_
  refine lv_aload_n hx hb dd_La_law_343 rfl (lv_at hl 3 rfl) ?_
  refine lv_iload_n hx hb dd_La_law_344 rfl (lv_at hl 0 rfl) ?_
  refine lv_iconst (v := nI 1) hx hb dd_La_law_345 (by decide) ?_
  refine lv_iadd hx hb dd_La_law_346 ?_
  refine mw_topi (y := nI (1 + 6 * j + 1)) (nI_add _ _) ?_
  refine va_sld hx hb hX hbl hbA hS (vp_in_nI (by omega) (by omega)) dd_La_law_347 ?_
  refine mw_topi (y := xs (1 + 6 * j + 1)) (by rw [nI_clamp (by omega)]) ?_
  refine mw_V (As := [.int (xs (1 + 6 * j + 1))]) (rest := []) E hC ky_Xi_sync kv_Xi_sync tw_La_51 hM hS wx rfl rfl rfl hl.1 rfl (Nat.le_of_ble_eq_true rfl) dd_La_law_348 ⟨by show _ ≤ 600000; omega, by show _ ≤ 7302250; omega⟩ ⟨hfr, hlo⟩ (fun v M1 H locs hp hM hS => ?_)
  obtain ⟨r, rfl, ⟨fsm, wm⟩, fr2, lo2, post2, hfr2, hlo2, hC2, hn2⟩ := hn v M1 hp
  refine W.eq (g2 := F0 m 351 ls [.int r]) rfl ?_
  refine lv_aload_n hx hb dd_La_law_351 rfl (lv_at hl 1 rfl) ?_
  refine lv_aload_n hx hb dd_La_law_352 rfl (lv_at hl 3 rfl) ?_
  refine lv_iload_n hx hb dd_La_law_353 rfl (lv_at hl 0 rfl) ?_
  refine lv_iconst (v := nI 1) hx hb dd_La_law_354 (by decide) ?_
  refine lv_iadd hx hb dd_La_law_355 ?_
  refine mw_topi (y := nI (1 + 6 * j + 1)) (nI_add _ _) ?_
  refine va_sld hx hb hX hbl hbA hS (vp_in_nI (by omega) (by omega)) dd_La_law_356 ?_
  refine mw_topi (y := xs (1 + 6 * j + 1)) (by rw [nI_clamp (by omega)]) ?_
  refine mw_V (As := [.int (xs (1 + 6 * j + 1))]) (rest := [.int r]) E hC2 ky_Mo_sync kv_Mo_sync tw_La_55 hM hS wm rfl rfl rfl hl.1 rfl (Nat.le_of_ble_eq_true rfl) dd_La_law_357 ⟨by show _ ≤ 600000; omega, by show _ ≤ 7302250; omega⟩ ⟨hfr2, hlo2⟩ (fun v2 M2 H locs hp2 hM hS => ?_)
  obtain ⟨rfl, hN⟩ := hn2 v2 M2 hp2
  refine W.eq (g2 := F0 m 360 ls [.int r, .int r]) rfl ?_
  refine lv_icmp_eq (tgt := 618) hx hb dd_La_law_360 (by decide) (fun _ => ?_) (fun h => absurd rfl h)
  exact W.widen (k := 100 + 50 * (j + 1)) (n := 5000 + 1500 * (j + 1)) (by omega) (by omega) (kk M2 H locs hN hM hS)
set_option maxRecDepth 100000 in
set_option maxHeartbeats 2000000 in
theorem ls_c7 (E : mw_E p m c code 4 s #[Value.ref b] D z "IdentityIssuerLaw") (hX : va_X b L xs s s.heap) (hbl : b < s.heap.size) (hbA : ¬ mw_A z b) (hL : L ≤ 3073) {M : mw_M} {H : Heap} {locs : List Loc} {ls : Array Slot} {j : Nat} (hj : 1 + 6 * (j + 1) ≤ L) (hM : mw_at D mg_cl z M H) (hS : va_S (mw_A z) s.heap H locs) (hl : lv_has ls 4 [(3, .int (nI (1 + 6 * j))), (2, .ref mm), (1, .ref x), (0, .ref b)]) {Nxt : mw_M → Prop} (hc : ls_ok l D z x mm yy_Xi_fetch bb_Xi_fetch 3 (Option.some Jvm.ClassFile.FieldType.int) yy_Mo_fetch bb_Mo_fetch 3 (Option.some Jvm.ClassFile.FieldType.int) [.int (xs (1 + 6 * j + 1)), .int (xs (1 + 6 * j + 2))] M Nxt)
    (kk : ∀ (M2 : mw_M) (H : Heap) (locs : List Loc), Nxt M2 → mw_at D mg_cl z M2 H → va_S (mw_A z) s.heap H locs → W p l e room_1 s m #[Value.ref b] below meth c H locs (100 + 50 * (j + 1)) (5000 + 1500 * (j + 1)) (lw_Z below #[Value.ref b] s) (F0 m 618 ls [])) : W p l e room_1 s m #[Value.ref b] below meth c H locs (100 + 50 * j) (5000 + 1500 * j) (lw_Z below #[Value.ref b] s) (F0 m 365 ls []) := by
  have hx := E.x
  have hb := E.b
  obtain ⟨⟨fsx, wx⟩, fr, lo, mc, ms, post, hfr, hlo, hmc, hms, hC, hn⟩ := hc
  refine lv_aload_n hx hb dd_La_law_365 rfl (lv_at hl 2 rfl) ?_
  refine lv_aload_n hx hb dd_La_law_366 rfl (lv_at hl 3 rfl) ?_
  refine lv_iload_n hx hb dd_La_law_367 rfl (lv_at hl 0 rfl) ?_
  refine lv_iconst (v := nI 1) hx hb dd_La_law_368 (by decide) ?_
  refine lv_iadd hx hb dd_La_law_369 ?_
  refine mw_topi (y := nI (1 + 6 * j + 1)) (nI_add _ _) ?_
  refine va_sld hx hb hX hbl hbA hS (vp_in_nI (by omega) (by omega)) dd_La_law_370 ?_
  refine mw_topi (y := xs (1 + 6 * j + 1)) (by rw [nI_clamp (by omega)]) ?_
  refine lv_aload_n hx hb dd_La_law_371 rfl (lv_at hl 3 rfl) ?_
  refine lv_iload_n hx hb dd_La_law_372 rfl (lv_at hl 0 rfl) ?_
  refine lv_iconst (v := nI 2) hx hb dd_La_law_373 (by decide) ?_
  refine lv_iadd hx hb dd_La_law_374 ?_
  refine mw_topi (y := nI (1 + 6 * j + 2)) (nI_add _ _) ?_
  refine va_sld hx hb hX hbl hbA hS (vp_in_nI (by omega) (by omega)) dd_La_law_375 ?_
  refine mw_topi (y := xs (1 + 6 * j + 2)) (by rw [nI_clamp (by omega)]) ?_
  refine mw_V (As := [.int (xs (1 + 6 * j + 1)), .int (xs (1 + 6 * j + 2))]) (rest := []) E hC ky_Xi_fetch kv_Xi_fetch tw_La_56 hM hS wx rfl rfl rfl hl.1 rfl (Nat.le_of_ble_eq_true rfl) dd_La_law_376 ⟨by show _ ≤ 600000; omega, by show _ ≤ 7302250; omega⟩ ⟨hfr, hlo⟩ (fun v M1 H locs hp hM hS => ?_)
  obtain ⟨r, rfl, ⟨fsm, wm⟩, fr2, lo2, post2, hfr2, hlo2, hC2, hn2⟩ := hn v M1 hp
  refine W.eq (g2 := F0 m 379 ls [.int r]) rfl ?_
  refine lv_aload_n hx hb dd_La_law_379 rfl (lv_at hl 1 rfl) ?_
  refine lv_aload_n hx hb dd_La_law_380 rfl (lv_at hl 3 rfl) ?_
  refine lv_iload_n hx hb dd_La_law_381 rfl (lv_at hl 0 rfl) ?_
  refine lv_iconst (v := nI 1) hx hb dd_La_law_382 (by decide) ?_
  refine lv_iadd hx hb dd_La_law_383 ?_
  refine mw_topi (y := nI (1 + 6 * j + 1)) (nI_add _ _) ?_
  refine va_sld hx hb hX hbl hbA hS (vp_in_nI (by omega) (by omega)) dd_La_law_384 ?_
  refine mw_topi (y := xs (1 + 6 * j + 1)) (by rw [nI_clamp (by omega)]) ?_
  refine lv_aload_n hx hb dd_La_law_385 rfl (lv_at hl 3 rfl) ?_
  refine lv_iload_n hx hb dd_La_law_386 rfl (lv_at hl 0 rfl) ?_
  refine lv_iconst (v := nI 2) hx hb dd_La_law_387 (by decide) ?_
  refine lv_iadd hx hb dd_La_law_388 ?_
  refine mw_topi (y := nI (1 + 6 * j + 2)) (nI_add _ _) ?_
  refine va_sld hx hb hX hbl hbA hS (vp_in_nI (by omega) (by omega)) dd_La_law_389 ?_
  refine mw_topi (y := xs (1 + 6 * j + 2)) (by rw [nI_clamp (by omega)]) ?_
  refine mw_V (As := [.int (xs (1 + 6 * j + 1)), .int (xs (1 + 6 * j + 2))]) (rest := [.int r]) E hC2 ky_Mo_fetch kv_Mo_fetch tw_La_59 hM hS wm rfl rfl rfl hl.1 rfl (Nat.le_of_ble_eq_true rfl) dd_La_law_390 ⟨by show _ ≤ 600000; omega, by show _ ≤ 7302250; omega⟩ ⟨hfr2, hlo2⟩ (fun v2 M2 H locs hp2 hM hS => ?_)
  obtain ⟨rfl, hN⟩ := hn2 v2 M2 hp2
  refine W.eq (g2 := F0 m 393 ls [.int r, .int r]) rfl ?_
  refine lv_icmp_eq (tgt := 618) hx hb dd_La_law_393 (by decide) (fun _ => ?_) (fun h => absurd rfl h)
  exact W.widen (k := 100 + 50 * (j + 1)) (n := 5000 + 1500 * (j + 1)) (by omega) (by omega) (kk M2 H locs hN hM hS)
set_option maxRecDepth 100000 in
set_option maxHeartbeats 2000000 in
theorem ls_c8 (E : mw_E p m c code 4 s #[Value.ref b] D z "IdentityIssuerLaw") (hX : va_X b L xs s s.heap) (hbl : b < s.heap.size) (hbA : ¬ mw_A z b) (hL : L ≤ 3073) {M : mw_M} {H : Heap} {locs : List Loc} {ls : Array Slot} {j : Nat} (hj : 1 + 6 * (j + 1) ≤ L) (hM : mw_at D mg_cl z M H) (hS : va_S (mw_A z) s.heap H locs) (hl : lv_has ls 4 [(3, .int (nI (1 + 6 * j))), (2, .ref mm), (1, .ref x), (0, .ref b)]) {Nxt : mw_M → Prop} (hc : ls_ok l D z x mm yy_Xi_watch bb_Xi_watch 3 (Option.some Jvm.ClassFile.FieldType.int) yy_Mo_watch bb_Mo_watch 3 (Option.some Jvm.ClassFile.FieldType.int) [.int (xs (1 + 6 * j + 1)), .int (xs (1 + 6 * j + 2))] M Nxt)
    (kk : ∀ (M2 : mw_M) (H : Heap) (locs : List Loc), Nxt M2 → mw_at D mg_cl z M2 H → va_S (mw_A z) s.heap H locs → W p l e room_1 s m #[Value.ref b] below meth c H locs (100 + 50 * (j + 1)) (5000 + 1500 * (j + 1)) (lw_Z below #[Value.ref b] s) (F0 m 618 ls [])) : W p l e room_1 s m #[Value.ref b] below meth c H locs (100 + 50 * j) (5000 + 1500 * j) (lw_Z below #[Value.ref b] s) (F0 m 398 ls []) := by
  have hx := E.x
  have hb := E.b
  obtain ⟨⟨fsx, wx⟩, fr, lo, mc, ms, post, hfr, hlo, hmc, hms, hC, hn⟩ := hc
  refine lv_aload_n hx hb dd_La_law_398 rfl (lv_at hl 2 rfl) ?_
  refine lv_aload_n hx hb dd_La_law_399 rfl (lv_at hl 3 rfl) ?_
  refine lv_iload_n hx hb dd_La_law_400 rfl (lv_at hl 0 rfl) ?_
  refine lv_iconst (v := nI 1) hx hb dd_La_law_401 (by decide) ?_
  refine lv_iadd hx hb dd_La_law_402 ?_
  refine mw_topi (y := nI (1 + 6 * j + 1)) (nI_add _ _) ?_
  refine va_sld hx hb hX hbl hbA hS (vp_in_nI (by omega) (by omega)) dd_La_law_403 ?_
  refine mw_topi (y := xs (1 + 6 * j + 1)) (by rw [nI_clamp (by omega)]) ?_
  refine lv_aload_n hx hb dd_La_law_404 rfl (lv_at hl 3 rfl) ?_
  refine lv_iload_n hx hb dd_La_law_405 rfl (lv_at hl 0 rfl) ?_
  refine lv_iconst (v := nI 2) hx hb dd_La_law_406 (by decide) ?_
  refine lv_iadd hx hb dd_La_law_407 ?_
  refine mw_topi (y := nI (1 + 6 * j + 2)) (nI_add _ _) ?_
  refine va_sld hx hb hX hbl hbA hS (vp_in_nI (by omega) (by omega)) dd_La_law_408 ?_
  refine mw_topi (y := xs (1 + 6 * j + 2)) (by rw [nI_clamp (by omega)]) ?_
  refine mw_V (As := [.int (xs (1 + 6 * j + 1)), .int (xs (1 + 6 * j + 2))]) (rest := []) E hC ky_Xi_watch kv_Xi_watch tw_La_60 hM hS wx rfl rfl rfl hl.1 rfl (Nat.le_of_ble_eq_true rfl) dd_La_law_409 ⟨by show _ ≤ 600000; omega, by show _ ≤ 7302250; omega⟩ ⟨hfr, hlo⟩ (fun v M1 H locs hp hM hS => ?_)
  obtain ⟨r, rfl, ⟨fsm, wm⟩, fr2, lo2, post2, hfr2, hlo2, hC2, hn2⟩ := hn v M1 hp
  refine W.eq (g2 := F0 m 412 ls [.int r]) rfl ?_
  refine lv_aload_n hx hb dd_La_law_412 rfl (lv_at hl 1 rfl) ?_
  refine lv_aload_n hx hb dd_La_law_413 rfl (lv_at hl 3 rfl) ?_
  refine lv_iload_n hx hb dd_La_law_414 rfl (lv_at hl 0 rfl) ?_
  refine lv_iconst (v := nI 1) hx hb dd_La_law_415 (by decide) ?_
  refine lv_iadd hx hb dd_La_law_416 ?_
  refine mw_topi (y := nI (1 + 6 * j + 1)) (nI_add _ _) ?_
  refine va_sld hx hb hX hbl hbA hS (vp_in_nI (by omega) (by omega)) dd_La_law_417 ?_
  refine mw_topi (y := xs (1 + 6 * j + 1)) (by rw [nI_clamp (by omega)]) ?_
  refine lv_aload_n hx hb dd_La_law_418 rfl (lv_at hl 3 rfl) ?_
  refine lv_iload_n hx hb dd_La_law_419 rfl (lv_at hl 0 rfl) ?_
  refine lv_iconst (v := nI 2) hx hb dd_La_law_420 (by decide) ?_
  refine lv_iadd hx hb dd_La_law_421 ?_
  refine mw_topi (y := nI (1 + 6 * j + 2)) (nI_add _ _) ?_
  refine va_sld hx hb hX hbl hbA hS (vp_in_nI (by omega) (by omega)) dd_La_law_422 ?_
  refine mw_topi (y := xs (1 + 6 * j + 2)) (by rw [nI_clamp (by omega)]) ?_
  refine mw_V (As := [.int (xs (1 + 6 * j + 1)), .int (xs (1 + 6 * j + 2))]) (rest := [.int r]) E hC2 ky_Mo_watch kv_Mo_watch tw_La_63 hM hS wm rfl rfl rfl hl.1 rfl (Nat.le_of_ble_eq_true rfl) dd_La_law_423 ⟨by show _ ≤ 600000; omega, by show _ ≤ 7302250; omega⟩ ⟨hfr2, hlo2⟩ (fun v2 M2 H locs hp2 hM hS => ?_)
  obtain ⟨rfl, hN⟩ := hn2 v2 M2 hp2
  refine W.eq (g2 := F0 m 426 ls [.int r, .int r]) rfl ?_
  refine lv_icmp_eq (tgt := 618) hx hb dd_La_law_426 (by decide) (fun _ => ?_) (fun h => absurd rfl h)
  exact W.widen (k := 100 + 50 * (j + 1)) (n := 5000 + 1500 * (j + 1)) (by omega) (by omega) (kk M2 H locs hN hM hS)
set_option maxRecDepth 100000 in
set_option maxHeartbeats 2000000 in
theorem ls_c9 (E : mw_E p m c code 4 s #[Value.ref b] D z "IdentityIssuerLaw") (hX : va_X b L xs s s.heap) (hbl : b < s.heap.size) (hbA : ¬ mw_A z b) (hL : L ≤ 3073) {M : mw_M} {H : Heap} {locs : List Loc} {ls : Array Slot} {j : Nat} (hj : 1 + 6 * (j + 1) ≤ L) (hM : mw_at D mg_cl z M H) (hS : va_S (mw_A z) s.heap H locs) (hl : lv_has ls 4 [(3, .int (nI (1 + 6 * j))), (2, .ref mm), (1, .ref x), (0, .ref b)]) {Nxt : mw_M → Prop} (hc : ls_ok l D z x mm yy_Xi_poll bb_Xi_poll 3 (Option.some Jvm.ClassFile.FieldType.int) yy_Mo_poll bb_Mo_poll 5 (Option.some Jvm.ClassFile.FieldType.int) [.int (xs (1 + 6 * j + 1))] M Nxt)
    (kk : ∀ (M2 : mw_M) (H : Heap) (locs : List Loc), Nxt M2 → mw_at D mg_cl z M2 H → va_S (mw_A z) s.heap H locs → W p l e room_1 s m #[Value.ref b] below meth c H locs (100 + 50 * (j + 1)) (5000 + 1500 * (j + 1)) (lw_Z below #[Value.ref b] s) (F0 m 618 ls [])) : W p l e room_1 s m #[Value.ref b] below meth c H locs (100 + 50 * j) (5000 + 1500 * j) (lw_Z below #[Value.ref b] s) (F0 m 431 ls []) := by
  have hx := E.x
  have hb := E.b
  obtain ⟨⟨fsx, wx⟩, fr, lo, mc, ms, post, hfr, hlo, hmc, hms, hC, hn⟩ := hc
  refine lv_aload_n hx hb dd_La_law_431 rfl (lv_at hl 2 rfl) ?_
  refine lv_aload_n hx hb dd_La_law_432 rfl (lv_at hl 3 rfl) ?_
  refine lv_iload_n hx hb dd_La_law_433 rfl (lv_at hl 0 rfl) ?_
  refine lv_iconst (v := nI 1) hx hb dd_La_law_434 (by decide) ?_
  refine lv_iadd hx hb dd_La_law_435 ?_
  refine mw_topi (y := nI (1 + 6 * j + 1)) (nI_add _ _) ?_
  refine va_sld hx hb hX hbl hbA hS (vp_in_nI (by omega) (by omega)) dd_La_law_436 ?_
  refine mw_topi (y := xs (1 + 6 * j + 1)) (by rw [nI_clamp (by omega)]) ?_
  refine mw_V (As := [.int (xs (1 + 6 * j + 1))]) (rest := []) E hC ky_Xi_poll kv_Xi_poll tw_La_64 hM hS wx rfl rfl rfl hl.1 rfl (Nat.le_of_ble_eq_true rfl) dd_La_law_437 ⟨by show _ ≤ 600000; omega, by show _ ≤ 7302250; omega⟩ ⟨hfr, hlo⟩ (fun v M1 H locs hp hM hS => ?_)
  obtain ⟨r, rfl, ⟨fsm, wm⟩, fr2, lo2, post2, hfr2, hlo2, hC2, hn2⟩ := hn v M1 hp
  refine W.eq (g2 := F0 m 440 ls [.int r]) rfl ?_
  refine lv_aload_n hx hb dd_La_law_440 rfl (lv_at hl 1 rfl) ?_
  refine lv_aload_n hx hb dd_La_law_441 rfl (lv_at hl 3 rfl) ?_
  refine lv_iload_n hx hb dd_La_law_442 rfl (lv_at hl 0 rfl) ?_
  refine lv_iconst (v := nI 1) hx hb dd_La_law_443 (by decide) ?_
  refine lv_iadd hx hb dd_La_law_444 ?_
  refine mw_topi (y := nI (1 + 6 * j + 1)) (nI_add _ _) ?_
  refine va_sld hx hb hX hbl hbA hS (vp_in_nI (by omega) (by omega)) dd_La_law_445 ?_
  refine mw_topi (y := xs (1 + 6 * j + 1)) (by rw [nI_clamp (by omega)]) ?_
  refine mw_V (As := [.int (xs (1 + 6 * j + 1))]) (rest := [.int r]) E hC2 ky_Mo_poll kv_Mo_poll tw_La_67 hM hS wm rfl rfl rfl hl.1 rfl (Nat.le_of_ble_eq_true rfl) dd_La_law_446 ⟨by show _ ≤ 600000; omega, by show _ ≤ 7302250; omega⟩ ⟨hfr2, hlo2⟩ (fun v2 M2 H locs hp2 hM hS => ?_)
  obtain ⟨rfl, hN⟩ := hn2 v2 M2 hp2
  refine W.eq (g2 := F0 m 449 ls [.int r, .int r]) rfl ?_
  refine lv_icmp_eq (tgt := 618) hx hb dd_La_law_449 (by decide) (fun _ => ?_) (fun h => absurd rfl h)
  exact W.widen (k := 100 + 50 * (j + 1)) (n := 5000 + 1500 * (j + 1)) (by omega) (by omega) (kk M2 H locs hN hM hS)
set_option maxRecDepth 100000 in
set_option maxHeartbeats 2000000 in
theorem ls_c10 (E : mw_E p m c code 4 s #[Value.ref b] D z "IdentityIssuerLaw") (hX : va_X b L xs s s.heap) (hbl : b < s.heap.size) (hbA : ¬ mw_A z b) (hL : L ≤ 3073) {M : mw_M} {H : Heap} {locs : List Loc} {ls : Array Slot} {j : Nat} (hj : 1 + 6 * (j + 1) ≤ L) (hM : mw_at D mg_cl z M H) (hS : va_S (mw_A z) s.heap H locs) (hl : lv_has ls 4 [(3, .int (nI (1 + 6 * j))), (2, .ref mm), (1, .ref x), (0, .ref b)]) {Nxt : mw_M → Prop} (hc : ls_ok l D z x mm yy_Xi_svid bb_Xi_svid 4 (Option.some Jvm.ClassFile.FieldType.int) yy_Mo_svid bb_Mo_svid 3 (Option.some Jvm.ClassFile.FieldType.int) [.int (xs (1 + 6 * j + 1)), .int (xs (1 + 6 * j + 2))] M Nxt)
    (kk : ∀ (M2 : mw_M) (H : Heap) (locs : List Loc), Nxt M2 → mw_at D mg_cl z M2 H → va_S (mw_A z) s.heap H locs → W p l e room_1 s m #[Value.ref b] below meth c H locs (100 + 50 * (j + 1)) (5000 + 1500 * (j + 1)) (lw_Z below #[Value.ref b] s) (F0 m 618 ls [])) : W p l e room_1 s m #[Value.ref b] below meth c H locs (100 + 50 * j) (5000 + 1500 * j) (lw_Z below #[Value.ref b] s) (F0 m 454 ls []) := by
  have hx := E.x
  have hb := E.b
  obtain ⟨⟨fsx, wx⟩, fr, lo, mc, ms, post, hfr, hlo, hmc, hms, hC, hn⟩ := hc
  refine lv_aload_n hx hb dd_La_law_454 rfl (lv_at hl 2 rfl) ?_
  refine lv_aload_n hx hb dd_La_law_455 rfl (lv_at hl 3 rfl) ?_
  refine lv_iload_n hx hb dd_La_law_456 rfl (lv_at hl 0 rfl) ?_
  refine lv_iconst (v := nI 1) hx hb dd_La_law_457 (by decide) ?_
  refine lv_iadd hx hb dd_La_law_458 ?_
  refine mw_topi (y := nI (1 + 6 * j + 1)) (nI_add _ _) ?_
  refine va_sld hx hb hX hbl hbA hS (vp_in_nI (by omega) (by omega)) dd_La_law_459 ?_
  refine mw_topi (y := xs (1 + 6 * j + 1)) (by rw [nI_clamp (by omega)]) ?_
  refine lv_aload_n hx hb dd_La_law_460 rfl (lv_at hl 3 rfl) ?_
  refine lv_iload_n hx hb dd_La_law_461 rfl (lv_at hl 0 rfl) ?_
  refine lv_iconst (v := nI 2) hx hb dd_La_law_462 (by decide) ?_
  refine lv_iadd hx hb dd_La_law_463 ?_
  refine mw_topi (y := nI (1 + 6 * j + 2)) (nI_add _ _) ?_
  refine va_sld hx hb hX hbl hbA hS (vp_in_nI (by omega) (by omega)) dd_La_law_464 ?_
  refine mw_topi (y := xs (1 + 6 * j + 2)) (by rw [nI_clamp (by omega)]) ?_
  refine mw_V (As := [.int (xs (1 + 6 * j + 1)), .int (xs (1 + 6 * j + 2))]) (rest := []) E hC ky_Xi_svid kv_Xi_svid tw_La_68 hM hS wx rfl rfl rfl hl.1 rfl (Nat.le_of_ble_eq_true rfl) dd_La_law_465 ⟨by show _ ≤ 600000; omega, by show _ ≤ 7302250; omega⟩ ⟨hfr, hlo⟩ (fun v M1 H locs hp hM hS => ?_)
  obtain ⟨r, rfl, ⟨fsm, wm⟩, fr2, lo2, post2, hfr2, hlo2, hC2, hn2⟩ := hn v M1 hp
  refine W.eq (g2 := F0 m 468 ls [.int r]) rfl ?_
  refine lv_aload_n hx hb dd_La_law_468 rfl (lv_at hl 1 rfl) ?_
  refine lv_aload_n hx hb dd_La_law_469 rfl (lv_at hl 3 rfl) ?_
  refine lv_iload_n hx hb dd_La_law_470 rfl (lv_at hl 0 rfl) ?_
  refine lv_iconst (v := nI 1) hx hb dd_La_law_471 (by decide) ?_
  refine lv_iadd hx hb dd_La_law_472 ?_
  refine mw_topi (y := nI (1 + 6 * j + 1)) (nI_add _ _) ?_
  refine va_sld hx hb hX hbl hbA hS (vp_in_nI (by omega) (by omega)) dd_La_law_473 ?_
  refine mw_topi (y := xs (1 + 6 * j + 1)) (by rw [nI_clamp (by omega)]) ?_
  refine lv_aload_n hx hb dd_La_law_474 rfl (lv_at hl 3 rfl) ?_
  refine lv_iload_n hx hb dd_La_law_475 rfl (lv_at hl 0 rfl) ?_
  refine lv_iconst (v := nI 2) hx hb dd_La_law_476 (by decide) ?_
  refine lv_iadd hx hb dd_La_law_477 ?_
  refine mw_topi (y := nI (1 + 6 * j + 2)) (nI_add _ _) ?_
  refine va_sld hx hb hX hbl hbA hS (vp_in_nI (by omega) (by omega)) dd_La_law_478 ?_
  refine mw_topi (y := xs (1 + 6 * j + 2)) (by rw [nI_clamp (by omega)]) ?_
  refine mw_V (As := [.int (xs (1 + 6 * j + 1)), .int (xs (1 + 6 * j + 2))]) (rest := [.int r]) E hC2 ky_Mo_svid kv_Mo_svid tw_La_71 hM hS wm rfl rfl rfl hl.1 rfl (Nat.le_of_ble_eq_true rfl) dd_La_law_479 ⟨by show _ ≤ 600000; omega, by show _ ≤ 7302250; omega⟩ ⟨hfr2, hlo2⟩ (fun v2 M2 H locs hp2 hM hS => ?_)
  obtain ⟨rfl, hN⟩ := hn2 v2 M2 hp2
  refine W.eq (g2 := F0 m 482 ls [.int r, .int r]) rfl ?_
  refine lv_icmp_eq (tgt := 618) hx hb dd_La_law_482 (by decide) (fun _ => ?_) (fun h => absurd rfl h)
  exact W.widen (k := 100 + 50 * (j + 1)) (n := 5000 + 1500 * (j + 1)) (by omega) (by omega) (kk M2 H locs hN hM hS)
set_option maxRecDepth 100000 in
set_option maxHeartbeats 2000000 in
theorem ls_c11 (E : mw_E p m c code 4 s #[Value.ref b] D z "IdentityIssuerLaw") (hX : va_X b L xs s s.heap) (hbl : b < s.heap.size) (hbA : ¬ mw_A z b) (hL : L ≤ 3073) {M : mw_M} {H : Heap} {locs : List Loc} {ls : Array Slot} {j : Nat} (hj : 1 + 6 * (j + 1) ≤ L) (hM : mw_at D mg_cl z M H) (hS : va_S (mw_A z) s.heap H locs) (hl : lv_has ls 4 [(3, .int (nI (1 + 6 * j))), (2, .ref mm), (1, .ref x), (0, .ref b)]) {Nxt : mw_M → Prop} (hc : ls_ok l D z x mm yy_Xi_key bb_Xi_key 2 (Option.some Jvm.ClassFile.FieldType.int) yy_Mo_key bb_Mo_key 2 (Option.some Jvm.ClassFile.FieldType.int) [.int (xs (1 + 6 * j + 1))] M Nxt)
    (kk : ∀ (M2 : mw_M) (H : Heap) (locs : List Loc), Nxt M2 → mw_at D mg_cl z M2 H → va_S (mw_A z) s.heap H locs → W p l e room_1 s m #[Value.ref b] below meth c H locs (100 + 50 * (j + 1)) (5000 + 1500 * (j + 1)) (lw_Z below #[Value.ref b] s) (F0 m 618 ls [])) : W p l e room_1 s m #[Value.ref b] below meth c H locs (100 + 50 * j) (5000 + 1500 * j) (lw_Z below #[Value.ref b] s) (F0 m 487 ls []) := by
  have hx := E.x
  have hb := E.b
  obtain ⟨⟨fsx, wx⟩, fr, lo, mc, ms, post, hfr, hlo, hmc, hms, hC, hn⟩ := hc
  refine lv_aload_n hx hb dd_La_law_487 rfl (lv_at hl 2 rfl) ?_
  refine lv_aload_n hx hb dd_La_law_488 rfl (lv_at hl 3 rfl) ?_
  refine lv_iload_n hx hb dd_La_law_489 rfl (lv_at hl 0 rfl) ?_
  refine lv_iconst (v := nI 1) hx hb dd_La_law_490 (by decide) ?_
  refine lv_iadd hx hb dd_La_law_491 ?_
  refine mw_topi (y := nI (1 + 6 * j + 1)) (nI_add _ _) ?_
  refine va_sld hx hb hX hbl hbA hS (vp_in_nI (by omega) (by omega)) dd_La_law_492 ?_
  refine mw_topi (y := xs (1 + 6 * j + 1)) (by rw [nI_clamp (by omega)]) ?_
  refine mw_V (As := [.int (xs (1 + 6 * j + 1))]) (rest := []) E hC ky_Xi_key kv_Xi_key tw_La_72 hM hS wx rfl rfl rfl hl.1 rfl (Nat.le_of_ble_eq_true rfl) dd_La_law_493 ⟨by show _ ≤ 600000; omega, by show _ ≤ 7302250; omega⟩ ⟨hfr, hlo⟩ (fun v M1 H locs hp hM hS => ?_)
  obtain ⟨r, rfl, ⟨fsm, wm⟩, fr2, lo2, post2, hfr2, hlo2, hC2, hn2⟩ := hn v M1 hp
  refine W.eq (g2 := F0 m 496 ls [.int r]) rfl ?_
  refine lv_aload_n hx hb dd_La_law_496 rfl (lv_at hl 1 rfl) ?_
  refine lv_aload_n hx hb dd_La_law_497 rfl (lv_at hl 3 rfl) ?_
  refine lv_iload_n hx hb dd_La_law_498 rfl (lv_at hl 0 rfl) ?_
  refine lv_iconst (v := nI 1) hx hb dd_La_law_499 (by decide) ?_
  refine lv_iadd hx hb dd_La_law_500 ?_
  refine mw_topi (y := nI (1 + 6 * j + 1)) (nI_add _ _) ?_
  refine va_sld hx hb hX hbl hbA hS (vp_in_nI (by omega) (by omega)) dd_La_law_501 ?_
  refine mw_topi (y := xs (1 + 6 * j + 1)) (by rw [nI_clamp (by omega)]) ?_
  refine mw_V (As := [.int (xs (1 + 6 * j + 1))]) (rest := [.int r]) E hC2 ky_Mo_key kv_Mo_key tw_La_75 hM hS wm rfl rfl rfl hl.1 rfl (Nat.le_of_ble_eq_true rfl) dd_La_law_502 ⟨by show _ ≤ 600000; omega, by show _ ≤ 7302250; omega⟩ ⟨hfr2, hlo2⟩ (fun v2 M2 H locs hp2 hM hS => ?_)
  obtain ⟨rfl, hN⟩ := hn2 v2 M2 hp2
  refine W.eq (g2 := F0 m 505 ls [.int r, .int r]) rfl ?_
  refine lv_icmp_eq (tgt := 618) hx hb dd_La_law_505 (by decide) (fun _ => ?_) (fun h => absurd rfl h)
  exact W.widen (k := 100 + 50 * (j + 1)) (n := 5000 + 1500 * (j + 1)) (by omega) (by omega) (kk M2 H locs hN hM hS)
set_option maxRecDepth 100000 in
set_option maxHeartbeats 2000000 in
theorem ls_c12 (E : mw_E p m c code 4 s #[Value.ref b] D z "IdentityIssuerLaw") (hX : va_X b L xs s s.heap) (hbl : b < s.heap.size) (hbA : ¬ mw_A z b) (hL : L ≤ 3073) {M : mw_M} {H : Heap} {locs : List Loc} {ls : Array Slot} {j : Nat} (hj : 1 + 6 * (j + 1) ≤ L) (hM : mw_at D mg_cl z M H) (hS : va_S (mw_A z) s.heap H locs) (hl : lv_has ls 4 [(3, .int (nI (1 + 6 * j))), (2, .ref mm), (1, .ref x), (0, .ref b)]) {Nxt : mw_M → Prop} (hc : ls_ok l D z x mm yy_Xi_friends bb_Xi_friends 1 (Option.some Jvm.ClassFile.FieldType.int) yy_Mo_friends bb_Mo_friends 1 (Option.some Jvm.ClassFile.FieldType.int) [] M Nxt)
    (kk : ∀ (M2 : mw_M) (H : Heap) (locs : List Loc), Nxt M2 → mw_at D mg_cl z M2 H → va_S (mw_A z) s.heap H locs → W p l e room_1 s m #[Value.ref b] below meth c H locs (100 + 50 * (j + 1)) (5000 + 1500 * (j + 1)) (lw_Z below #[Value.ref b] s) (F0 m 618 ls [])) : W p l e room_1 s m #[Value.ref b] below meth c H locs (100 + 50 * j) (5000 + 1500 * j) (lw_Z below #[Value.ref b] s) (F0 m 510 ls []) := by
  have hx := E.x
  have hb := E.b
  obtain ⟨⟨fsx, wx⟩, fr, lo, mc, ms, post, hfr, hlo, hmc, hms, hC, hn⟩ := hc
  refine lv_aload_n hx hb dd_La_law_510 rfl (lv_at hl 2 rfl) ?_
  refine mw_V (As := []) (rest := []) E hC ky_Xi_friends kv_Xi_friends tw_La_76 hM hS wx rfl rfl rfl hl.1 rfl (Nat.le_of_ble_eq_true rfl) dd_La_law_511 ⟨by show _ ≤ 600000; omega, by show _ ≤ 7302250; omega⟩ ⟨hfr, hlo⟩ (fun v M1 H locs hp hM hS => ?_)
  obtain ⟨r, rfl, ⟨fsm, wm⟩, fr2, lo2, post2, hfr2, hlo2, hC2, hn2⟩ := hn v M1 hp
  refine W.eq (g2 := F0 m 514 ls [.int r]) rfl ?_
  refine lv_aload_n hx hb dd_La_law_514 rfl (lv_at hl 1 rfl) ?_
  refine mw_V (As := []) (rest := [.int r]) E hC2 ky_Mo_friends kv_Mo_friends tw_La_79 hM hS wm rfl rfl rfl hl.1 rfl (Nat.le_of_ble_eq_true rfl) dd_La_law_515 ⟨by show _ ≤ 600000; omega, by show _ ≤ 7302250; omega⟩ ⟨hfr2, hlo2⟩ (fun v2 M2 H locs hp2 hM hS => ?_)
  obtain ⟨rfl, hN⟩ := hn2 v2 M2 hp2
  refine W.eq (g2 := F0 m 518 ls [.int r, .int r]) rfl ?_
  refine lv_icmp_eq (tgt := 618) hx hb dd_La_law_518 (by decide) (fun _ => ?_) (fun h => absurd rfl h)
  exact W.widen (k := 100 + 50 * (j + 1)) (n := 5000 + 1500 * (j + 1)) (by omega) (by omega) (kk M2 H locs hN hM hS)
set_option maxRecDepth 100000 in
set_option maxHeartbeats 2000000 in
theorem ls_c13 (E : mw_E p m c code 4 s #[Value.ref b] D z "IdentityIssuerLaw") (hX : va_X b L xs s s.heap) (hbl : b < s.heap.size) (hbA : ¬ mw_A z b) (hL : L ≤ 3073) {M : mw_M} {H : Heap} {locs : List Loc} {ls : Array Slot} {j : Nat} (hj : 1 + 6 * (j + 1) ≤ L) (hM : mw_at D mg_cl z M H) (hS : va_S (mw_A z) s.heap H locs) (hl : lv_has ls 4 [(3, .int (nI (1 + 6 * j))), (2, .ref mm), (1, .ref x), (0, .ref b)]) {Nxt : mw_M → Prop} (hc : ls_ok l D z x mm yy_Xi_written bb_Xi_written 4 (Option.some Jvm.ClassFile.FieldType.int) yy_Mo_written bb_Mo_written 3 (Option.some Jvm.ClassFile.FieldType.int) [.int (xs (1 + 6 * j + 1)), .int (xs (1 + 6 * j + 2))] M Nxt)
    (kk : ∀ (M2 : mw_M) (H : Heap) (locs : List Loc), Nxt M2 → mw_at D mg_cl z M2 H → va_S (mw_A z) s.heap H locs → W p l e room_1 s m #[Value.ref b] below meth c H locs (100 + 50 * (j + 1)) (5000 + 1500 * (j + 1)) (lw_Z below #[Value.ref b] s) (F0 m 618 ls [])) : W p l e room_1 s m #[Value.ref b] below meth c H locs (100 + 50 * j) (5000 + 1500 * j) (lw_Z below #[Value.ref b] s) (F0 m 523 ls []) := by
  have hx := E.x
  have hb := E.b
  obtain ⟨⟨fsx, wx⟩, fr, lo, mc, ms, post, hfr, hlo, hmc, hms, hC, hn⟩ := hc
  refine lv_aload_n hx hb dd_La_law_523 rfl (lv_at hl 2 rfl) ?_
  refine lv_aload_n hx hb dd_La_law_524 rfl (lv_at hl 3 rfl) ?_
  refine lv_iload_n hx hb dd_La_law_525 rfl (lv_at hl 0 rfl) ?_
  refine lv_iconst (v := nI 1) hx hb dd_La_law_526 (by decide) ?_
  refine lv_iadd hx hb dd_La_law_527 ?_
  refine mw_topi (y := nI (1 + 6 * j + 1)) (nI_add _ _) ?_
  refine va_sld hx hb hX hbl hbA hS (vp_in_nI (by omega) (by omega)) dd_La_law_528 ?_
  refine mw_topi (y := xs (1 + 6 * j + 1)) (by rw [nI_clamp (by omega)]) ?_
  refine lv_aload_n hx hb dd_La_law_529 rfl (lv_at hl 3 rfl) ?_
  refine lv_iload_n hx hb dd_La_law_530 rfl (lv_at hl 0 rfl) ?_
  refine lv_iconst (v := nI 2) hx hb dd_La_law_531 (by decide) ?_
  refine lv_iadd hx hb dd_La_law_532 ?_
  refine mw_topi (y := nI (1 + 6 * j + 2)) (nI_add _ _) ?_
  refine va_sld hx hb hX hbl hbA hS (vp_in_nI (by omega) (by omega)) dd_La_law_533 ?_
  refine mw_topi (y := xs (1 + 6 * j + 2)) (by rw [nI_clamp (by omega)]) ?_
  refine mw_V (As := [.int (xs (1 + 6 * j + 1)), .int (xs (1 + 6 * j + 2))]) (rest := []) E hC ky_Xi_written kv_Xi_written tw_La_80 hM hS wx rfl rfl rfl hl.1 rfl (Nat.le_of_ble_eq_true rfl) dd_La_law_534 ⟨by show _ ≤ 600000; omega, by show _ ≤ 7302250; omega⟩ ⟨hfr, hlo⟩ (fun v M1 H locs hp hM hS => ?_)
  obtain ⟨r, rfl, ⟨fsm, wm⟩, fr2, lo2, post2, hfr2, hlo2, hC2, hn2⟩ := hn v M1 hp
  refine W.eq (g2 := F0 m 537 ls [.int r]) rfl ?_
  refine lv_aload_n hx hb dd_La_law_537 rfl (lv_at hl 1 rfl) ?_
  refine lv_aload_n hx hb dd_La_law_538 rfl (lv_at hl 3 rfl) ?_
  refine lv_iload_n hx hb dd_La_law_539 rfl (lv_at hl 0 rfl) ?_
  refine lv_iconst (v := nI 1) hx hb dd_La_law_540 (by decide) ?_
  refine lv_iadd hx hb dd_La_law_541 ?_
  refine mw_topi (y := nI (1 + 6 * j + 1)) (nI_add _ _) ?_
  refine va_sld hx hb hX hbl hbA hS (vp_in_nI (by omega) (by omega)) dd_La_law_542 ?_
  refine mw_topi (y := xs (1 + 6 * j + 1)) (by rw [nI_clamp (by omega)]) ?_
  refine lv_aload_n hx hb dd_La_law_543 rfl (lv_at hl 3 rfl) ?_
  refine lv_iload_n hx hb dd_La_law_544 rfl (lv_at hl 0 rfl) ?_
  refine lv_iconst (v := nI 2) hx hb dd_La_law_545 (by decide) ?_
  refine lv_iadd hx hb dd_La_law_546 ?_
  refine mw_topi (y := nI (1 + 6 * j + 2)) (nI_add _ _) ?_
  refine va_sld hx hb hX hbl hbA hS (vp_in_nI (by omega) (by omega)) dd_La_law_547 ?_
  refine mw_topi (y := xs (1 + 6 * j + 2)) (by rw [nI_clamp (by omega)]) ?_
  refine mw_V (As := [.int (xs (1 + 6 * j + 1)), .int (xs (1 + 6 * j + 2))]) (rest := [.int r]) E hC2 ky_Mo_written kv_Mo_written tw_La_83 hM hS wm rfl rfl rfl hl.1 rfl (Nat.le_of_ble_eq_true rfl) dd_La_law_548 ⟨by show _ ≤ 600000; omega, by show _ ≤ 7302250; omega⟩ ⟨hfr2, hlo2⟩ (fun v2 M2 H locs hp2 hM hS => ?_)
  obtain ⟨rfl, hN⟩ := hn2 v2 M2 hp2
  refine W.eq (g2 := F0 m 551 ls [.int r, .int r]) rfl ?_
  refine lv_icmp_eq (tgt := 618) hx hb dd_La_law_551 (by decide) (fun _ => ?_) (fun h => absurd rfl h)
  exact W.widen (k := 100 + 50 * (j + 1)) (n := 5000 + 1500 * (j + 1)) (by omega) (by omega) (kk M2 H locs hN hM hS)
set_option maxRecDepth 100000 in
set_option maxHeartbeats 2000000 in
theorem ls_c14 (E : mw_E p m c code 4 s #[Value.ref b] D z "IdentityIssuerLaw") (hX : va_X b L xs s s.heap) (hbl : b < s.heap.size) (hbA : ¬ mw_A z b) (hL : L ≤ 3073) {M : mw_M} {H : Heap} {locs : List Loc} {ls : Array Slot} {j : Nat} (hj : 1 + 6 * (j + 1) ≤ L) (hM : mw_at D mg_cl z M H) (hS : va_S (mw_A z) s.heap H locs) (hl : lv_has ls 4 [(3, .int (nI (1 + 6 * j))), (2, .ref mm), (1, .ref x), (0, .ref b)]) {Nxt : mw_M → Prop} (hc : ls_ok l D z x mm yy_Xi_verify bb_Xi_verify 2 (Option.some Jvm.ClassFile.FieldType.int) yy_Mo_verify bb_Mo_verify 2 (Option.some Jvm.ClassFile.FieldType.int) [] M Nxt)
    (kk : ∀ (M2 : mw_M) (H : Heap) (locs : List Loc), Nxt M2 → mw_at D mg_cl z M2 H → va_S (mw_A z) s.heap H locs → W p l e room_1 s m #[Value.ref b] below meth c H locs (100 + 50 * (j + 1)) (5000 + 1500 * (j + 1)) (lw_Z below #[Value.ref b] s) (F0 m 618 ls [])) : W p l e room_1 s m #[Value.ref b] below meth c H locs (100 + 50 * j) (5000 + 1500 * j) (lw_Z below #[Value.ref b] s) (F0 m 556 ls []) := by
  have hx := E.x
  have hb := E.b
  obtain ⟨⟨fsx, wx⟩, fr, lo, mc, ms, post, hfr, hlo, hmc, hms, hC, hn⟩ := hc
  refine lv_aload_n hx hb dd_La_law_556 rfl (lv_at hl 2 rfl) ?_
  refine mw_V (As := []) (rest := []) E hC ky_Xi_verify kv_Xi_verify tw_La_84 hM hS wx rfl rfl rfl hl.1 rfl (Nat.le_of_ble_eq_true rfl) dd_La_law_557 ⟨by show _ ≤ 600000; omega, by show _ ≤ 7302250; omega⟩ ⟨hfr, hlo⟩ (fun v M1 H locs hp hM hS => ?_)
  obtain ⟨r, rfl, ⟨fsm, wm⟩, fr2, lo2, post2, hfr2, hlo2, hC2, hn2⟩ := hn v M1 hp
  refine W.eq (g2 := F0 m 560 ls [.int r]) rfl ?_
  refine lv_aload_n hx hb dd_La_law_560 rfl (lv_at hl 1 rfl) ?_
  refine mw_V (As := []) (rest := [.int r]) E hC2 ky_Mo_verify kv_Mo_verify tw_La_87 hM hS wm rfl rfl rfl hl.1 rfl (Nat.le_of_ble_eq_true rfl) dd_La_law_561 ⟨by show _ ≤ 600000; omega, by show _ ≤ 7302250; omega⟩ ⟨hfr2, hlo2⟩ (fun v2 M2 H locs hp2 hM hS => ?_)
  obtain ⟨rfl, hN⟩ := hn2 v2 M2 hp2
  refine W.eq (g2 := F0 m 564 ls [.int r, .int r]) rfl ?_
  refine lv_icmp_eq (tgt := 618) hx hb dd_La_law_564 (by decide) (fun _ => ?_) (fun h => absurd rfl h)
  exact W.widen (k := 100 + 50 * (j + 1)) (n := 5000 + 1500 * (j + 1)) (by omega) (by omega) (kk M2 H locs hN hM hS)
set_option maxRecDepth 100000 in
set_option maxHeartbeats 2000000 in
theorem ls_c15 (E : mw_E p m c code 4 s #[Value.ref b] D z "IdentityIssuerLaw") (hX : va_X b L xs s s.heap) (hbl : b < s.heap.size) (hbA : ¬ mw_A z b) (hL : L ≤ 3073) {M : mw_M} {H : Heap} {locs : List Loc} {ls : Array Slot} {j : Nat} (hj : 1 + 6 * (j + 1) ≤ L) (hM : mw_at D mg_cl z M H) (hS : va_S (mw_A z) s.heap H locs) (hl : lv_has ls 4 [(3, .int (nI (1 + 6 * j))), (2, .ref mm), (1, .ref x), (0, .ref b)]) {Nxt : mw_M → Prop} (hc : ls_ok l D z x mm yy_Xi_prepare bb_Xi_prepare 1 (Option.some Jvm.ClassFile.FieldType.int) yy_Mo_prepare bb_Mo_prepare 3 (Option.some Jvm.ClassFile.FieldType.int) [] M Nxt)
    (kk : ∀ (M2 : mw_M) (H : Heap) (locs : List Loc), Nxt M2 → mw_at D mg_cl z M2 H → va_S (mw_A z) s.heap H locs → W p l e room_1 s m #[Value.ref b] below meth c H locs (100 + 50 * (j + 1)) (5000 + 1500 * (j + 1)) (lw_Z below #[Value.ref b] s) (F0 m 618 ls [])) : W p l e room_1 s m #[Value.ref b] below meth c H locs (100 + 50 * j) (5000 + 1500 * j) (lw_Z below #[Value.ref b] s) (F0 m 569 ls []) := by
  have hx := E.x
  have hb := E.b
  obtain ⟨⟨fsx, wx⟩, fr, lo, mc, ms, post, hfr, hlo, hmc, hms, hC, hn⟩ := hc
  refine lv_aload_n hx hb dd_La_law_569 rfl (lv_at hl 2 rfl) ?_
  refine mw_V (As := []) (rest := []) E hC ky_Xi_prepare kv_Xi_prepare tw_La_88 hM hS wx rfl rfl rfl hl.1 rfl (Nat.le_of_ble_eq_true rfl) dd_La_law_570 ⟨by show _ ≤ 600000; omega, by show _ ≤ 7302250; omega⟩ ⟨hfr, hlo⟩ (fun v M1 H locs hp hM hS => ?_)
  obtain ⟨r, rfl, ⟨fsm, wm⟩, fr2, lo2, post2, hfr2, hlo2, hC2, hn2⟩ := hn v M1 hp
  refine W.eq (g2 := F0 m 573 ls [.int r]) rfl ?_
  refine lv_aload_n hx hb dd_La_law_573 rfl (lv_at hl 1 rfl) ?_
  refine mw_V (As := []) (rest := [.int r]) E hC2 ky_Mo_prepare kv_Mo_prepare tw_La_91 hM hS wm rfl rfl rfl hl.1 rfl (Nat.le_of_ble_eq_true rfl) dd_La_law_574 ⟨by show _ ≤ 600000; omega, by show _ ≤ 7302250; omega⟩ ⟨hfr2, hlo2⟩ (fun v2 M2 H locs hp2 hM hS => ?_)
  obtain ⟨rfl, hN⟩ := hn2 v2 M2 hp2
  refine W.eq (g2 := F0 m 577 ls [.int r, .int r]) rfl ?_
  refine lv_icmp_eq (tgt := 618) hx hb dd_La_law_577 (by decide) (fun _ => ?_) (fun h => absurd rfl h)
  exact W.widen (k := 100 + 50 * (j + 1)) (n := 5000 + 1500 * (j + 1)) (by omega) (by omega) (kk M2 H locs hN hM hS)
set_option maxRecDepth 100000 in
set_option maxHeartbeats 2000000 in
theorem ls_c16 (E : mw_E p m c code 4 s #[Value.ref b] D z "IdentityIssuerLaw") (hX : va_X b L xs s s.heap) (hbl : b < s.heap.size) (hbA : ¬ mw_A z b) (hL : L ≤ 3073) {M : mw_M} {H : Heap} {locs : List Loc} {ls : Array Slot} {j : Nat} (hj : 1 + 6 * (j + 1) ≤ L) (hM : mw_at D mg_cl z M H) (hS : va_S (mw_A z) s.heap H locs) (hl : lv_has ls 4 [(3, .int (nI (1 + 6 * j))), (2, .ref mm), (1, .ref x), (0, .ref b)]) {Nxt : mw_M → Prop} (hc : ls_ok l D z x mm yy_Xi_activate bb_Xi_activate 1 (Option.some Jvm.ClassFile.FieldType.boolean) yy_Mo_activate bb_Mo_activate 1 (Option.some Jvm.ClassFile.FieldType.boolean) [] M Nxt)
    (kk : ∀ (M2 : mw_M) (H : Heap) (locs : List Loc), Nxt M2 → mw_at D mg_cl z M2 H → va_S (mw_A z) s.heap H locs → W p l e room_1 s m #[Value.ref b] below meth c H locs (100 + 50 * (j + 1)) (5000 + 1500 * (j + 1)) (lw_Z below #[Value.ref b] s) (F0 m 618 ls [])) : W p l e room_1 s m #[Value.ref b] below meth c H locs (100 + 50 * j) (5000 + 1500 * j) (lw_Z below #[Value.ref b] s) (F0 m 582 ls []) := by
  have hx := E.x
  have hb := E.b
  obtain ⟨⟨fsx, wx⟩, fr, lo, mc, ms, post, hfr, hlo, hmc, hms, hC, hn⟩ := hc
  refine lv_aload_n hx hb dd_La_law_582 rfl (lv_at hl 2 rfl) ?_
  refine mw_V (As := []) (rest := []) E hC ky_Xi_activate kv_Xi_activate tw_La_92 hM hS wx rfl rfl rfl hl.1 rfl (Nat.le_of_ble_eq_true rfl) dd_La_law_583 ⟨by show _ ≤ 600000; omega, by show _ ≤ 7302250; omega⟩ ⟨hfr, hlo⟩ (fun v M1 H locs hp hM hS => ?_)
  obtain ⟨r, rfl, ⟨fsm, wm⟩, fr2, lo2, post2, hfr2, hlo2, hC2, hn2⟩ := hn v M1 hp
  refine W.eq (g2 := F0 m 586 ls [.int r]) rfl ?_
  refine lv_aload_n hx hb dd_La_law_586 rfl (lv_at hl 1 rfl) ?_
  refine mw_V (As := []) (rest := [.int r]) E hC2 ky_Mo_activate kv_Mo_activate tw_La_96 hM hS wm rfl rfl rfl hl.1 rfl (Nat.le_of_ble_eq_true rfl) dd_La_law_587 ⟨by show _ ≤ 600000; omega, by show _ ≤ 7302250; omega⟩ ⟨hfr2, hlo2⟩ (fun v2 M2 H locs hp2 hM hS => ?_)
  obtain ⟨rfl, hN⟩ := hn2 v2 M2 hp2
  refine W.eq (g2 := F0 m 590 ls [.int r, .int r]) rfl ?_
  refine lv_icmp_eq (tgt := 618) hx hb dd_La_law_590 (by decide) (fun _ => ?_) (fun h => absurd rfl h)
  exact W.widen (k := 100 + 50 * (j + 1)) (n := 5000 + 1500 * (j + 1)) (by omega) (by omega) (kk M2 H locs hN hM hS)
set_option maxRecDepth 100000 in
set_option maxHeartbeats 2000000 in
theorem ls_c17 (E : mw_E p m c code 4 s #[Value.ref b] D z "IdentityIssuerLaw") (hX : va_X b L xs s s.heap) (hbl : b < s.heap.size) (hbA : ¬ mw_A z b) (hL : L ≤ 3073) {M : mw_M} {H : Heap} {locs : List Loc} {ls : Array Slot} {j : Nat} (hj : 1 + 6 * (j + 1) ≤ L) (hM : mw_at D mg_cl z M H) (hS : va_S (mw_A z) s.heap H locs) (hl : lv_has ls 4 [(3, .int (nI (1 + 6 * j))), (2, .ref mm), (1, .ref x), (0, .ref b)]) {Nxt : mw_M → Prop} (hc : ls_ok l D z x mm yy_Xi_tick bb_Xi_tick 2 (Option.some Jvm.ClassFile.FieldType.int) yy_Mo_tick bb_Mo_tick 2 (Option.some Jvm.ClassFile.FieldType.int) [.int (xs (1 + 6 * j + 1))] M Nxt)
    (kk : ∀ (M2 : mw_M) (H : Heap) (locs : List Loc), Nxt M2 → mw_at D mg_cl z M2 H → va_S (mw_A z) s.heap H locs → W p l e room_1 s m #[Value.ref b] below meth c H locs (100 + 50 * (j + 1)) (5000 + 1500 * (j + 1)) (lw_Z below #[Value.ref b] s) (F0 m 618 ls [])) : W p l e room_1 s m #[Value.ref b] below meth c H locs (100 + 50 * j) (5000 + 1500 * j) (lw_Z below #[Value.ref b] s) (F0 m 595 ls []) := by
  have hx := E.x
  have hb := E.b
  obtain ⟨⟨fsx, wx⟩, fr, lo, mc, ms, post, hfr, hlo, hmc, hms, hC, hn⟩ := hc
  refine lv_aload_n hx hb dd_La_law_595 rfl (lv_at hl 2 rfl) ?_
  refine lv_aload_n hx hb dd_La_law_596 rfl (lv_at hl 3 rfl) ?_
  refine lv_iload_n hx hb dd_La_law_597 rfl (lv_at hl 0 rfl) ?_
  refine lv_iconst (v := nI 1) hx hb dd_La_law_598 (by decide) ?_
  refine lv_iadd hx hb dd_La_law_599 ?_
  refine mw_topi (y := nI (1 + 6 * j + 1)) (nI_add _ _) ?_
  refine va_sld hx hb hX hbl hbA hS (vp_in_nI (by omega) (by omega)) dd_La_law_600 ?_
  refine mw_topi (y := xs (1 + 6 * j + 1)) (by rw [nI_clamp (by omega)]) ?_
  refine mw_V (As := [.int (xs (1 + 6 * j + 1))]) (rest := []) E hC ky_Xi_tick kv_Xi_tick tw_La_97 hM hS wx rfl rfl rfl hl.1 rfl (Nat.le_of_ble_eq_true rfl) dd_La_law_601 ⟨by show _ ≤ 600000; omega, by show _ ≤ 7302250; omega⟩ ⟨hfr, hlo⟩ (fun v M1 H locs hp hM hS => ?_)
  obtain ⟨r, rfl, ⟨fsm, wm⟩, fr2, lo2, post2, hfr2, hlo2, hC2, hn2⟩ := hn v M1 hp
  refine W.eq (g2 := F0 m 604 ls [.int r]) rfl ?_
  refine lv_aload_n hx hb dd_La_law_604 rfl (lv_at hl 1 rfl) ?_
  refine lv_aload_n hx hb dd_La_law_605 rfl (lv_at hl 3 rfl) ?_
  refine lv_iload_n hx hb dd_La_law_606 rfl (lv_at hl 0 rfl) ?_
  refine lv_iconst (v := nI 1) hx hb dd_La_law_607 (by decide) ?_
  refine lv_iadd hx hb dd_La_law_608 ?_
  refine mw_topi (y := nI (1 + 6 * j + 1)) (nI_add _ _) ?_
  refine va_sld hx hb hX hbl hbA hS (vp_in_nI (by omega) (by omega)) dd_La_law_609 ?_
  refine mw_topi (y := xs (1 + 6 * j + 1)) (by rw [nI_clamp (by omega)]) ?_
  refine mw_V (As := [.int (xs (1 + 6 * j + 1))]) (rest := [.int r]) E hC2 ky_Mo_tick kv_Mo_tick tw_La_100 hM hS wm rfl rfl rfl hl.1 rfl (Nat.le_of_ble_eq_true rfl) dd_La_law_610 ⟨by show _ ≤ 600000; omega, by show _ ≤ 7302250; omega⟩ ⟨hfr2, hlo2⟩ (fun v2 M2 H locs hp2 hM hS => ?_)
  obtain ⟨rfl, hN⟩ := hn2 v2 M2 hp2
  refine W.eq (g2 := F0 m 613 ls [.int r, .int r]) rfl ?_
  refine lv_icmp_eq (tgt := 618) hx hb dd_La_law_613 (by decide) (fun _ => ?_) (fun h => absurd rfl h)
  exact W.widen (k := 100 + 50 * (j + 1)) (n := 5000 + 1500 * (j + 1)) (by omega) (by omega) (kk M2 H locs hN hM hS)
end LSL
