/-! the scheme's text: its length -/
section MR
variable {p : Program} {l : Launch} {e : Env} {R : Room} {s : State} {m : MethodId} {args : Array Value} {below : List Frame} {meth : Method} {c : Code} {H : Heap} {locs : List Loc} {cells slots : Nat} {Q : State → Prop}
variable {cc : ByteArray} {pc nL : Nat} {ls : Array Slot} {rest st0 : List Value} {D : va_G} {z : Nat} {M : mw_M} {own : String} {mc ms : Nat} {y : MethodName} {cc' : ByteArray} {n' fr lo k index : Nat} {ret : Option FieldType} {As : List Value} {post : Option Value → mw_M → Prop} {b : Nat}
theorem mr_n {v : Int32} {ty : FieldType} (E : mw_E p m c cc nL s args D z own) (hr : meth.sig.returnType = some ty) (hk : meth.locks = false) (hM : mw_at D mg_cl z M H) (hS : va_S (mw_A z) s.heap H locs) (h1 : cells ≤ mc) (h2 : slots ≤ ms) (hn : narrow ty (.int v) = .int v) (hp : post (some (.int v)) M) (hdg : decode cc pc = .ok (.ireturn, 1)) : W p l e R s m args below meth c H locs cells slots (MQ below (mw_Q D z post) args s mc ms (mw_A z)) (F0 m pc ls [.int v]) :=
  W.widen h1 h2 (W.zret E.x E.b hr hn (fun _ ht hW => ⟨⟨_, M, rfl, hp, mw_B.of hM E.K E.Z E.N hS ht hW⟩, hS.F ht⟩) hS.2.2 hdg hk)
theorem mw_V0 (E : mw_E p m c cc nL s args D z own) (hC : mw_C l y cc' n' ret fr lo mc ms D z M (.ref b :: As) post) (hy : mw_Y y cc' n' ret k) (hv : Cond.instanceMethod y ∈ lw_gt ∧ Cond.selects y.cls y y ∈ lw_gt) (hl : Cond.methodLink own index y ∈ lw_gt) (hM : mw_at D mg_cl z M H) (hS : va_S (mw_A z) s.heap H locs) (hrc : ∃ cell : Cell, H[b]? = some cell ∧ cell.vm.isStatics = false ∧ s.vm.findClass y.cls = some cell.cls) (hn : As.length = k) (hls : ls.size = nL) (hst : st0 = As.reverse ++ .ref b :: rest) (hW : (rest.map fun v => v.category).sum ≤ 8) (hdg : decode cc pc = .ok (.invokevirtual index, 3)) (hf : cells + mc ≤ R.cells ∧ slots + ms ≤ R.slots) (hR : fr + 1 ≤ R.frames ∧ 8 + (n' + 11) + lo ≤ R.locals)
    (kk : ∀ (v : Option Value) (M' : mw_M) (H1 : Heap) (locs1 : List Loc), post v M' → mw_at D mg_cl z M' H1 → va_S (mw_A z) s.heap H1 locs1 → W p l e R s m args below meth c H1 locs1 (cells + mc) (slots + ms) Q (F0 m (pc + 3) ls (v.toList ++ rest))) : W p l e R s m args below meth c H locs cells slots Q (F0 m pc ls st0) :=
  mw_call (va_runV (As := As) (rest := rest) ⟨E.x, E.b, E.ml, E.o, E.t⟩ hC (cwV k E.t (mw_goodV hy.1 hl hv.1 hv.2 hy.2.1) rfl rfl rfl ⟨rfl, hy.2.2⟩ hR) ⟨(mw_pre E hM hS).1, hrc, (mw_pre E hM hS).2⟩ rfl hn hls hst (lv_room hW) hdg hf) hS kk
end MR
theorem cc_St_coder (l : Launch) (D : va_G) (z : Nat) (M : mw_M)   : mw_C l yy_St_coder bb_St_coder 1 (Option.some Jvm.ClassFile.FieldType.byte) 0 0 0 0 D z M [.ref ((D.2 200 4))] (fun v M' => v = some (.int 0) ∧ M' = M) := by
  refine mw_of (by decide) (Nat.le_of_ble_eq_true rfl) ?_
  intro p e s m below meth c ls E hr hk hnm hM hl
  have hx := E.x
  have hb := E.b
  have E : mw_E p m c bb_St_coder 1 s _ D z "java/lang/String" := E
  have hl : lv_has ls 1 [(0, .ref ((D.2 200 4)))] := hl
  have hS : va_S (mw_A z) s.heap s.heap [] := va_S.rf
  refine va_gets hx hb E.Z.2.2.2.2.1 hS E.o (E.t _ tw_St_38) (fun _ h => h) dd_St_coder_0 ?_
  refine lv_if_eq (tgt := 13) hx hb dd_St_coder_3 (by decide) (fun h3 => ?_) (fun h3 => ?_)
  ·
    exact absurd h3 (by decide)
  ·
    refine lv_aload_n hx hb dd_St_coder_6 rfl (lv_at hl 0 rfl) ?_
    refine vk_getf hx hb (E.Z.2.2.2.2.2.2.1 0 (by decide)).2.1 hS E.o (E.t _ tw_St_15) (fun _ h => h) dd_St_coder_7 ?_
    refine lv_goto (tgt := 14) hx hb dd_St_coder_10 (by decide) ?_
    refine mr_n E hr hk hM hS (by decide) (by decide) (rfl) ?_ dd_St_coder_14
    exact ⟨rfl, rfl⟩
theorem cc_St_length (l : Launch) (D : va_G) (z : Nat) (M : mw_M)   : mw_C l yy_St_length bb_St_length 1 (Option.some Jvm.ClassFile.FieldType.int) 1 20 0 0 D z M [.ref ((D.2 200 4))] (fun v M' => v = some (.int (nI 9)) ∧ M' = M) := by
  refine mw_of (by decide) (Nat.le_of_ble_eq_true rfl) ?_
  intro p e s m below meth c ls E hr hk hnm hM hl
  have hx := E.x
  have hb := E.b
  have E : mw_E p m c bb_St_length 1 s _ D z "java/lang/String" := E
  have hl : lv_has ls 1 [(0, .ref ((D.2 200 4)))] := hl
  have hS : va_S (mw_A z) s.heap s.heap [] := va_S.rf
  refine lv_aload_n hx hb dd_St_length_0 rfl (lv_at hl 0 rfl) ?_
  refine vk_getf hx hb (E.Z.2.2.2.2.2.2.1 0 (by decide)).2.2.1 hS E.o (E.t _ tw_St_9) (fun _ h => h) dd_St_length_1 ?_
  refine va_tlen (v := nI 9) hx hb (E.Z.2.2.2.2.2.2.1 0 (by decide)).2.2.2 hS rfl dd_St_length_4 ?_
  refine lv_aload_n hx hb dd_St_length_5 rfl (lv_at hl 0 rfl) ?_
  refine mw_V0 (As := []) (rest := [.int (nI 9)]) E (cc_St_coder l D z M) ky_St_coder kv_St_coder tw_St_335 hM hS (vk_recv (N := 1) (i := 0) (adK := fun _ => D.2 200 4) E.Z.2.2.2.2.2.2 (by decide) hS) rfl hl.1 rfl (Nat.le_of_ble_eq_true rfl) dd_St_length_6 (by decide) (by decide) (fun v M1 H locs hp hM hS => ?_)
  obtain ⟨rfl, hq⟩ := hp
  have hq := hq.symm
  subst hq
  refine W.eq (g2 := F0 m 9 ls [.int (0), .int (nI 9)]) rfl ?_
  refine lv_ishr hx hb dd_St_length_9 ?_
  refine mw_topi (y := nI 9) (by decide) ?_
  refine mr_i E hr hk hM hS (by decide) (by decide) ?_ dd_St_length_10
  exact ⟨rfl, rfl⟩
/-! an empty text is no ID -/
theorem cc_Id_schemeError_0 (l : Launch) (D : va_G) (z : Nat) (M : mw_M) (b a0 n0 : Nat) (h0 : n0 ≤ a0) (ha : a0 < 2 ^ 20) : mw_C l yy_Id_schemeError bb_Id_schemeError 4 (Option.some Jvm.ClassFile.FieldType.int) 2 40 0 0 D z M [.ref b, .int (nI a0), .int (nI n0)] (fun v M' => v = some (.int (nI a0)) ∧ M' = M) := by
  refine mw_of (by decide) (Nat.le_of_ble_eq_true rfl) ?_
  intro p e s m below meth c ls E hr hk hnm hM hl
  have hx := E.x
  have hb := E.b
  have E : mw_E p m c bb_Id_schemeError 4 s _ D z "IdentityIssuer$Ids" := E
  have hl : lv_has ls 4 [(0, .ref b), (1, .int (nI a0)), (2, .int (nI n0))] := hl
  have hS : va_S (mw_A z) s.heap s.heap [] := va_S.rf
  refine lv_iconst (v := nI 0) hx hb dd_Id_schemeError_0 (by decide) ?_
  refine lv_istore_n (lv' := [(3, .int (nI 0)), (0, .ref b), (1, .int (nI a0)), (2, .int (nI n0))]) hx hb dd_Id_schemeError_1 rfl hl (by decide) rfl (fun ls hl => ?_)
  refine lv_iload_n hx hb dd_Id_schemeError_2 rfl (lv_at hl 0 rfl) ?_
  refine va_ldcS hx hb E.o E.N.2.2.2.2.2.1 dd_Id_schemeError_3 ?_
  refine mw_V0 (As := []) (rest := [.int (nI 0)]) E (cc_St_length l D z (M)) ky_St_length kv_St_length tw_Id_29 hM hS (vk_recv (N := 1) (i := 0) (adK := fun _ => D.2 200 4) E.Z.2.2.2.2.2.2 (by decide) hS) rfl hl.1 rfl (Nat.le_of_ble_eq_true rfl) dd_Id_schemeError_5 (by decide) (by decide) (fun v M1 H locs hp hM hS => ?_)
  obtain ⟨rfl, hq⟩ := hp
  have hq := hq.symm
  subst hq
  refine W.eq (g2 := F0 m 8 ls [.int (nI 9), .int (nI 0)]) rfl ?_
  refine lv_icmp_ge (tgt := 44) hx hb dd_Id_schemeError_8 (by decide) (fun h8 => ?_) (fun h8 => ?_)
  ·
    rw [nI_leI (by omega) (by omega)] at h8
    exact absurd h8 (by decide)
  ·
    rw [nI_leI (by omega) (by omega)] at h8
    refine lv_iload_n hx hb dd_Id_schemeError_11 rfl (lv_at hl 2 rfl) ?_
    refine lv_iload_n hx hb dd_Id_schemeError_12 rfl (lv_at hl 0 rfl) ?_
    refine lv_iadd hx hb dd_Id_schemeError_13 ?_
    refine mw_topi (y := nI (a0 + 0)) (nI_add _ _) ?_
    refine lv_iload_n hx hb dd_Id_schemeError_14 rfl (lv_at hl 3 rfl) ?_
    refine lv_icmp_ge (tgt := 34) hx hb dd_Id_schemeError_15 (by decide) (fun h15 => ?_) (fun h15 => ?_)
    ·
      rw [nI_leI (by omega) (by omega)] at h15
      refine lv_iload_n hx hb dd_Id_schemeError_34 rfl (lv_at hl 2 rfl) ?_
      refine lv_iload_n hx hb dd_Id_schemeError_35 rfl (lv_at hl 0 rfl) ?_
      refine lv_iadd hx hb dd_Id_schemeError_36 ?_
      refine mw_topi (y := nI (a0 + 0)) (nI_add _ _) ?_
      refine mr_i E hr hk hM hS (by decide) (by decide) ?_ dd_Id_schemeError_37
      exact ⟨rfl, rfl⟩
    ·
      rw [nI_leI (by omega) (by omega)] at h15
      omega
theorem cc_Id_firstError_0 (l : Launch) (D : va_G) (z : Nat) (M : mw_M) (b : Nat)  : mw_C l yy_Id_firstError bb_Id_firstError 6 (Option.some Jvm.ClassFile.FieldType.int) 3 63 0 0 D z M [.ref b, .int (nI 0), .int (nI 0)] (fun v M' => v = some (.int (nI 0)) ∧ M' = M) := by
  refine mw_of (by decide) (Nat.le_of_ble_eq_true rfl) ?_
  intro p e s m below meth c ls E hr hk hnm hM hl
  have hx := E.x
  have hb := E.b
  have E : mw_E p m c bb_Id_firstError 6 s _ D z "IdentityIssuer$Ids" := E
  have hl : lv_has ls 6 [(0, .ref b), (1, .int (nI 0)), (2, .int (nI 0))] := hl
  have hS : va_S (mw_A z) s.heap s.heap [] := va_S.rf
  refine lv_aload_n hx hb dd_Id_firstError_0 rfl (lv_at hl 0 rfl) ?_
  refine lv_iload_n hx hb dd_Id_firstError_1 rfl (lv_at hl 1 rfl) ?_
  refine lv_iload_n hx hb dd_Id_firstError_2 rfl (lv_at hl 2 rfl) ?_
  refine mw_S (As := [.ref b, .int (nI 0), .int (nI 0)]) (rest := []) E (cc_Id_schemeError_0 l D z M b 0 0 (by decide) (by decide)) ky_Id_schemeError kv_Id_schemeError tw_Id_23 hM hS rfl hl.1 rfl (Nat.le_of_ble_eq_true rfl) dd_Id_firstError_3 (by decide) (by decide) (fun v M1 H locs hp hM hS => ?_)
  obtain ⟨rfl, hq⟩ := hp
  have hq := hq.symm
  subst hq
  refine W.eq (g2 := F0 m 6 ls [.int (nI 0)]) rfl ?_
  refine lv_istore_n (lv' := [(3, .int (nI 0)), (0, .ref b), (1, .int (nI 0)), (2, .int (nI 0))]) hx hb dd_Id_firstError_6 rfl hl (by decide) rfl (fun ls hl => ?_)
  refine lv_iload_n hx hb dd_Id_firstError_7 rfl (lv_at hl 0 rfl) ?_
  refine lv_iconst (v := -1) hx hb dd_Id_firstError_8 (by decide) ?_
  refine lv_icmp_ne (tgt := 50) hx hb dd_Id_firstError_9 (by decide) (fun h9 => ?_) (fun h9 => ?_)
  ·
    refine lv_iload_n hx hb dd_Id_firstError_50 rfl (lv_at hl 2 rfl) ?_
    refine lv_bipush (v := nI 40) hx hb dd_Id_firstError_51 (by decide) ?_
    refine lv_iadd hx hb dd_Id_firstError_53 ?_
    refine mw_topi (y := nI (0 + 40)) (nI_add _ _) ?_
    refine lv_istore (lv' := [(4, .int (nI (0 + 40))), (3, .int (nI 0)), (0, .ref b), (1, .int (nI 0)), (2, .int (nI 0))]) hx hb dd_Id_firstError_54 hl (by decide) rfl (fun ls hl => ?_)
    refine lv_iload_n hx hb dd_Id_firstError_56 rfl (lv_at hl 4 rfl) ?_
    refine lv_iload hx hb dd_Id_firstError_57 (lv_at hl 0 rfl) ?_
    refine lv_icmp_le (tgt := 77) hx hb dd_Id_firstError_59 (by decide) (fun h59 => ?_) (fun h59 => ?_)
    ·
      rw [nI_leI (by omega) (by omega)] at h59
      refine lv_iconst (v := nI 0) hx hb dd_Id_firstError_77 (by decide) ?_
      refine lv_istore (lv' := [(5, .int (nI 0)), (4, .int (nI (0 + 40))), (3, .int (nI 0)), (0, .ref b), (1, .int (nI 0)), (2, .int (nI 0))]) hx hb dd_Id_firstError_78 hl (by decide) rfl (fun ls hl => ?_)
      refine lv_iload hx hb dd_Id_firstError_80 (lv_at hl 0 rfl) ?_
      refine lv_if_eq (tgt := 90) hx hb dd_Id_firstError_82 (by decide) (fun h82 => ?_) (fun h82 => ?_)
      ·
        refine lv_iload_n hx hb dd_Id_firstError_90 rfl (lv_at hl 2 rfl) ?_
        refine mr_i E hr hk hM hS (by decide) (by decide) ?_ dd_Id_firstError_91
        exact ⟨rfl, rfl⟩
      ·
        exact absurd rfl h82
    ·
      rw [nI_leI (by omega) (by omega)] at h59
      omega
  ·
    exact absurd h9 (by decide)
theorem cc_Xi_numberOfText_0 (l : Launch) (D : va_G) (z : Nat) (M : mw_M) (x xb xi xk xe xa xw xl xr xt rn cu : Nat) (fo ck se : Int32) (r : Nat) (f : Nat → Int32) (wx : M x = some (.inr (0, [.ref xb, .ref xi, .ref xk, .ref xe, .ref xa, .ref xw, .ref xl, .ref xr, .ref xt, .int (fo), .int (ck), .int (se), .ref rn, .ref cu]))) (wb : M xb = some (.inr (1, [.ref r, .int (nI 0)]))) (wr : M r = some (.inl (D.1 100, 100, .inl f))) : mw_C l yy_Xi_numberOfText bb_Xi_numberOfText 3 (Option.some Jvm.ClassFile.FieldType.int) 4 88 0 0 D z M [.ref x] (fun v M' => v = some (.int (-1)) ∧ M' = M) := by
  refine mw_of (by decide) (Nat.le_of_ble_eq_true rfl) ?_
  intro p e s m below meth c ls E hr hk hnm hM hl
  have hx := E.x
  have hb := E.b
  have E : mw_E p m c bb_Xi_numberOfText 3 s _ D z "IdentityIssuer" := E
  have hl : lv_has ls 3 [(0, .ref x)] := hl
  have hS : va_S (mw_A z) s.heap s.heap [] := va_S.rf
  refine lv_aload_n hx hb dd_Xi_numberOfText_0 rfl (lv_at hl 0 rfl) ?_
  refine gf_Xi_10 E hM wx rfl dd_Xi_numberOfText_1 ?_
  refine lv_iconst (v := nI 0) hx hb dd_Xi_numberOfText_4 (by decide) ?_
  refine lv_aload_n hx hb dd_Xi_numberOfText_5 rfl (lv_at hl 0 rfl) ?_
  refine gf_Xi_10 E hM wx rfl dd_Xi_numberOfText_6 ?_
  refine mw_V (As := []) (rest := [.int (nI 0), .ref xb]) E (cc_By_length l D z M xb r f 0 wb wr (by decide)) ky_By_length kv_By_length tw_Xi_85 hM hS wb rfl rfl rfl hl.1 rfl (Nat.le_of_ble_eq_true rfl) dd_Xi_numberOfText_9 (by decide) (by decide) (fun v M1 H locs hp hM hS => ?_)
  obtain ⟨rfl, hq⟩ := hp
  have hq := hq.symm
  subst hq
  refine W.eq (g2 := F0 m 12 ls [.int (nI 0), .int (nI 0), .ref xb]) rfl ?_
  refine mw_S (As := [.ref xb, .int (nI 0), .int (nI 0)]) (rest := []) E (cc_Id_firstError_0 l D z M xb) ky_Id_firstError kv_Id_firstError tw_Xi_272 hM hS rfl hl.1 rfl (Nat.le_of_ble_eq_true rfl) dd_Xi_numberOfText_12 (by decide) (by decide) (fun v M1 H locs hp hM hS => ?_)
  obtain ⟨rfl, hq⟩ := hp
  have hq := hq.symm
  subst hq
  refine W.eq (g2 := F0 m 15 ls [.int (nI 0)]) rfl ?_
  refine lv_istore_n (lv' := [(1, .int (nI 0)), (0, .ref x)]) hx hb dd_Xi_numberOfText_15 rfl hl (by decide) rfl (fun ls hl => ?_)
  refine lv_iload_n hx hb dd_Xi_numberOfText_16 rfl (lv_at hl 0 rfl) ?_
  refine lv_iconst (v := -1) hx hb dd_Xi_numberOfText_17 (by decide) ?_
  refine lv_icmp_eq (tgt := 25) hx hb dd_Xi_numberOfText_18 (by decide) (fun h18 => ?_) (fun h18 => ?_)
  ·
    exact absurd h18 (by decide)
  ·
    refine lv_iconst (v := -1) hx hb dd_Xi_numberOfText_21 (by decide) ?_
    refine lv_iload_n hx hb dd_Xi_numberOfText_22 rfl (lv_at hl 0 rfl) ?_
    refine lv_isub hx hb dd_Xi_numberOfText_23 ?_
    refine mw_topi (y := -1) (by decide) ?_
    refine mr_i E hr hk hM hS (by decide) (by decide) ?_ dd_Xi_numberOfText_24
    exact ⟨rfl, rfl⟩
theorem cc_Xi_id_0 (l : Launch) (D : va_G) (z : Nat) (M : mw_M) (x xb xi xk xe xa xw xl xr xt rn cu : Nat) (fo ck se : Int32) (r : Nat) (f : Nat → Int32) (wx : M x = some (.inr (0, [.ref xb, .ref xi, .ref xk, .ref xe, .ref xa, .ref xw, .ref xl, .ref xr, .ref xt, .int (fo), .int (ck), .int (se), .ref rn, .ref cu]))) (wb : M xb = some (.inr (1, [.ref r, .int (nI 0)]))) (wr : M r = some (.inl (D.1 100, 100, .inl f))) : mw_C l yy_Xi_id bb_Xi_id 2 (Option.some Jvm.ClassFile.FieldType.int) 5 110 0 0 D z M [.ref x] (fun v M' => v = some (.int (-1)) ∧ mw_fr (fun q => q = xb) M M') := by
  refine mw_of (by decide) (Nat.le_of_ble_eq_true rfl) ?_
  intro p e s m below meth c ls E hr hk hnm hM hl
  have hx := E.x
  have hb := E.b
  have E : mw_E p m c bb_Xi_id 2 s _ D z "IdentityIssuer" := E
  have hl : lv_has ls 2 [(0, .ref x)] := hl
  have hS : va_S (mw_A z) s.heap s.heap [] := va_S.rf
  refine lv_aload_n hx hb dd_Xi_id_0 rfl (lv_at hl 0 rfl) ?_
  refine mw_V (As := []) (rest := []) E (cc_Xi_numberOfText_0 l D z M x xb xi xk xe xa xw xl xr xt rn cu fo ck se r f wx wb wr) ky_Xi_numberOfText kv_Xi_numberOfText tw_Xi_92 hM hS wx rfl rfl rfl hl.1 rfl (Nat.le_of_ble_eq_true rfl) dd_Xi_id_1 (by decide) (by decide) (fun v M1 H locs hp hM hS => ?_)
  obtain ⟨rfl, hq⟩ := hp
  have hq := hq.symm
  subst hq
  refine W.eq (g2 := F0 m 4 ls [.int (-1)]) rfl ?_
  refine lv_istore_n (lv' := [(1, .int (-1)), (0, .ref x)]) hx hb dd_Xi_id_4 rfl hl (by decide) rfl (fun ls hl => ?_)
  refine lv_aload_n hx hb dd_Xi_id_5 rfl (lv_at hl 1 rfl) ?_
  refine gf_Xi_10 E hM wx rfl dd_Xi_id_6 ?_
  refine mw_V (As := []) (rest := []) E (cc_By_clear l D z M xb r f 0 wb wr (by decide)) ky_By_clear kv_By_clear tw_Xi_95 hM hS wb rfl rfl rfl hl.1 rfl (Nat.le_of_ble_eq_true rfl) dd_Xi_id_9 (by decide) (by decide) (fun v M1 H locs hp hM hS => ?_)
  obtain ⟨rfl, -, hF⟩ := hp
  refine W.eq (g2 := F0 m 12 ls []) rfl ?_
  refine lv_iload_n hx hb dd_Xi_id_12 rfl (lv_at hl 0 rfl) ?_
  refine mr_i E hr hk hM hS (by decide) (by decide) ?_ dd_Xi_id_13
  exact ⟨rfl, hF⟩
