section LOP
variable {p : Program} {l : Launch} {e : Env} {s : State} {m : MethodId} {below : List Frame} {meth : Method} {c : Code} {b L : Nat} {xs : Nat → Int32} {Q : State → Prop} {G : kx_G} {nb : Nat} {ad : kx_A} {sg : kx_S} {H : Heap} {locs : List Loc} {ls : Array Slot} {cells slots i : Nat}
set_option maxHeartbeats 4000000 in
set_option maxRecDepth 100000 in
theorem lo_setTrust (F : kx_F p s m c cL_law 7 RL #[Value.ref b] wsL_law G s.heap.size) (hlf : l.stackTraces = false) (hX : va_X b L xs s s.heap) (hbl : b < s.heap.size) (hi : i + 4 ≤ L) (hL : L ≤ 2048) (hcl : cells + 60 ≤ 601024) (hsl : slots + 1000 ≤ 7293034) (hR : rl_PT nb sg sg) (hW : kx_Wd G s.heap.size ad nb sg H) (hS : va_S (kx_Ad s.heap.size) s.heap H locs) (hl : lv_has ls 7 [(4, .int (nI i)), (3, .ref (ad 32 0)), (2, .ref (ad 14 0)), (1, .ref (ad 0 0)), (0, .ref b)]) (kk : ∀ (sg1 : kx_S) (H1 : Heap) (locs1 : List Loc) (ls1 : Array Slot), rl_PT nb sg1 sg1 → kx_Wd G s.heap.size ad nb sg1 H1 → va_S (kx_Ad s.heap.size) s.heap H1 locs1 → lv_has ls1 7 [(4, .int (nI i)), (3, .ref (ad 32 0)), (2, .ref (ad 14 0)), (1, .ref (ad 0 0)), (0, .ref b)] → W p l e room_1 s m #[Value.ref b] below meth c H1 locs1 (cells + 60) (slots + 1000) Q (F0 m 1604 ls1 [])) : W p l e room_1 s m #[Value.ref b] below meth c H locs cells slots Q (F0 m 224 ls []) := by
  have hx := F.1; have hb := F.2.1
  have hC := rl_CI hR.1 hR.2.1.1
  have hR0 := hR
  refine lv_aload_n hx hb dL_law_224 rfl (lv_at hl 3 rfl) ?_
  refine lv_aload_n hx hb dL_law_225 rfl (lv_at hl 4 rfl) ?_
  refine lv_iload hx hb dL_law_226 (lv_at hl 0 rfl) ?_
  refine lv_iconst (v := 1) hx hb dL_law_228 (by decide) ?_
  refine lv_iadd hx hb dL_law_229 ?_
  rw [lo_n1 i]
  refine va_sld hx hb hX hbl (Nat.not_le.mpr hbl) hS (vp_in_nI (by omega) (by omega)) dL_law_230 ?_
  rw [nI_clamp (n := i + 1) (by omega)]
  refine lv_aload_n hx hb dL_law_231 rfl (lv_at hl 4 rfl) ?_
  refine lv_iload hx hb dL_law_232 (lv_at hl 0 rfl) ?_
  refine lv_iconst (v := 2) hx hb dL_law_234 (by decide) ?_
  refine lv_iadd hx hb dL_law_235 ?_
  rw [lo_n2 i]
  refine va_sld hx hb hX hbl (Nat.not_le.mpr hbl) hS (vp_in_nI (by omega) (by omega)) dL_law_236 ?_
  rw [nI_clamp (n := i + 2) (by omega)]
  refine lv_aload_n hx hb dL_law_237 rfl (lv_at hl 1 rfl) ?_
  refine kx_xSH (na := 4) F (c_L_setTrust l hlf G s.heap.size ad nb sg hC (xs (i + 1)) (xs (i + 2))) gL_law_L_setTrust rfl (by decide +kernel) ⟨Nat.le_of_ble_eq_true rfl, Nat.le_of_ble_eq_true rfl⟩ hW hS (As := [.ref (ad 0 0), .int (xs (i + 1)), .int (xs (i + 2)), .ref (ad 32 0)]) (rest := []) rfl hl.1 rfl (Nat.le_of_ble_eq_true rfl) dL_law_238 ⟨by show _ ≤ 601024; omega, by show _ ≤ 7293034; omega⟩ (fun E9 ce9 q9 H locs hp9 hW hS h7 h8 h9 => hp9.elim) (fun r9 sg9 H locs hq hW hS => ?_)
  obtain ⟨hR9, k9, hk9⟩ := lq_setTrust (x := (xs (i + 1))) (y := (xs (i + 2))) hR hq
  subst hk9
  refine W.eq (g2 := F0 m 241 ls [.int k9]) rfl ?_
  refine lv_istore (lv' := [(5, .int k9), (4, .int (nI i)), (3, .ref (ad 32 0)), (2, .ref (ad 14 0)), (1, .ref (ad 0 0)), (0, .ref b)]) hx hb dL_law_241 hl (by decide) rfl (fun ls hl => ?_)
  refine lv_aload_n hx hb dL_law_243 rfl (lv_at hl 3 rfl) ?_
  refine lv_aload_n hx hb dL_law_244 rfl (lv_at hl 5 rfl) ?_
  refine lv_iload hx hb dL_law_245 (lv_at hl 1 rfl) ?_
  refine lv_iconst (v := 1) hx hb dL_law_247 (by decide) ?_
  refine lv_iadd hx hb dL_law_248 ?_
  rw [lo_n1 i]
  refine va_sld hx hb hX hbl (Nat.not_le.mpr hbl) hS (vp_in_nI (by omega) (by omega)) dL_law_249 ?_
  rw [nI_clamp (n := i + 1) (by omega)]
  refine lv_aload_n hx hb dL_law_250 rfl (lv_at hl 5 rfl) ?_
  refine lv_iload hx hb dL_law_251 (lv_at hl 1 rfl) ?_
  refine lv_iconst (v := 2) hx hb dL_law_253 (by decide) ?_
  refine lv_iadd hx hb dL_law_254 ?_
  rw [lo_n2 i]
  refine va_sld hx hb hX hbl (Nat.not_le.mpr hbl) hS (vp_in_nI (by omega) (by omega)) dL_law_255 ?_
  rw [nI_clamp (n := i + 2) (by omega)]
  refine kx_cV (na := 2) F (q := 14) (n := 0) (c_X4_setTrust l G s.heap.size ad nb sg9 nb (rl_tmWF hR9.1) (xs (i + 1)) (xs (i + 2))) gL_law_X4_setTrust rfl (by decide +kernel) ⟨Nat.le_of_ble_eq_true rfl, Nat.le_of_ble_eq_true rfl⟩ hW hS ⟨by decide, rfl⟩ rfl rfl (As := [.int (xs (i + 1)), .int (xs (i + 2))]) (rest := []) rfl hl.1 rfl (Nat.le_of_ble_eq_true rfl) dL_law_256 ⟨by show _ ≤ 601024; omega, by show _ ≤ 7293034; omega⟩ (fun r10 sg10 H locs hm hW hS => ?_)
  obtain ⟨k1, b1, e1, e2, e3, e4, hR⟩ := lp_setTrust (x := (xs (i + 1))) (y := (xs (i + 2))) hR0 hq hm
  subst e2
  have ek : k9 = k1 := Value.int.inj (Option.some.inj e1)
  rw [← ek] at e3 e4
  refine W.eq (g2 := F0 m 259 ls [.int b1]) rfl ?_
  refine lv_istore (lv' := [(6, .int b1), (5, .int k9), (4, .int (nI i)), (3, .ref (ad 32 0)), (2, .ref (ad 14 0)), (1, .ref (ad 0 0)), (0, .ref b)]) hx hb dL_law_259 hl (by decide) rfl (fun ls hl => ?_)
  refine lv_aload_n hx hb dL_law_261 rfl (lv_at hl 4 rfl) ?_
  refine kx_cV (na := 0) F (q := 14) (n := 0) (c_X4_thrown l G s.heap.size ad nb sg10) gL_law_X4_thrown rfl (by decide +kernel) ⟨Nat.le_of_ble_eq_true rfl, Nat.le_of_ble_eq_true rfl⟩ hW hS ⟨by decide, rfl⟩ rfl rfl (As := []) (rest := []) rfl hl.1 rfl (Nat.le_of_ble_eq_true rfl) dL_law_262 ⟨by show _ ≤ 601024; omega, by show _ ≤ 7293034; omega⟩ (fun r11 sg11 H locs hq11 hW hS => ?_)
  obtain ⟨rfl, e11⟩ := hq11
  rw [e11] at hW
  refine W.eq (g2 := F0 m 265 ls [.int (sg10 14 0 22)]) rfl ?_
  rw [e3]
  refine lv_iload hx hb dL_law_265 (lv_at hl 1 rfl) ?_
  refine lv_icmp_eq (tgt := 272) hx hb dL_law_267 (by decide) (fun c1 => ?_) (fun c1 => absurd rfl c1)
  refine lv_iload hx hb dL_law_272 (lv_at hl 1 rfl) ?_
  refine lv_if_ne (tgt := 289) hx hb dL_law_274 (by decide) (fun c2 => ?_) (fun c2 => ?_)
  · refine lv_goto (tgt := 1604) hx hb dL_law_289 (by decide) ?_
    exact W.widen (by omega) (by omega) (kk sg10 H locs ls hR hW hS (lv_sub hl [2, 3, 4, 5, 6] rfl))
  · have e5 := e4 c2
    refine lv_aload_n hx hb dL_law_277 rfl (lv_at hl 3 rfl) ?_
    refine lv_iconst (v := 0) hx hb dL_law_278 (by decide) ?_
    refine kx_lald F hW dL_law_279 ?_
    refine lv_iload hx hb dL_law_280 (lv_at hl 0 rfl) ?_
    refine lv_i2l (v := b1.toInt64) hx hb dL_law_282 rfl ?_
    refine W.lcmp hx hb dL_law_283 ?_
    refine lv_if_eq (tgt := 289) hx hb dL_law_284 (by decide) (fun c3 => ?_) (fun c3 => absurd (by rw [e5]; exact (lg_cmp_eq _ _).mpr rfl) c3)
    refine lv_goto (tgt := 1604) hx hb dL_law_289 (by decide) ?_
    exact W.widen (by omega) (by omega) (kk sg10 H locs ls hR hW hS (lv_sub hl [2, 3, 4, 5, 6] rfl))

set_option maxHeartbeats 4000000 in
set_option maxRecDepth 100000 in
theorem lo_pass (F : kx_F p s m c cL_law 7 RL #[Value.ref b] wsL_law G s.heap.size) (hlf : l.stackTraces = false) (hX : va_X b L xs s s.heap) (hbl : b < s.heap.size) (hi : i + 4 ≤ L) (hL : L ≤ 2048) (hcl : cells + 60 ≤ 601024) (hsl : slots + 1000 ≤ 7293034) (hR : rl_PT nb sg sg) (hW : kx_Wd G s.heap.size ad nb sg H) (hS : va_S (kx_Ad s.heap.size) s.heap H locs) (hl : lv_has ls 7 [(4, .int (nI i)), (3, .ref (ad 32 0)), (2, .ref (ad 14 0)), (1, .ref (ad 0 0)), (0, .ref b)]) (kk : ∀ (sg1 : kx_S) (H1 : Heap) (locs1 : List Loc) (ls1 : Array Slot), rl_PT nb sg1 sg1 → kx_Wd G s.heap.size ad nb sg1 H1 → va_S (kx_Ad s.heap.size) s.heap H1 locs1 → lv_has ls1 7 [(4, .int (nI i)), (3, .ref (ad 32 0)), (2, .ref (ad 14 0)), (1, .ref (ad 0 0)), (0, .ref b)] → W p l e room_1 s m #[Value.ref b] below meth c H1 locs1 (cells + 60) (slots + 1000) Q (F0 m 1604 ls1 [])) : W p l e room_1 s m #[Value.ref b] below meth c H locs cells slots Q (F0 m 292 ls []) := by
  have hx := F.1; have hb := F.2.1
  have hC := rl_CI hR.1 hR.2.1.1
  have hR0 := hR
  refine lv_aload_n hx hb dL_law_292 rfl (lv_at hl 3 rfl) ?_
  refine lv_aload_n hx hb dL_law_293 rfl (lv_at hl 4 rfl) ?_
  refine lv_iload hx hb dL_law_294 (lv_at hl 0 rfl) ?_
  refine lv_iconst (v := 1) hx hb dL_law_296 (by decide) ?_
  refine lv_iadd hx hb dL_law_297 ?_
  rw [lo_n1 i]
  refine va_sld hx hb hX hbl (Nat.not_le.mpr hbl) hS (vp_in_nI (by omega) (by omega)) dL_law_298 ?_
  rw [nI_clamp (n := i + 1) (by omega)]
  refine lv_aload_n hx hb dL_law_299 rfl (lv_at hl 1 rfl) ?_
  refine kx_xSH (na := 3) F (c_L_pass l hlf G s.heap.size ad nb sg hC (xs (i + 1))) gL_law_L_pass rfl (by decide +kernel) ⟨Nat.le_of_ble_eq_true rfl, Nat.le_of_ble_eq_true rfl⟩ hW hS (As := [.ref (ad 0 0), .int (xs (i + 1)), .ref (ad 32 0)]) (rest := []) rfl hl.1 rfl (Nat.le_of_ble_eq_true rfl) dL_law_300 ⟨by show _ ≤ 601024; omega, by show _ ≤ 7293034; omega⟩ (fun E9 ce9 q9 H locs hp9 hW hS h7 h8 h9 => hp9.elim) (fun r9 sg9 H locs hq hW hS => ?_)
  obtain ⟨hR9, k9, hk9⟩ := lq_pass (x := (xs (i + 1))) hR hq
  subst hk9
  refine W.eq (g2 := F0 m 303 ls [.int k9]) rfl ?_
  refine lv_istore (lv' := [(5, .int k9), (4, .int (nI i)), (3, .ref (ad 32 0)), (2, .ref (ad 14 0)), (1, .ref (ad 0 0)), (0, .ref b)]) hx hb dL_law_303 hl (by decide) rfl (fun ls hl => ?_)
  refine lv_aload_n hx hb dL_law_305 rfl (lv_at hl 3 rfl) ?_
  refine lv_aload_n hx hb dL_law_306 rfl (lv_at hl 5 rfl) ?_
  refine lv_iload hx hb dL_law_307 (lv_at hl 1 rfl) ?_
  refine lv_iconst (v := 1) hx hb dL_law_309 (by decide) ?_
  refine lv_iadd hx hb dL_law_310 ?_
  rw [lo_n1 i]
  refine va_sld hx hb hX hbl (Nat.not_le.mpr hbl) hS (vp_in_nI (by omega) (by omega)) dL_law_311 ?_
  rw [nI_clamp (n := i + 1) (by omega)]
  refine kx_cV (na := 1) F (q := 14) (n := 0) (c_X4_pass l G s.heap.size ad nb sg9 nb (rl_tmWF hR9.1) (xs (i + 1))) gL_law_X4_pass rfl (by decide +kernel) ⟨Nat.le_of_ble_eq_true rfl, Nat.le_of_ble_eq_true rfl⟩ hW hS ⟨by decide, rfl⟩ rfl rfl (As := [.int (xs (i + 1))]) (rest := []) rfl hl.1 rfl (Nat.le_of_ble_eq_true rfl) dL_law_312 ⟨by show _ ≤ 601024; omega, by show _ ≤ 7293034; omega⟩ (fun r10 sg10 H locs hm hW hS => ?_)
  obtain ⟨k1, b1, e1, e2, e3, e4, hR⟩ := lp_pass (x := (xs (i + 1))) hR0 hq hm
  subst e2
  have ek : k9 = k1 := Value.int.inj (Option.some.inj e1)
  rw [← ek] at e3 e4
  refine W.eq (g2 := F0 m 315 ls [.int b1]) rfl ?_
  refine lv_istore (lv' := [(6, .int b1), (5, .int k9), (4, .int (nI i)), (3, .ref (ad 32 0)), (2, .ref (ad 14 0)), (1, .ref (ad 0 0)), (0, .ref b)]) hx hb dL_law_315 hl (by decide) rfl (fun ls hl => ?_)
  refine lv_aload_n hx hb dL_law_317 rfl (lv_at hl 4 rfl) ?_
  refine kx_cV (na := 0) F (q := 14) (n := 0) (c_X4_thrown l G s.heap.size ad nb sg10) gL_law_X4_thrown rfl (by decide +kernel) ⟨Nat.le_of_ble_eq_true rfl, Nat.le_of_ble_eq_true rfl⟩ hW hS ⟨by decide, rfl⟩ rfl rfl (As := []) (rest := []) rfl hl.1 rfl (Nat.le_of_ble_eq_true rfl) dL_law_318 ⟨by show _ ≤ 601024; omega, by show _ ≤ 7293034; omega⟩ (fun r11 sg11 H locs hq11 hW hS => ?_)
  obtain ⟨rfl, e11⟩ := hq11
  rw [e11] at hW
  refine W.eq (g2 := F0 m 321 ls [.int (sg10 14 0 22)]) rfl ?_
  rw [e3]
  refine lv_iload hx hb dL_law_321 (lv_at hl 1 rfl) ?_
  refine lv_icmp_eq (tgt := 328) hx hb dL_law_323 (by decide) (fun c1 => ?_) (fun c1 => absurd rfl c1)
  refine lv_iload hx hb dL_law_328 (lv_at hl 1 rfl) ?_
  refine lv_if_ne (tgt := 345) hx hb dL_law_330 (by decide) (fun c2 => ?_) (fun c2 => ?_)
  · refine lv_goto (tgt := 1604) hx hb dL_law_345 (by decide) ?_
    exact W.widen (by omega) (by omega) (kk sg10 H locs ls hR hW hS (lv_sub hl [2, 3, 4, 5, 6] rfl))
  · have e5 := e4 c2
    refine lv_aload_n hx hb dL_law_333 rfl (lv_at hl 3 rfl) ?_
    refine lv_iconst (v := 0) hx hb dL_law_334 (by decide) ?_
    refine kx_lald F hW dL_law_335 ?_
    refine lv_iload hx hb dL_law_336 (lv_at hl 0 rfl) ?_
    refine lv_i2l (v := b1.toInt64) hx hb dL_law_338 rfl ?_
    refine W.lcmp hx hb dL_law_339 ?_
    refine lv_if_eq (tgt := 345) hx hb dL_law_340 (by decide) (fun c3 => ?_) (fun c3 => absurd (by rw [e5]; exact (lg_cmp_eq _ _).mpr rfl) c3)
    refine lv_goto (tgt := 1604) hx hb dL_law_345 (by decide) ?_
    exact W.widen (by omega) (by omega) (kk sg10 H locs ls hR hW hS (lv_sub hl [2, 3, 4, 5, 6] rfl))

set_option maxHeartbeats 4000000 in
set_option maxRecDepth 100000 in
theorem lo_scan (F : kx_F p s m c cL_law 7 RL #[Value.ref b] wsL_law G s.heap.size) (hlf : l.stackTraces = false) (hX : va_X b L xs s s.heap) (hbl : b < s.heap.size) (hi : i + 4 ≤ L) (hL : L ≤ 2048) (hcl : cells + 60 ≤ 601024) (hsl : slots + 1000 ≤ 7293034) (hR : rl_PT nb sg sg) (hW : kx_Wd G s.heap.size ad nb sg H) (hS : va_S (kx_Ad s.heap.size) s.heap H locs) (hl : lv_has ls 7 [(4, .int (nI i)), (3, .ref (ad 32 0)), (2, .ref (ad 14 0)), (1, .ref (ad 0 0)), (0, .ref b)]) (kk : ∀ (sg1 : kx_S) (H1 : Heap) (locs1 : List Loc) (ls1 : Array Slot), rl_PT nb sg1 sg1 → kx_Wd G s.heap.size ad nb sg1 H1 → va_S (kx_Ad s.heap.size) s.heap H1 locs1 → lv_has ls1 7 [(4, .int (nI i)), (3, .ref (ad 32 0)), (2, .ref (ad 14 0)), (1, .ref (ad 0 0)), (0, .ref b)] → W p l e room_1 s m #[Value.ref b] below meth c H1 locs1 (cells + 60) (slots + 1000) Q (F0 m 1604 ls1 [])) : W p l e room_1 s m #[Value.ref b] below meth c H locs cells slots Q (F0 m 348 ls []) := by
  have hx := F.1; have hb := F.2.1
  have hC := rl_CI hR.1 hR.2.1.1
  have hR0 := hR
  refine lv_aload_n hx hb dL_law_348 rfl (lv_at hl 3 rfl) ?_
  refine lv_aload_n hx hb dL_law_349 rfl (lv_at hl 4 rfl) ?_
  refine lv_iload hx hb dL_law_350 (lv_at hl 0 rfl) ?_
  refine lv_iconst (v := 1) hx hb dL_law_352 (by decide) ?_
  refine lv_iadd hx hb dL_law_353 ?_
  rw [lo_n1 i]
  refine va_sld hx hb hX hbl (Nat.not_le.mpr hbl) hS (vp_in_nI (by omega) (by omega)) dL_law_354 ?_
  rw [nI_clamp (n := i + 1) (by omega)]
  refine lv_aload_n hx hb dL_law_355 rfl (lv_at hl 4 rfl) ?_
  refine lv_iload hx hb dL_law_356 (lv_at hl 0 rfl) ?_
  refine lv_iconst (v := 2) hx hb dL_law_358 (by decide) ?_
  refine lv_iadd hx hb dL_law_359 ?_
  rw [lo_n2 i]
  refine va_sld hx hb hX hbl (Nat.not_le.mpr hbl) hS (vp_in_nI (by omega) (by omega)) dL_law_360 ?_
  rw [nI_clamp (n := i + 2) (by omega)]
  refine lv_aload_n hx hb dL_law_361 rfl (lv_at hl 4 rfl) ?_
  refine lv_iload hx hb dL_law_362 (lv_at hl 0 rfl) ?_
  refine lv_iconst (v := 3) hx hb dL_law_364 (by decide) ?_
  refine lv_iadd hx hb dL_law_365 ?_
  rw [lo_n3 i]
  refine va_sld hx hb hX hbl (Nat.not_le.mpr hbl) hS (vp_in_nI (by omega) (by omega)) dL_law_366 ?_
  rw [nI_clamp (n := i + 3) (by omega)]
  refine lv_aload_n hx hb dL_law_367 rfl (lv_at hl 1 rfl) ?_
  refine kx_xSH (na := 5) F (c_L_scan l hlf G s.heap.size ad nb sg hC (xs (i + 1)) (xs (i + 2)) (xs (i + 3))) gL_law_L_scan rfl (by decide +kernel) ⟨Nat.le_of_ble_eq_true rfl, Nat.le_of_ble_eq_true rfl⟩ hW hS (As := [.ref (ad 0 0), .int (xs (i + 1)), .int (xs (i + 2)), .int (xs (i + 3)), .ref (ad 32 0)]) (rest := []) rfl hl.1 rfl (Nat.le_of_ble_eq_true rfl) dL_law_368 ⟨by show _ ≤ 601024; omega, by show _ ≤ 7293034; omega⟩ (fun E9 ce9 q9 H locs hp9 hW hS h7 h8 h9 => hp9.elim) (fun r9 sg9 H locs hq hW hS => ?_)
  obtain ⟨hR9, k9, hk9⟩ := lq_scan (x := (xs (i + 1))) (y := (xs (i + 2))) (z := (xs (i + 3))) hR hq
  subst hk9
  refine W.eq (g2 := F0 m 371 ls [.int k9]) rfl ?_
  refine lv_istore (lv' := [(5, .int k9), (4, .int (nI i)), (3, .ref (ad 32 0)), (2, .ref (ad 14 0)), (1, .ref (ad 0 0)), (0, .ref b)]) hx hb dL_law_371 hl (by decide) rfl (fun ls hl => ?_)
  refine lv_aload_n hx hb dL_law_373 rfl (lv_at hl 3 rfl) ?_
  refine lv_aload_n hx hb dL_law_374 rfl (lv_at hl 5 rfl) ?_
  refine lv_iload hx hb dL_law_375 (lv_at hl 1 rfl) ?_
  refine lv_iconst (v := 1) hx hb dL_law_377 (by decide) ?_
  refine lv_iadd hx hb dL_law_378 ?_
  rw [lo_n1 i]
  refine va_sld hx hb hX hbl (Nat.not_le.mpr hbl) hS (vp_in_nI (by omega) (by omega)) dL_law_379 ?_
  rw [nI_clamp (n := i + 1) (by omega)]
  refine lv_aload_n hx hb dL_law_380 rfl (lv_at hl 5 rfl) ?_
  refine lv_iload hx hb dL_law_381 (lv_at hl 1 rfl) ?_
  refine lv_iconst (v := 2) hx hb dL_law_383 (by decide) ?_
  refine lv_iadd hx hb dL_law_384 ?_
  rw [lo_n2 i]
  refine va_sld hx hb hX hbl (Nat.not_le.mpr hbl) hS (vp_in_nI (by omega) (by omega)) dL_law_385 ?_
  rw [nI_clamp (n := i + 2) (by omega)]
  refine lv_aload_n hx hb dL_law_386 rfl (lv_at hl 5 rfl) ?_
  refine lv_iload hx hb dL_law_387 (lv_at hl 1 rfl) ?_
  refine lv_iconst (v := 3) hx hb dL_law_389 (by decide) ?_
  refine lv_iadd hx hb dL_law_390 ?_
  rw [lo_n3 i]
  refine va_sld hx hb hX hbl (Nat.not_le.mpr hbl) hS (vp_in_nI (by omega) (by omega)) dL_law_391 ?_
  rw [nI_clamp (n := i + 3) (by omega)]
  refine kx_cV (na := 3) F (q := 14) (n := 0) (c_X4_scan l G s.heap.size ad nb sg9 nb (rl_tmWF hR9.1) (xs (i + 1)) (xs (i + 2)) (xs (i + 3))) gL_law_X4_scan rfl (by decide +kernel) ⟨Nat.le_of_ble_eq_true rfl, Nat.le_of_ble_eq_true rfl⟩ hW hS ⟨by decide, rfl⟩ rfl rfl (As := [.int (xs (i + 1)), .int (xs (i + 2)), .int (xs (i + 3))]) (rest := []) rfl hl.1 rfl (Nat.le_of_ble_eq_true rfl) dL_law_392 ⟨by show _ ≤ 601024; omega, by show _ ≤ 7293034; omega⟩ (fun r10 sg10 H locs hm hW hS => ?_)
  obtain ⟨k1, b1, e1, e2, e3, e4, hR⟩ := lp_scan (x := (xs (i + 1))) (y := (xs (i + 2))) (z := (xs (i + 3))) hR0 hq hm
  subst e2
  have ek : k9 = k1 := Value.int.inj (Option.some.inj e1)
  rw [← ek] at e3 e4
  refine W.eq (g2 := F0 m 395 ls [.int b1]) rfl ?_
  refine lv_istore (lv' := [(6, .int b1), (5, .int k9), (4, .int (nI i)), (3, .ref (ad 32 0)), (2, .ref (ad 14 0)), (1, .ref (ad 0 0)), (0, .ref b)]) hx hb dL_law_395 hl (by decide) rfl (fun ls hl => ?_)
  refine lv_aload_n hx hb dL_law_397 rfl (lv_at hl 4 rfl) ?_
  refine kx_cV (na := 0) F (q := 14) (n := 0) (c_X4_thrown l G s.heap.size ad nb sg10) gL_law_X4_thrown rfl (by decide +kernel) ⟨Nat.le_of_ble_eq_true rfl, Nat.le_of_ble_eq_true rfl⟩ hW hS ⟨by decide, rfl⟩ rfl rfl (As := []) (rest := []) rfl hl.1 rfl (Nat.le_of_ble_eq_true rfl) dL_law_398 ⟨by show _ ≤ 601024; omega, by show _ ≤ 7293034; omega⟩ (fun r11 sg11 H locs hq11 hW hS => ?_)
  obtain ⟨rfl, e11⟩ := hq11
  rw [e11] at hW
  refine W.eq (g2 := F0 m 401 ls [.int (sg10 14 0 22)]) rfl ?_
  rw [e3]
  refine lv_iload hx hb dL_law_401 (lv_at hl 1 rfl) ?_
  refine lv_icmp_eq (tgt := 408) hx hb dL_law_403 (by decide) (fun c1 => ?_) (fun c1 => absurd rfl c1)
  refine lv_iload hx hb dL_law_408 (lv_at hl 1 rfl) ?_
  refine lv_if_ne (tgt := 425) hx hb dL_law_410 (by decide) (fun c2 => ?_) (fun c2 => ?_)
  · refine lv_goto (tgt := 1604) hx hb dL_law_425 (by decide) ?_
    exact W.widen (by omega) (by omega) (kk sg10 H locs ls hR hW hS (lv_sub hl [2, 3, 4, 5, 6] rfl))
  · have e5 := e4 c2
    refine lv_aload_n hx hb dL_law_413 rfl (lv_at hl 3 rfl) ?_
    refine lv_iconst (v := 0) hx hb dL_law_414 (by decide) ?_
    refine kx_lald F hW dL_law_415 ?_
    refine lv_iload hx hb dL_law_416 (lv_at hl 0 rfl) ?_
    refine lv_i2l (v := b1.toInt64) hx hb dL_law_418 rfl ?_
    refine W.lcmp hx hb dL_law_419 ?_
    refine lv_if_eq (tgt := 425) hx hb dL_law_420 (by decide) (fun c3 => ?_) (fun c3 => absurd (by rw [e5]; exact (lg_cmp_eq _ _).mpr rfl) c3)
    refine lv_goto (tgt := 1604) hx hb dL_law_425 (by decide) ?_
    exact W.widen (by omega) (by omega) (kk sg10 H locs ls hR hW hS (lv_sub hl [2, 3, 4, 5, 6] rfl))

set_option maxHeartbeats 4000000 in
set_option maxRecDepth 100000 in
theorem lo_lay (F : kx_F p s m c cL_law 7 RL #[Value.ref b] wsL_law G s.heap.size) (hlf : l.stackTraces = false) (hX : va_X b L xs s s.heap) (hbl : b < s.heap.size) (hi : i + 4 ≤ L) (hL : L ≤ 2048) (hcl : cells + 60 ≤ 601024) (hsl : slots + 1000 ≤ 7293034) (hR : rl_PT nb sg sg) (hW : kx_Wd G s.heap.size ad nb sg H) (hS : va_S (kx_Ad s.heap.size) s.heap H locs) (hl : lv_has ls 7 [(4, .int (nI i)), (3, .ref (ad 32 0)), (2, .ref (ad 14 0)), (1, .ref (ad 0 0)), (0, .ref b)]) (kk : ∀ (sg1 : kx_S) (H1 : Heap) (locs1 : List Loc) (ls1 : Array Slot), rl_PT nb sg1 sg1 → kx_Wd G s.heap.size ad nb sg1 H1 → va_S (kx_Ad s.heap.size) s.heap H1 locs1 → lv_has ls1 7 [(4, .int (nI i)), (3, .ref (ad 32 0)), (2, .ref (ad 14 0)), (1, .ref (ad 0 0)), (0, .ref b)] → W p l e room_1 s m #[Value.ref b] below meth c H1 locs1 (cells + 60) (slots + 1000) Q (F0 m 1604 ls1 [])) : W p l e room_1 s m #[Value.ref b] below meth c H locs cells slots Q (F0 m 428 ls []) := by
  have hx := F.1; have hb := F.2.1
  have hC := rl_CI hR.1 hR.2.1.1
  have hR0 := hR
  refine lv_aload_n hx hb dL_law_428 rfl (lv_at hl 3 rfl) ?_
  refine lv_aload_n hx hb dL_law_429 rfl (lv_at hl 4 rfl) ?_
  refine lv_iload hx hb dL_law_430 (lv_at hl 0 rfl) ?_
  refine lv_iconst (v := 1) hx hb dL_law_432 (by decide) ?_
  refine lv_iadd hx hb dL_law_433 ?_
  rw [lo_n1 i]
  refine va_sld hx hb hX hbl (Nat.not_le.mpr hbl) hS (vp_in_nI (by omega) (by omega)) dL_law_434 ?_
  rw [nI_clamp (n := i + 1) (by omega)]
  refine lv_aload_n hx hb dL_law_435 rfl (lv_at hl 4 rfl) ?_
  refine lv_iload hx hb dL_law_436 (lv_at hl 0 rfl) ?_
  refine lv_iconst (v := 2) hx hb dL_law_438 (by decide) ?_
  refine lv_iadd hx hb dL_law_439 ?_
  rw [lo_n2 i]
  refine va_sld hx hb hX hbl (Nat.not_le.mpr hbl) hS (vp_in_nI (by omega) (by omega)) dL_law_440 ?_
  rw [nI_clamp (n := i + 2) (by omega)]
  refine lv_aload_n hx hb dL_law_441 rfl (lv_at hl 1 rfl) ?_
  refine kx_xSH (na := 4) F (c_L_lay l hlf G s.heap.size ad nb sg hC (xs (i + 1)) (xs (i + 2))) gL_law_L_lay rfl (by decide +kernel) ⟨Nat.le_of_ble_eq_true rfl, Nat.le_of_ble_eq_true rfl⟩ hW hS (As := [.ref (ad 0 0), .int (xs (i + 1)), .int (xs (i + 2)), .ref (ad 32 0)]) (rest := []) rfl hl.1 rfl (Nat.le_of_ble_eq_true rfl) dL_law_442 ⟨by show _ ≤ 601024; omega, by show _ ≤ 7293034; omega⟩ (fun E9 ce9 q9 H locs hp9 hW hS h7 h8 h9 => hp9.elim) (fun r9 sg9 H locs hq hW hS => ?_)
  obtain ⟨hR9, k9, hk9⟩ := lq_lay (x := (xs (i + 1))) (y := (xs (i + 2))) hR hq
  subst hk9
  refine W.eq (g2 := F0 m 445 ls [.int k9]) rfl ?_
  refine lv_istore (lv' := [(5, .int k9), (4, .int (nI i)), (3, .ref (ad 32 0)), (2, .ref (ad 14 0)), (1, .ref (ad 0 0)), (0, .ref b)]) hx hb dL_law_445 hl (by decide) rfl (fun ls hl => ?_)
  refine lv_aload_n hx hb dL_law_447 rfl (lv_at hl 3 rfl) ?_
  refine lv_aload_n hx hb dL_law_448 rfl (lv_at hl 5 rfl) ?_
  refine lv_iload hx hb dL_law_449 (lv_at hl 1 rfl) ?_
  refine lv_iconst (v := 1) hx hb dL_law_451 (by decide) ?_
  refine lv_iadd hx hb dL_law_452 ?_
  rw [lo_n1 i]
  refine va_sld hx hb hX hbl (Nat.not_le.mpr hbl) hS (vp_in_nI (by omega) (by omega)) dL_law_453 ?_
  rw [nI_clamp (n := i + 1) (by omega)]
  refine lv_aload_n hx hb dL_law_454 rfl (lv_at hl 5 rfl) ?_
  refine lv_iload hx hb dL_law_455 (lv_at hl 1 rfl) ?_
  refine lv_iconst (v := 2) hx hb dL_law_457 (by decide) ?_
  refine lv_iadd hx hb dL_law_458 ?_
  rw [lo_n2 i]
  refine va_sld hx hb hX hbl (Nat.not_le.mpr hbl) hS (vp_in_nI (by omega) (by omega)) dL_law_459 ?_
  rw [nI_clamp (n := i + 2) (by omega)]
  refine kx_cV (na := 2) F (q := 14) (n := 0) (c_X4_lay l G s.heap.size ad nb sg9 nb (rl_tmWF hR9.1) (xs (i + 1)) (xs (i + 2))) gL_law_X4_lay rfl (by decide +kernel) ⟨Nat.le_of_ble_eq_true rfl, Nat.le_of_ble_eq_true rfl⟩ hW hS ⟨by decide, rfl⟩ rfl rfl (As := [.int (xs (i + 1)), .int (xs (i + 2))]) (rest := []) rfl hl.1 rfl (Nat.le_of_ble_eq_true rfl) dL_law_460 ⟨by show _ ≤ 601024; omega, by show _ ≤ 7293034; omega⟩ (fun r10 sg10 H locs hm hW hS => ?_)
  obtain ⟨k1, b1, e1, e2, e3, e4, hR⟩ := lp_lay (x := (xs (i + 1))) (y := (xs (i + 2))) hR0 hq hm
  subst e2
  have ek : k9 = k1 := Value.int.inj (Option.some.inj e1)
  rw [← ek] at e3 e4
  refine W.eq (g2 := F0 m 463 ls [.int b1]) rfl ?_
  refine lv_istore (lv' := [(6, .int b1), (5, .int k9), (4, .int (nI i)), (3, .ref (ad 32 0)), (2, .ref (ad 14 0)), (1, .ref (ad 0 0)), (0, .ref b)]) hx hb dL_law_463 hl (by decide) rfl (fun ls hl => ?_)
  refine lv_aload_n hx hb dL_law_465 rfl (lv_at hl 4 rfl) ?_
  refine kx_cV (na := 0) F (q := 14) (n := 0) (c_X4_thrown l G s.heap.size ad nb sg10) gL_law_X4_thrown rfl (by decide +kernel) ⟨Nat.le_of_ble_eq_true rfl, Nat.le_of_ble_eq_true rfl⟩ hW hS ⟨by decide, rfl⟩ rfl rfl (As := []) (rest := []) rfl hl.1 rfl (Nat.le_of_ble_eq_true rfl) dL_law_466 ⟨by show _ ≤ 601024; omega, by show _ ≤ 7293034; omega⟩ (fun r11 sg11 H locs hq11 hW hS => ?_)
  obtain ⟨rfl, e11⟩ := hq11
  rw [e11] at hW
  refine W.eq (g2 := F0 m 469 ls [.int (sg10 14 0 22)]) rfl ?_
  rw [e3]
  refine lv_iload hx hb dL_law_469 (lv_at hl 1 rfl) ?_
  refine lv_icmp_eq (tgt := 476) hx hb dL_law_471 (by decide) (fun c1 => ?_) (fun c1 => absurd rfl c1)
  refine lv_iload hx hb dL_law_476 (lv_at hl 1 rfl) ?_
  refine lv_if_ne (tgt := 493) hx hb dL_law_478 (by decide) (fun c2 => ?_) (fun c2 => ?_)
  · refine lv_goto (tgt := 1604) hx hb dL_law_493 (by decide) ?_
    exact W.widen (by omega) (by omega) (kk sg10 H locs ls hR hW hS (lv_sub hl [2, 3, 4, 5, 6] rfl))
  · have e5 := e4 c2
    refine lv_aload_n hx hb dL_law_481 rfl (lv_at hl 3 rfl) ?_
    refine lv_iconst (v := 0) hx hb dL_law_482 (by decide) ?_
    refine kx_lald F hW dL_law_483 ?_
    refine lv_iload hx hb dL_law_484 (lv_at hl 0 rfl) ?_
    refine lv_i2l (v := b1.toInt64) hx hb dL_law_486 rfl ?_
    refine W.lcmp hx hb dL_law_487 ?_
    refine lv_if_eq (tgt := 493) hx hb dL_law_488 (by decide) (fun c3 => ?_) (fun c3 => absurd (by rw [e5]; exact (lg_cmp_eq _ _).mpr rfl) c3)
    refine lv_goto (tgt := 1604) hx hb dL_law_493 (by decide) ?_
    exact W.widen (by omega) (by omega) (kk sg10 H locs ls hR hW hS (lv_sub hl [2, 3, 4, 5, 6] rfl))

set_option maxHeartbeats 4000000 in
set_option maxRecDepth 100000 in
theorem lo_find (F : kx_F p s m c cL_law 7 RL #[Value.ref b] wsL_law G s.heap.size) (hlf : l.stackTraces = false) (hX : va_X b L xs s s.heap) (hbl : b < s.heap.size) (hi : i + 4 ≤ L) (hL : L ≤ 2048) (hcl : cells + 60 ≤ 601024) (hsl : slots + 1000 ≤ 7293034) (hR : rl_PT nb sg sg) (hW : kx_Wd G s.heap.size ad nb sg H) (hS : va_S (kx_Ad s.heap.size) s.heap H locs) (hl : lv_has ls 7 [(4, .int (nI i)), (3, .ref (ad 32 0)), (2, .ref (ad 14 0)), (1, .ref (ad 0 0)), (0, .ref b)]) (kk : ∀ (sg1 : kx_S) (H1 : Heap) (locs1 : List Loc) (ls1 : Array Slot), rl_PT nb sg1 sg1 → kx_Wd G s.heap.size ad nb sg1 H1 → va_S (kx_Ad s.heap.size) s.heap H1 locs1 → lv_has ls1 7 [(4, .int (nI i)), (3, .ref (ad 32 0)), (2, .ref (ad 14 0)), (1, .ref (ad 0 0)), (0, .ref b)] → W p l e room_1 s m #[Value.ref b] below meth c H1 locs1 (cells + 60) (slots + 1000) Q (F0 m 1604 ls1 [])) : W p l e room_1 s m #[Value.ref b] below meth c H locs cells slots Q (F0 m 496 ls []) := by
  have hx := F.1; have hb := F.2.1
  have hC := rl_CI hR.1 hR.2.1.1
  have hR0 := hR
  refine lv_aload_n hx hb dL_law_496 rfl (lv_at hl 3 rfl) ?_
  refine lv_aload_n hx hb dL_law_497 rfl (lv_at hl 4 rfl) ?_
  refine lv_iload hx hb dL_law_498 (lv_at hl 0 rfl) ?_
  refine lv_iconst (v := 1) hx hb dL_law_500 (by decide) ?_
  refine lv_iadd hx hb dL_law_501 ?_
  rw [lo_n1 i]
  refine va_sld hx hb hX hbl (Nat.not_le.mpr hbl) hS (vp_in_nI (by omega) (by omega)) dL_law_502 ?_
  rw [nI_clamp (n := i + 1) (by omega)]
  refine lv_aload_n hx hb dL_law_503 rfl (lv_at hl 4 rfl) ?_
  refine lv_iload hx hb dL_law_504 (lv_at hl 0 rfl) ?_
  refine lv_iconst (v := 2) hx hb dL_law_506 (by decide) ?_
  refine lv_iadd hx hb dL_law_507 ?_
  rw [lo_n2 i]
  refine va_sld hx hb hX hbl (Nat.not_le.mpr hbl) hS (vp_in_nI (by omega) (by omega)) dL_law_508 ?_
  rw [nI_clamp (n := i + 2) (by omega)]
  refine lv_aload_n hx hb dL_law_509 rfl (lv_at hl 1 rfl) ?_
  refine kx_xSH (na := 4) F (c_L_find l hlf G s.heap.size ad nb sg hC (xs (i + 1)) (xs (i + 2))) gL_law_L_find rfl (by decide +kernel) ⟨Nat.le_of_ble_eq_true rfl, Nat.le_of_ble_eq_true rfl⟩ hW hS (As := [.ref (ad 0 0), .int (xs (i + 1)), .int (xs (i + 2)), .ref (ad 32 0)]) (rest := []) rfl hl.1 rfl (Nat.le_of_ble_eq_true rfl) dL_law_510 ⟨by show _ ≤ 601024; omega, by show _ ≤ 7293034; omega⟩ (fun E9 ce9 q9 H locs hp9 hW hS h7 h8 h9 => hp9.elim) (fun r9 sg9 H locs hq hW hS => ?_)
  obtain ⟨hR9, k9, hk9⟩ := lq_find (x := (xs (i + 1))) (y := (xs (i + 2))) hR hq
  subst hk9
  refine W.eq (g2 := F0 m 513 ls [.int k9]) rfl ?_
  refine lv_istore (lv' := [(5, .int k9), (4, .int (nI i)), (3, .ref (ad 32 0)), (2, .ref (ad 14 0)), (1, .ref (ad 0 0)), (0, .ref b)]) hx hb dL_law_513 hl (by decide) rfl (fun ls hl => ?_)
  refine lv_aload_n hx hb dL_law_515 rfl (lv_at hl 3 rfl) ?_
  refine lv_aload_n hx hb dL_law_516 rfl (lv_at hl 5 rfl) ?_
  refine lv_iload hx hb dL_law_517 (lv_at hl 1 rfl) ?_
  refine lv_iconst (v := 1) hx hb dL_law_519 (by decide) ?_
  refine lv_iadd hx hb dL_law_520 ?_
  rw [lo_n1 i]
  refine va_sld hx hb hX hbl (Nat.not_le.mpr hbl) hS (vp_in_nI (by omega) (by omega)) dL_law_521 ?_
  rw [nI_clamp (n := i + 1) (by omega)]
  refine lv_aload_n hx hb dL_law_522 rfl (lv_at hl 5 rfl) ?_
  refine lv_iload hx hb dL_law_523 (lv_at hl 1 rfl) ?_
  refine lv_iconst (v := 2) hx hb dL_law_525 (by decide) ?_
  refine lv_iadd hx hb dL_law_526 ?_
  rw [lo_n2 i]
  refine va_sld hx hb hX hbl (Nat.not_le.mpr hbl) hS (vp_in_nI (by omega) (by omega)) dL_law_527 ?_
  rw [nI_clamp (n := i + 2) (by omega)]
  refine kx_cV (na := 2) F (q := 14) (n := 0) (c_X4_find l G s.heap.size ad nb sg9 nb (rl_tmWF hR9.1) (xs (i + 1)) (xs (i + 2))) gL_law_X4_find rfl (by decide +kernel) ⟨Nat.le_of_ble_eq_true rfl, Nat.le_of_ble_eq_true rfl⟩ hW hS ⟨by decide, rfl⟩ rfl rfl (As := [.int (xs (i + 1)), .int (xs (i + 2))]) (rest := []) rfl hl.1 rfl (Nat.le_of_ble_eq_true rfl) dL_law_528 ⟨by show _ ≤ 601024; omega, by show _ ≤ 7293034; omega⟩ (fun r10 sg10 H locs hm hW hS => ?_)
  obtain ⟨k1, b1, e1, e2, e3, e4, hR⟩ := lp_find (x := (xs (i + 1))) (y := (xs (i + 2))) hR0 hq hm
  subst e2
  have ek : k9 = k1 := Value.int.inj (Option.some.inj e1)
  rw [← ek] at e3 e4
  refine W.eq (g2 := F0 m 531 ls [.int b1]) rfl ?_
  refine lv_istore (lv' := [(6, .int b1), (5, .int k9), (4, .int (nI i)), (3, .ref (ad 32 0)), (2, .ref (ad 14 0)), (1, .ref (ad 0 0)), (0, .ref b)]) hx hb dL_law_531 hl (by decide) rfl (fun ls hl => ?_)
  refine lv_aload_n hx hb dL_law_533 rfl (lv_at hl 4 rfl) ?_
  refine kx_cV (na := 0) F (q := 14) (n := 0) (c_X4_thrown l G s.heap.size ad nb sg10) gL_law_X4_thrown rfl (by decide +kernel) ⟨Nat.le_of_ble_eq_true rfl, Nat.le_of_ble_eq_true rfl⟩ hW hS ⟨by decide, rfl⟩ rfl rfl (As := []) (rest := []) rfl hl.1 rfl (Nat.le_of_ble_eq_true rfl) dL_law_534 ⟨by show _ ≤ 601024; omega, by show _ ≤ 7293034; omega⟩ (fun r11 sg11 H locs hq11 hW hS => ?_)
  obtain ⟨rfl, e11⟩ := hq11
  rw [e11] at hW
  refine W.eq (g2 := F0 m 537 ls [.int (sg10 14 0 22)]) rfl ?_
  rw [e3]
  refine lv_iload hx hb dL_law_537 (lv_at hl 1 rfl) ?_
  refine lv_icmp_eq (tgt := 544) hx hb dL_law_539 (by decide) (fun c1 => ?_) (fun c1 => absurd rfl c1)
  refine lv_iload hx hb dL_law_544 (lv_at hl 1 rfl) ?_
  refine lv_if_ne (tgt := 561) hx hb dL_law_546 (by decide) (fun c2 => ?_) (fun c2 => ?_)
  · refine lv_goto (tgt := 1604) hx hb dL_law_561 (by decide) ?_
    exact W.widen (by omega) (by omega) (kk sg10 H locs ls hR hW hS (lv_sub hl [2, 3, 4, 5, 6] rfl))
  · have e5 := e4 c2
    refine lv_aload_n hx hb dL_law_549 rfl (lv_at hl 3 rfl) ?_
    refine lv_iconst (v := 0) hx hb dL_law_550 (by decide) ?_
    refine kx_lald F hW dL_law_551 ?_
    refine lv_iload hx hb dL_law_552 (lv_at hl 0 rfl) ?_
    refine lv_i2l (v := b1.toInt64) hx hb dL_law_554 rfl ?_
    refine W.lcmp hx hb dL_law_555 ?_
    refine lv_if_eq (tgt := 561) hx hb dL_law_556 (by decide) (fun c3 => ?_) (fun c3 => absurd (by rw [e5]; exact (lg_cmp_eq _ _).mpr rfl) c3)
    refine lv_goto (tgt := 1604) hx hb dL_law_561 (by decide) ?_
    exact W.widen (by omega) (by omega) (kk sg10 H locs ls hR hW hS (lv_sub hl [2, 3, 4, 5, 6] rfl))

set_option maxHeartbeats 4000000 in
set_option maxRecDepth 100000 in
theorem lo_setDoor (F : kx_F p s m c cL_law 7 RL #[Value.ref b] wsL_law G s.heap.size) (hlf : l.stackTraces = false) (hX : va_X b L xs s s.heap) (hbl : b < s.heap.size) (hi : i + 4 ≤ L) (hL : L ≤ 2048) (hcl : cells + 60 ≤ 601024) (hsl : slots + 1000 ≤ 7293034) (hR : rl_PT nb sg sg) (hW : kx_Wd G s.heap.size ad nb sg H) (hS : va_S (kx_Ad s.heap.size) s.heap H locs) (hl : lv_has ls 7 [(4, .int (nI i)), (3, .ref (ad 32 0)), (2, .ref (ad 14 0)), (1, .ref (ad 0 0)), (0, .ref b)]) (kk : ∀ (sg1 : kx_S) (H1 : Heap) (locs1 : List Loc) (ls1 : Array Slot), rl_PT nb sg1 sg1 → kx_Wd G s.heap.size ad nb sg1 H1 → va_S (kx_Ad s.heap.size) s.heap H1 locs1 → lv_has ls1 7 [(4, .int (nI i)), (3, .ref (ad 32 0)), (2, .ref (ad 14 0)), (1, .ref (ad 0 0)), (0, .ref b)] → W p l e room_1 s m #[Value.ref b] below meth c H1 locs1 (cells + 60) (slots + 1000) Q (F0 m 1604 ls1 [])) : W p l e room_1 s m #[Value.ref b] below meth c H locs cells slots Q (F0 m 564 ls []) := by
  have hx := F.1; have hb := F.2.1
  have hC := rl_CI hR.1 hR.2.1.1
  have hR0 := hR
  refine lv_aload_n hx hb dL_law_564 rfl (lv_at hl 3 rfl) ?_
  refine lv_aload_n hx hb dL_law_565 rfl (lv_at hl 4 rfl) ?_
  refine lv_iload hx hb dL_law_566 (lv_at hl 0 rfl) ?_
  refine lv_iconst (v := 1) hx hb dL_law_568 (by decide) ?_
  refine lv_iadd hx hb dL_law_569 ?_
  rw [lo_n1 i]
  refine va_sld hx hb hX hbl (Nat.not_le.mpr hbl) hS (vp_in_nI (by omega) (by omega)) dL_law_570 ?_
  rw [nI_clamp (n := i + 1) (by omega)]
  refine lv_aload_n hx hb dL_law_571 rfl (lv_at hl 4 rfl) ?_
  refine lv_iload hx hb dL_law_572 (lv_at hl 0 rfl) ?_
  refine lv_iconst (v := 2) hx hb dL_law_574 (by decide) ?_
  refine lv_iadd hx hb dL_law_575 ?_
  rw [lo_n2 i]
  refine va_sld hx hb hX hbl (Nat.not_le.mpr hbl) hS (vp_in_nI (by omega) (by omega)) dL_law_576 ?_
  rw [nI_clamp (n := i + 2) (by omega)]
  refine lv_aload_n hx hb dL_law_577 rfl (lv_at hl 1 rfl) ?_
  refine kx_xSH (na := 4) F (c_L_setDoor l hlf G s.heap.size ad nb sg hC (xs (i + 1)) (xs (i + 2))) gL_law_L_setDoor rfl (by decide +kernel) ⟨Nat.le_of_ble_eq_true rfl, Nat.le_of_ble_eq_true rfl⟩ hW hS (As := [.ref (ad 0 0), .int (xs (i + 1)), .int (xs (i + 2)), .ref (ad 32 0)]) (rest := []) rfl hl.1 rfl (Nat.le_of_ble_eq_true rfl) dL_law_578 ⟨by show _ ≤ 601024; omega, by show _ ≤ 7293034; omega⟩ (fun E9 ce9 q9 H locs hp9 hW hS h7 h8 h9 => hp9.elim) (fun r9 sg9 H locs hq hW hS => ?_)
  obtain ⟨hR9, k9, hk9⟩ := lq_setDoor (x := (xs (i + 1))) (y := (xs (i + 2))) hR hq
  subst hk9
  refine W.eq (g2 := F0 m 581 ls [.int k9]) rfl ?_
  refine lv_istore (lv' := [(5, .int k9), (4, .int (nI i)), (3, .ref (ad 32 0)), (2, .ref (ad 14 0)), (1, .ref (ad 0 0)), (0, .ref b)]) hx hb dL_law_581 hl (by decide) rfl (fun ls hl => ?_)
  refine lv_aload_n hx hb dL_law_583 rfl (lv_at hl 3 rfl) ?_
  refine lv_aload_n hx hb dL_law_584 rfl (lv_at hl 5 rfl) ?_
  refine lv_iload hx hb dL_law_585 (lv_at hl 1 rfl) ?_
  refine lv_iconst (v := 1) hx hb dL_law_587 (by decide) ?_
  refine lv_iadd hx hb dL_law_588 ?_
  rw [lo_n1 i]
  refine va_sld hx hb hX hbl (Nat.not_le.mpr hbl) hS (vp_in_nI (by omega) (by omega)) dL_law_589 ?_
  rw [nI_clamp (n := i + 1) (by omega)]
  refine lv_aload_n hx hb dL_law_590 rfl (lv_at hl 5 rfl) ?_
  refine lv_iload hx hb dL_law_591 (lv_at hl 1 rfl) ?_
  refine lv_iconst (v := 2) hx hb dL_law_593 (by decide) ?_
  refine lv_iadd hx hb dL_law_594 ?_
  rw [lo_n2 i]
  refine va_sld hx hb hX hbl (Nat.not_le.mpr hbl) hS (vp_in_nI (by omega) (by omega)) dL_law_595 ?_
  rw [nI_clamp (n := i + 2) (by omega)]
  refine kx_cV (na := 2) F (q := 14) (n := 0) (c_X4_setDoor l G s.heap.size ad nb sg9 nb (rl_tmWF hR9.1) (xs (i + 1)) (xs (i + 2))) gL_law_X4_setDoor rfl (by decide +kernel) ⟨Nat.le_of_ble_eq_true rfl, Nat.le_of_ble_eq_true rfl⟩ hW hS ⟨by decide, rfl⟩ rfl rfl (As := [.int (xs (i + 1)), .int (xs (i + 2))]) (rest := []) rfl hl.1 rfl (Nat.le_of_ble_eq_true rfl) dL_law_596 ⟨by show _ ≤ 601024; omega, by show _ ≤ 7293034; omega⟩ (fun r10 sg10 H locs hm hW hS => ?_)
  obtain ⟨k1, b1, e1, e2, e3, e4, hR⟩ := lp_setDoor (x := (xs (i + 1))) (y := (xs (i + 2))) hR0 hq hm
  subst e2
  have ek : k9 = k1 := Value.int.inj (Option.some.inj e1)
  rw [← ek] at e3 e4
  refine W.eq (g2 := F0 m 599 ls [.int b1]) rfl ?_
  refine lv_istore (lv' := [(6, .int b1), (5, .int k9), (4, .int (nI i)), (3, .ref (ad 32 0)), (2, .ref (ad 14 0)), (1, .ref (ad 0 0)), (0, .ref b)]) hx hb dL_law_599 hl (by decide) rfl (fun ls hl => ?_)
  refine lv_aload_n hx hb dL_law_601 rfl (lv_at hl 4 rfl) ?_
  refine kx_cV (na := 0) F (q := 14) (n := 0) (c_X4_thrown l G s.heap.size ad nb sg10) gL_law_X4_thrown rfl (by decide +kernel) ⟨Nat.le_of_ble_eq_true rfl, Nat.le_of_ble_eq_true rfl⟩ hW hS ⟨by decide, rfl⟩ rfl rfl (As := []) (rest := []) rfl hl.1 rfl (Nat.le_of_ble_eq_true rfl) dL_law_602 ⟨by show _ ≤ 601024; omega, by show _ ≤ 7293034; omega⟩ (fun r11 sg11 H locs hq11 hW hS => ?_)
  obtain ⟨rfl, e11⟩ := hq11
  rw [e11] at hW
  refine W.eq (g2 := F0 m 605 ls [.int (sg10 14 0 22)]) rfl ?_
  rw [e3]
  refine lv_iload hx hb dL_law_605 (lv_at hl 1 rfl) ?_
  refine lv_icmp_eq (tgt := 612) hx hb dL_law_607 (by decide) (fun c1 => ?_) (fun c1 => absurd rfl c1)
  refine lv_iload hx hb dL_law_612 (lv_at hl 1 rfl) ?_
  refine lv_if_ne (tgt := 629) hx hb dL_law_614 (by decide) (fun c2 => ?_) (fun c2 => ?_)
  · refine lv_goto (tgt := 1604) hx hb dL_law_629 (by decide) ?_
    exact W.widen (by omega) (by omega) (kk sg10 H locs ls hR hW hS (lv_sub hl [2, 3, 4, 5, 6] rfl))
  · have e5 := e4 c2
    refine lv_aload_n hx hb dL_law_617 rfl (lv_at hl 3 rfl) ?_
    refine lv_iconst (v := 0) hx hb dL_law_618 (by decide) ?_
    refine kx_lald F hW dL_law_619 ?_
    refine lv_iload hx hb dL_law_620 (lv_at hl 0 rfl) ?_
    refine lv_i2l (v := b1.toInt64) hx hb dL_law_622 rfl ?_
    refine W.lcmp hx hb dL_law_623 ?_
    refine lv_if_eq (tgt := 629) hx hb dL_law_624 (by decide) (fun c3 => ?_) (fun c3 => absurd (by rw [e5]; exact (lg_cmp_eq _ _).mpr rfl) c3)
    refine lv_goto (tgt := 1604) hx hb dL_law_629 (by decide) ?_
    exact W.widen (by omega) (by omega) (kk sg10 H locs ls hR hW hS (lv_sub hl [2, 3, 4, 5, 6] rfl))

set_option maxHeartbeats 4000000 in
set_option maxRecDepth 100000 in
theorem lo_keep (F : kx_F p s m c cL_law 7 RL #[Value.ref b] wsL_law G s.heap.size) (hlf : l.stackTraces = false) (hX : va_X b L xs s s.heap) (hbl : b < s.heap.size) (hi : i + 4 ≤ L) (hL : L ≤ 2048) (hcl : cells + 60 ≤ 601024) (hsl : slots + 1000 ≤ 7293034) (hR : rl_PT nb sg sg) (hW : kx_Wd G s.heap.size ad nb sg H) (hS : va_S (kx_Ad s.heap.size) s.heap H locs) (hl : lv_has ls 7 [(4, .int (nI i)), (3, .ref (ad 32 0)), (2, .ref (ad 14 0)), (1, .ref (ad 0 0)), (0, .ref b)]) (kk : ∀ (sg1 : kx_S) (H1 : Heap) (locs1 : List Loc) (ls1 : Array Slot), rl_PT nb sg1 sg1 → kx_Wd G s.heap.size ad nb sg1 H1 → va_S (kx_Ad s.heap.size) s.heap H1 locs1 → lv_has ls1 7 [(4, .int (nI i)), (3, .ref (ad 32 0)), (2, .ref (ad 14 0)), (1, .ref (ad 0 0)), (0, .ref b)] → W p l e room_1 s m #[Value.ref b] below meth c H1 locs1 (cells + 60) (slots + 1000) Q (F0 m 1604 ls1 [])) : W p l e room_1 s m #[Value.ref b] below meth c H locs cells slots Q (F0 m 632 ls []) := by
  have hx := F.1; have hb := F.2.1
  have hC := rl_CI hR.1 hR.2.1.1
  have hR0 := hR
  refine lv_aload_n hx hb dL_law_632 rfl (lv_at hl 3 rfl) ?_
  refine lv_aload_n hx hb dL_law_633 rfl (lv_at hl 4 rfl) ?_
  refine lv_iload hx hb dL_law_634 (lv_at hl 0 rfl) ?_
  refine lv_iconst (v := 1) hx hb dL_law_636 (by decide) ?_
  refine lv_iadd hx hb dL_law_637 ?_
  rw [lo_n1 i]
  refine va_sld hx hb hX hbl (Nat.not_le.mpr hbl) hS (vp_in_nI (by omega) (by omega)) dL_law_638 ?_
  rw [nI_clamp (n := i + 1) (by omega)]
  refine lv_aload_n hx hb dL_law_639 rfl (lv_at hl 4 rfl) ?_
  refine lv_iload hx hb dL_law_640 (lv_at hl 0 rfl) ?_
  refine lv_iconst (v := 2) hx hb dL_law_642 (by decide) ?_
  refine lv_iadd hx hb dL_law_643 ?_
  rw [lo_n2 i]
  refine va_sld hx hb hX hbl (Nat.not_le.mpr hbl) hS (vp_in_nI (by omega) (by omega)) dL_law_644 ?_
  rw [nI_clamp (n := i + 2) (by omega)]
  refine lv_aload_n hx hb dL_law_645 rfl (lv_at hl 1 rfl) ?_
  refine kx_xSH (na := 4) F (c_L_keep l hlf G s.heap.size ad nb sg hC (xs (i + 1)) (xs (i + 2))) gL_law_L_keep rfl (by decide +kernel) ⟨Nat.le_of_ble_eq_true rfl, Nat.le_of_ble_eq_true rfl⟩ hW hS (As := [.ref (ad 0 0), .int (xs (i + 1)), .int (xs (i + 2)), .ref (ad 32 0)]) (rest := []) rfl hl.1 rfl (Nat.le_of_ble_eq_true rfl) dL_law_646 ⟨by show _ ≤ 601024; omega, by show _ ≤ 7293034; omega⟩ (fun E9 ce9 q9 H locs hp9 hW hS h7 h8 h9 => hp9.elim) (fun r9 sg9 H locs hq hW hS => ?_)
  obtain ⟨hR9, k9, hk9⟩ := lq_keep (x := (xs (i + 1))) (y := (xs (i + 2))) hR hq
  subst hk9
  refine W.eq (g2 := F0 m 649 ls [.int k9]) rfl ?_
  refine lv_istore (lv' := [(5, .int k9), (4, .int (nI i)), (3, .ref (ad 32 0)), (2, .ref (ad 14 0)), (1, .ref (ad 0 0)), (0, .ref b)]) hx hb dL_law_649 hl (by decide) rfl (fun ls hl => ?_)
  refine lv_aload_n hx hb dL_law_651 rfl (lv_at hl 3 rfl) ?_
  refine lv_aload_n hx hb dL_law_652 rfl (lv_at hl 5 rfl) ?_
  refine lv_iload hx hb dL_law_653 (lv_at hl 1 rfl) ?_
  refine lv_iconst (v := 1) hx hb dL_law_655 (by decide) ?_
  refine lv_iadd hx hb dL_law_656 ?_
  rw [lo_n1 i]
  refine va_sld hx hb hX hbl (Nat.not_le.mpr hbl) hS (vp_in_nI (by omega) (by omega)) dL_law_657 ?_
  rw [nI_clamp (n := i + 1) (by omega)]
  refine lv_aload_n hx hb dL_law_658 rfl (lv_at hl 5 rfl) ?_
  refine lv_iload hx hb dL_law_659 (lv_at hl 1 rfl) ?_
  refine lv_iconst (v := 2) hx hb dL_law_661 (by decide) ?_
  refine lv_iadd hx hb dL_law_662 ?_
  rw [lo_n2 i]
  refine va_sld hx hb hX hbl (Nat.not_le.mpr hbl) hS (vp_in_nI (by omega) (by omega)) dL_law_663 ?_
  rw [nI_clamp (n := i + 2) (by omega)]
  refine kx_cV (na := 2) F (q := 14) (n := 0) (c_X4_keep l G s.heap.size ad nb sg9 nb (rl_tmWF hR9.1) (xs (i + 1)) (xs (i + 2))) gL_law_X4_keep rfl (by decide +kernel) ⟨Nat.le_of_ble_eq_true rfl, Nat.le_of_ble_eq_true rfl⟩ hW hS ⟨by decide, rfl⟩ rfl rfl (As := [.int (xs (i + 1)), .int (xs (i + 2))]) (rest := []) rfl hl.1 rfl (Nat.le_of_ble_eq_true rfl) dL_law_664 ⟨by show _ ≤ 601024; omega, by show _ ≤ 7293034; omega⟩ (fun r10 sg10 H locs hm hW hS => ?_)
  obtain ⟨k1, b1, e1, e2, e3, e4, hR⟩ := lp_keep (x := (xs (i + 1))) (y := (xs (i + 2))) hR0 hq hm
  subst e2
  have ek : k9 = k1 := Value.int.inj (Option.some.inj e1)
  rw [← ek] at e3 e4
  refine W.eq (g2 := F0 m 667 ls [.int b1]) rfl ?_
  refine lv_istore (lv' := [(6, .int b1), (5, .int k9), (4, .int (nI i)), (3, .ref (ad 32 0)), (2, .ref (ad 14 0)), (1, .ref (ad 0 0)), (0, .ref b)]) hx hb dL_law_667 hl (by decide) rfl (fun ls hl => ?_)
  refine lv_aload_n hx hb dL_law_669 rfl (lv_at hl 4 rfl) ?_
  refine kx_cV (na := 0) F (q := 14) (n := 0) (c_X4_thrown l G s.heap.size ad nb sg10) gL_law_X4_thrown rfl (by decide +kernel) ⟨Nat.le_of_ble_eq_true rfl, Nat.le_of_ble_eq_true rfl⟩ hW hS ⟨by decide, rfl⟩ rfl rfl (As := []) (rest := []) rfl hl.1 rfl (Nat.le_of_ble_eq_true rfl) dL_law_670 ⟨by show _ ≤ 601024; omega, by show _ ≤ 7293034; omega⟩ (fun r11 sg11 H locs hq11 hW hS => ?_)
  obtain ⟨rfl, e11⟩ := hq11
  rw [e11] at hW
  refine W.eq (g2 := F0 m 673 ls [.int (sg10 14 0 22)]) rfl ?_
  rw [e3]
  refine lv_iload hx hb dL_law_673 (lv_at hl 1 rfl) ?_
  refine lv_icmp_eq (tgt := 680) hx hb dL_law_675 (by decide) (fun c1 => ?_) (fun c1 => absurd rfl c1)
  refine lv_iload hx hb dL_law_680 (lv_at hl 1 rfl) ?_
  refine lv_if_ne (tgt := 697) hx hb dL_law_682 (by decide) (fun c2 => ?_) (fun c2 => ?_)
  · refine lv_goto (tgt := 1604) hx hb dL_law_697 (by decide) ?_
    exact W.widen (by omega) (by omega) (kk sg10 H locs ls hR hW hS (lv_sub hl [2, 3, 4, 5, 6] rfl))
  · have e5 := e4 c2
    refine lv_aload_n hx hb dL_law_685 rfl (lv_at hl 3 rfl) ?_
    refine lv_iconst (v := 0) hx hb dL_law_686 (by decide) ?_
    refine kx_lald F hW dL_law_687 ?_
    refine lv_iload hx hb dL_law_688 (lv_at hl 0 rfl) ?_
    refine lv_i2l (v := b1.toInt64) hx hb dL_law_690 rfl ?_
    refine W.lcmp hx hb dL_law_691 ?_
    refine lv_if_eq (tgt := 697) hx hb dL_law_692 (by decide) (fun c3 => ?_) (fun c3 => absurd (by rw [e5]; exact (lg_cmp_eq _ _).mpr rfl) c3)
    refine lv_goto (tgt := 1604) hx hb dL_law_697 (by decide) ?_
    exact W.widen (by omega) (by omega) (kk sg10 H locs ls hR hW hS (lv_sub hl [2, 3, 4, 5, 6] rfl))

set_option maxHeartbeats 4000000 in
set_option maxRecDepth 100000 in
theorem lo_open (F : kx_F p s m c cL_law 7 RL #[Value.ref b] wsL_law G s.heap.size) (hlf : l.stackTraces = false) (hX : va_X b L xs s s.heap) (hbl : b < s.heap.size) (hi : i + 4 ≤ L) (hL : L ≤ 2048) (hcl : cells + 60 ≤ 601024) (hsl : slots + 1000 ≤ 7293034) (hR : rl_PT nb sg sg) (hW : kx_Wd G s.heap.size ad nb sg H) (hS : va_S (kx_Ad s.heap.size) s.heap H locs) (hl : lv_has ls 7 [(4, .int (nI i)), (3, .ref (ad 32 0)), (2, .ref (ad 14 0)), (1, .ref (ad 0 0)), (0, .ref b)]) (kk : ∀ (sg1 : kx_S) (H1 : Heap) (locs1 : List Loc) (ls1 : Array Slot), rl_PT nb sg1 sg1 → kx_Wd G s.heap.size ad nb sg1 H1 → va_S (kx_Ad s.heap.size) s.heap H1 locs1 → lv_has ls1 7 [(4, .int (nI i)), (3, .ref (ad 32 0)), (2, .ref (ad 14 0)), (1, .ref (ad 0 0)), (0, .ref b)] → W p l e room_1 s m #[Value.ref b] below meth c H1 locs1 (cells + 60) (slots + 1000) Q (F0 m 1604 ls1 [])) : W p l e room_1 s m #[Value.ref b] below meth c H locs cells slots Q (F0 m 700 ls []) := by
  have hx := F.1; have hb := F.2.1
  have hC := rl_CI hR.1 hR.2.1.1
  have hR0 := hR
  refine lv_aload_n hx hb dL_law_700 rfl (lv_at hl 3 rfl) ?_
  refine lv_aload_n hx hb dL_law_701 rfl (lv_at hl 4 rfl) ?_
  refine lv_iload hx hb dL_law_702 (lv_at hl 0 rfl) ?_
  refine lv_iconst (v := 1) hx hb dL_law_704 (by decide) ?_
  refine lv_iadd hx hb dL_law_705 ?_
  rw [lo_n1 i]
  refine va_sld hx hb hX hbl (Nat.not_le.mpr hbl) hS (vp_in_nI (by omega) (by omega)) dL_law_706 ?_
  rw [nI_clamp (n := i + 1) (by omega)]
  refine lv_aload_n hx hb dL_law_707 rfl (lv_at hl 4 rfl) ?_
  refine lv_iload hx hb dL_law_708 (lv_at hl 0 rfl) ?_
  refine lv_iconst (v := 2) hx hb dL_law_710 (by decide) ?_
  refine lv_iadd hx hb dL_law_711 ?_
  rw [lo_n2 i]
  refine va_sld hx hb hX hbl (Nat.not_le.mpr hbl) hS (vp_in_nI (by omega) (by omega)) dL_law_712 ?_
  rw [nI_clamp (n := i + 2) (by omega)]
  refine lv_aload_n hx hb dL_law_713 rfl (lv_at hl 1 rfl) ?_
  refine kx_xSH (na := 4) F (c_L_open l hlf G s.heap.size ad nb sg hC (xs (i + 1)) (xs (i + 2))) gL_law_L_open rfl (by decide +kernel) ⟨Nat.le_of_ble_eq_true rfl, Nat.le_of_ble_eq_true rfl⟩ hW hS (As := [.ref (ad 0 0), .int (xs (i + 1)), .int (xs (i + 2)), .ref (ad 32 0)]) (rest := []) rfl hl.1 rfl (Nat.le_of_ble_eq_true rfl) dL_law_714 ⟨by show _ ≤ 601024; omega, by show _ ≤ 7293034; omega⟩ (fun E9 ce9 q9 H locs hp9 hW hS h7 h8 h9 => hp9.elim) (fun r9 sg9 H locs hq hW hS => ?_)
  obtain ⟨hR9, k9, hk9⟩ := lq_open (x := (xs (i + 1))) (y := (xs (i + 2))) hR hq
  subst hk9
  refine W.eq (g2 := F0 m 717 ls [.int k9]) rfl ?_
  refine lv_istore (lv' := [(5, .int k9), (4, .int (nI i)), (3, .ref (ad 32 0)), (2, .ref (ad 14 0)), (1, .ref (ad 0 0)), (0, .ref b)]) hx hb dL_law_717 hl (by decide) rfl (fun ls hl => ?_)
  refine lv_aload_n hx hb dL_law_719 rfl (lv_at hl 3 rfl) ?_
  refine lv_aload_n hx hb dL_law_720 rfl (lv_at hl 5 rfl) ?_
  refine lv_iload hx hb dL_law_721 (lv_at hl 1 rfl) ?_
  refine lv_iconst (v := 1) hx hb dL_law_723 (by decide) ?_
  refine lv_iadd hx hb dL_law_724 ?_
  rw [lo_n1 i]
  refine va_sld hx hb hX hbl (Nat.not_le.mpr hbl) hS (vp_in_nI (by omega) (by omega)) dL_law_725 ?_
  rw [nI_clamp (n := i + 1) (by omega)]
  refine lv_aload_n hx hb dL_law_726 rfl (lv_at hl 5 rfl) ?_
  refine lv_iload hx hb dL_law_727 (lv_at hl 1 rfl) ?_
  refine lv_iconst (v := 2) hx hb dL_law_729 (by decide) ?_
  refine lv_iadd hx hb dL_law_730 ?_
  rw [lo_n2 i]
  refine va_sld hx hb hX hbl (Nat.not_le.mpr hbl) hS (vp_in_nI (by omega) (by omega)) dL_law_731 ?_
  rw [nI_clamp (n := i + 2) (by omega)]
  refine kx_cV (na := 2) F (q := 14) (n := 0) (c_X4_open l G s.heap.size ad nb sg9 nb (rl_tmWF hR9.1) (fun d hd => (hR9.1.2.2.2.2.2.2.2.2.1 d hd).2.2.2.2.1) (xs (i + 1)) (xs (i + 2))) gL_law_X4_open rfl (by decide +kernel) ⟨Nat.le_of_ble_eq_true rfl, Nat.le_of_ble_eq_true rfl⟩ hW hS ⟨by decide, rfl⟩ rfl rfl (As := [.int (xs (i + 1)), .int (xs (i + 2))]) (rest := []) rfl hl.1 rfl (Nat.le_of_ble_eq_true rfl) dL_law_732 ⟨by show _ ≤ 601024; omega, by show _ ≤ 7293034; omega⟩ (fun r10 sg10 H locs hm hW hS => ?_)
  obtain ⟨k1, b1, e1, e2, e3, e4, hR⟩ := lp_open (x := (xs (i + 1))) (y := (xs (i + 2))) hR0 hq hm
  subst e2
  have ek : k9 = k1 := Value.int.inj (Option.some.inj e1)
  rw [← ek] at e3 e4
  refine W.eq (g2 := F0 m 735 ls [.int b1]) rfl ?_
  refine lv_istore (lv' := [(6, .int b1), (5, .int k9), (4, .int (nI i)), (3, .ref (ad 32 0)), (2, .ref (ad 14 0)), (1, .ref (ad 0 0)), (0, .ref b)]) hx hb dL_law_735 hl (by decide) rfl (fun ls hl => ?_)
  refine lv_aload_n hx hb dL_law_737 rfl (lv_at hl 4 rfl) ?_
  refine kx_cV (na := 0) F (q := 14) (n := 0) (c_X4_thrown l G s.heap.size ad nb sg10) gL_law_X4_thrown rfl (by decide +kernel) ⟨Nat.le_of_ble_eq_true rfl, Nat.le_of_ble_eq_true rfl⟩ hW hS ⟨by decide, rfl⟩ rfl rfl (As := []) (rest := []) rfl hl.1 rfl (Nat.le_of_ble_eq_true rfl) dL_law_738 ⟨by show _ ≤ 601024; omega, by show _ ≤ 7293034; omega⟩ (fun r11 sg11 H locs hq11 hW hS => ?_)
  obtain ⟨rfl, e11⟩ := hq11
  rw [e11] at hW
  refine W.eq (g2 := F0 m 741 ls [.int (sg10 14 0 22)]) rfl ?_
  rw [e3]
  refine lv_iload hx hb dL_law_741 (lv_at hl 1 rfl) ?_
  refine lv_icmp_eq (tgt := 748) hx hb dL_law_743 (by decide) (fun c1 => ?_) (fun c1 => absurd rfl c1)
  refine lv_iload hx hb dL_law_748 (lv_at hl 1 rfl) ?_
  refine lv_if_ne (tgt := 765) hx hb dL_law_750 (by decide) (fun c2 => ?_) (fun c2 => ?_)
  · refine lv_goto (tgt := 1604) hx hb dL_law_765 (by decide) ?_
    exact W.widen (by omega) (by omega) (kk sg10 H locs ls hR hW hS (lv_sub hl [2, 3, 4, 5, 6] rfl))
  · have e5 := e4 c2
    refine lv_aload_n hx hb dL_law_753 rfl (lv_at hl 3 rfl) ?_
    refine lv_iconst (v := 0) hx hb dL_law_754 (by decide) ?_
    refine kx_lald F hW dL_law_755 ?_
    refine lv_iload hx hb dL_law_756 (lv_at hl 0 rfl) ?_
    refine lv_i2l (v := b1.toInt64) hx hb dL_law_758 rfl ?_
    refine W.lcmp hx hb dL_law_759 ?_
    refine lv_if_eq (tgt := 765) hx hb dL_law_760 (by decide) (fun c3 => ?_) (fun c3 => absurd (by rw [e5]; exact (lg_cmp_eq _ _).mpr rfl) c3)
    refine lv_goto (tgt := 1604) hx hb dL_law_765 (by decide) ?_
    exact W.widen (by omega) (by omega) (kk sg10 H locs ls hR hW hS (lv_sub hl [2, 3, 4, 5, 6] rfl))

set_option maxHeartbeats 4000000 in
set_option maxRecDepth 100000 in
theorem lo_jam0 (F : kx_F p s m c cL_law 7 RL #[Value.ref b] wsL_law G s.heap.size) (hlf : l.stackTraces = false) (hX : va_X b L xs s s.heap) (hbl : b < s.heap.size) (hi : i + 4 ≤ L) (hL : L ≤ 2048) (hcl : cells + 60 ≤ 601024) (hsl : slots + 1000 ≤ 7293034) (hR : rl_PT nb sg sg) (hW : kx_Wd G s.heap.size ad nb sg H) (hS : va_S (kx_Ad s.heap.size) s.heap H locs) (hl : lv_has ls 7 [(4, .int (nI i)), (3, .ref (ad 32 0)), (2, .ref (ad 14 0)), (1, .ref (ad 0 0)), (0, .ref b)]) (hxz : xs (i + 2) = 0) (kk : ∀ (sg1 : kx_S) (H1 : Heap) (locs1 : List Loc) (ls1 : Array Slot), rl_PT nb sg1 sg1 → kx_Wd G s.heap.size ad nb sg1 H1 → va_S (kx_Ad s.heap.size) s.heap H1 locs1 → lv_has ls1 7 [(4, .int (nI i)), (3, .ref (ad 32 0)), (2, .ref (ad 14 0)), (1, .ref (ad 0 0)), (0, .ref b)] → W p l e room_1 s m #[Value.ref b] below meth c H1 locs1 (cells + 60) (slots + 1000) Q (F0 m 1604 ls1 [])) : W p l e room_1 s m #[Value.ref b] below meth c H locs cells slots Q (F0 m 789 ls [.int 0, .int (xs (i + 1)), .ref (ad 0 0)]) := by
  have hx := F.1; have hb := F.2.1
  have hC := rl_CI hR.1 hR.2.1.1
  have hR0 := hR
  have hz : tw_01 0 := by exact Or.inl rfl
  refine lv_aload_n hx hb dL_law_789 rfl (lv_at hl 1 rfl) ?_
  refine kx_xSH (na := 4) F (c_L_jam l hlf G s.heap.size ad nb sg hC (xs (i + 1)) 0 hz) gL_law_L_jam rfl (by decide +kernel) ⟨Nat.le_of_ble_eq_true rfl, Nat.le_of_ble_eq_true rfl⟩ hW hS (As := [.ref (ad 0 0), .int (xs (i + 1)), .int 0, .ref (ad 32 0)]) (rest := []) rfl hl.1 rfl (Nat.le_of_ble_eq_true rfl) dL_law_790 ⟨by show _ ≤ 601024; omega, by show _ ≤ 7293034; omega⟩ (fun E9 ce9 q9 H locs hp9 hW hS h7 h8 h9 => hp9.elim) (fun r9 sg9 H locs hq hW hS => ?_)
  obtain ⟨hR9, k9, hk9⟩ := lq_jam (x := (xs (i + 1))) (z := 0) hR hq
  subst hk9
  refine W.eq (g2 := F0 m 793 ls [.int k9]) rfl ?_
  refine lv_istore (lv' := [(5, .int k9), (4, .int (nI i)), (3, .ref (ad 32 0)), (2, .ref (ad 14 0)), (1, .ref (ad 0 0)), (0, .ref b)]) hx hb dL_law_793 hl (by decide) rfl (fun ls hl => ?_)
  refine lv_aload_n hx hb dL_law_795 rfl (lv_at hl 3 rfl) ?_
  refine lv_aload_n hx hb dL_law_796 rfl (lv_at hl 5 rfl) ?_
  refine lv_iload hx hb dL_law_797 (lv_at hl 1 rfl) ?_
  refine lv_iconst (v := 1) hx hb dL_law_799 (by decide) ?_
  refine lv_iadd hx hb dL_law_800 ?_
  rw [lo_n1 i]
  refine va_sld hx hb hX hbl (Nat.not_le.mpr hbl) hS (vp_in_nI (by omega) (by omega)) dL_law_801 ?_
  rw [nI_clamp (n := i + 1) (by omega)]
  refine lv_aload_n hx hb dL_law_802 rfl (lv_at hl 5 rfl) ?_
  refine lv_iload hx hb dL_law_803 (lv_at hl 1 rfl) ?_
  refine lv_iconst (v := 2) hx hb dL_law_805 (by decide) ?_
  refine lv_iadd hx hb dL_law_806 ?_
  rw [lo_n2 i]
  refine va_sld hx hb hX hbl (Nat.not_le.mpr hbl) hS (vp_in_nI (by omega) (by omega)) dL_law_807 ?_
  rw [nI_clamp (n := i + 2) (by omega)]
  refine lv_if_eq (tgt := 815) hx hb dL_law_808 (by decide) (fun c5 => ?_) (fun c5 => absurd hxz c5)
  refine lv_iconst (v := 0) hx hb dL_law_815 (by decide) ?_
  refine kx_cV (na := 2) F (q := 14) (n := 0) (c_X4_jam l G s.heap.size ad nb sg9 nb (rl_tmWF hR9.1) (fun d hd => (hR9.1.2.2.2.2.2.2.2.2.1 d hd).2.2.1) (xs (i + 1)) 0 hz) gL_law_X4_jam rfl (by decide +kernel) ⟨Nat.le_of_ble_eq_true rfl, Nat.le_of_ble_eq_true rfl⟩ hW hS ⟨by decide, rfl⟩ rfl rfl (As := [.int (xs (i + 1)), .int 0]) (rest := []) rfl hl.1 rfl (Nat.le_of_ble_eq_true rfl) dL_law_816 ⟨by show _ ≤ 601024; omega, by show _ ≤ 7293034; omega⟩ (fun r10 sg10 H locs hm hW hS => ?_)
  obtain ⟨k1, b1, e1, e2, e3, e4, hR⟩ := lp_jam (x := xs (i + 1)) (z := 0) hz hR0 hq hm
  subst e2
  have h01 := lb_jam (x := xs (i + 1)) (z := 0) hR9 hm
  have ek : k9 = k1 := Value.int.inj (Option.some.inj e1)
  rw [← ek] at e3 e4
  refine W.eq (g2 := F0 m 819 ls [.int b1]) rfl ?_
  refine lv_istore (lv' := [(6, .int b1), (5, .int k9), (4, .int (nI i)), (3, .ref (ad 32 0)), (2, .ref (ad 14 0)), (1, .ref (ad 0 0)), (0, .ref b)]) hx hb dL_law_819 hl (by decide) rfl (fun ls hl => ?_)
  refine lv_aload_n hx hb dL_law_821 rfl (lv_at hl 4 rfl) ?_
  refine kx_cV (na := 0) F (q := 14) (n := 0) (c_X4_thrown l G s.heap.size ad nb sg10) gL_law_X4_thrown rfl (by decide +kernel) ⟨Nat.le_of_ble_eq_true rfl, Nat.le_of_ble_eq_true rfl⟩ hW hS ⟨by decide, rfl⟩ rfl rfl (As := []) (rest := []) rfl hl.1 rfl (Nat.le_of_ble_eq_true rfl) dL_law_822 ⟨by show _ ≤ 601024; omega, by show _ ≤ 7293034; omega⟩ (fun r11 sg11 H locs hq11 hW hS => ?_)
  obtain ⟨rfl, e11⟩ := hq11
  rw [e11] at hW
  refine W.eq (g2 := F0 m 825 ls [.int (sg10 14 0 22)]) rfl ?_
  rw [e3]
  refine lv_iload hx hb dL_law_825 (lv_at hl 1 rfl) ?_
  refine lv_icmp_eq (tgt := 832) hx hb dL_law_827 (by decide) (fun c1 => ?_) (fun c1 => absurd rfl c1)
  refine lv_iload hx hb dL_law_832 (lv_at hl 1 rfl) ?_
  refine lv_if_ne (tgt := 856) hx hb dL_law_834 (by decide) (fun c2 => ?_) (fun c2 => ?_)
  · refine lv_goto (tgt := 1604) hx hb dL_law_856 (by decide) ?_
    exact W.widen (by omega) (by omega) (kk sg10 H locs ls hR hW hS (lv_sub hl [2, 3, 4, 5, 6] rfl))
  · have e5 := e4 c2
    refine lv_aload_n hx hb dL_law_837 rfl (lv_at hl 3 rfl) ?_
    refine lv_iconst (v := 0) hx hb dL_law_838 (by decide) ?_
    refine kx_lald F hW dL_law_839 ?_
    refine lv_iload hx hb dL_law_840 (lv_at hl 0 rfl) ?_
    refine lv_if_eq (tgt := 849) hx hb dL_law_842 (by decide) (fun c4 => ?_) (fun c4 => ?_)
    · refine lv_lconst (v := 0) hx hb dL_law_849 (by decide) ?_
      refine W.lcmp hx hb dL_law_850 ?_
      refine lv_if_eq (tgt := 856) hx hb dL_law_851 (by decide) (fun c3 => ?_) (fun c3 => absurd (by rw [e5, c4]; first | rfl | decide) c3)
      refine lv_goto (tgt := 1604) hx hb dL_law_856 (by decide) ?_
      exact W.widen (by omega) (by omega) (kk sg10 H locs ls hR hW hS (lv_sub hl [2, 3, 4, 5, 6] rfl))
    · refine lv_lconst (v := 1) hx hb dL_law_845 (by decide) ?_
      refine lv_goto (tgt := 850) hx hb dL_law_846 (by decide) ?_
      refine W.lcmp hx hb dL_law_850 ?_
      refine lv_if_eq (tgt := 856) hx hb dL_law_851 (by decide) (fun c3 => ?_) (fun c3 => absurd (by rw [e5, tw_ins (f := 0) h01 c4]; first | rfl | decide) c3)
      refine lv_goto (tgt := 1604) hx hb dL_law_856 (by decide) ?_
      exact W.widen (by omega) (by omega) (kk sg10 H locs ls hR hW hS (lv_sub hl [2, 3, 4, 5, 6] rfl))

set_option maxHeartbeats 4000000 in
set_option maxRecDepth 100000 in
theorem lo_jam1 (F : kx_F p s m c cL_law 7 RL #[Value.ref b] wsL_law G s.heap.size) (hlf : l.stackTraces = false) (hX : va_X b L xs s s.heap) (hbl : b < s.heap.size) (hi : i + 4 ≤ L) (hL : L ≤ 2048) (hcl : cells + 60 ≤ 601024) (hsl : slots + 1000 ≤ 7293034) (hR : rl_PT nb sg sg) (hW : kx_Wd G s.heap.size ad nb sg H) (hS : va_S (kx_Ad s.heap.size) s.heap H locs) (hl : lv_has ls 7 [(4, .int (nI i)), (3, .ref (ad 32 0)), (2, .ref (ad 14 0)), (1, .ref (ad 0 0)), (0, .ref b)]) (hxz : ¬ xs (i + 2) = 0) (kk : ∀ (sg1 : kx_S) (H1 : Heap) (locs1 : List Loc) (ls1 : Array Slot), rl_PT nb sg1 sg1 → kx_Wd G s.heap.size ad nb sg1 H1 → va_S (kx_Ad s.heap.size) s.heap H1 locs1 → lv_has ls1 7 [(4, .int (nI i)), (3, .ref (ad 32 0)), (2, .ref (ad 14 0)), (1, .ref (ad 0 0)), (0, .ref b)] → W p l e room_1 s m #[Value.ref b] below meth c H1 locs1 (cells + 60) (slots + 1000) Q (F0 m 1604 ls1 [])) : W p l e room_1 s m #[Value.ref b] below meth c H locs cells slots Q (F0 m 789 ls [.int 1, .int (xs (i + 1)), .ref (ad 0 0)]) := by
  have hx := F.1; have hb := F.2.1
  have hC := rl_CI hR.1 hR.2.1.1
  have hR0 := hR
  have hz : tw_01 1 := by exact Or.inr rfl
  refine lv_aload_n hx hb dL_law_789 rfl (lv_at hl 1 rfl) ?_
  refine kx_xSH (na := 4) F (c_L_jam l hlf G s.heap.size ad nb sg hC (xs (i + 1)) 1 hz) gL_law_L_jam rfl (by decide +kernel) ⟨Nat.le_of_ble_eq_true rfl, Nat.le_of_ble_eq_true rfl⟩ hW hS (As := [.ref (ad 0 0), .int (xs (i + 1)), .int 1, .ref (ad 32 0)]) (rest := []) rfl hl.1 rfl (Nat.le_of_ble_eq_true rfl) dL_law_790 ⟨by show _ ≤ 601024; omega, by show _ ≤ 7293034; omega⟩ (fun E9 ce9 q9 H locs hp9 hW hS h7 h8 h9 => hp9.elim) (fun r9 sg9 H locs hq hW hS => ?_)
  obtain ⟨hR9, k9, hk9⟩ := lq_jam (x := (xs (i + 1))) (z := 1) hR hq
  subst hk9
  refine W.eq (g2 := F0 m 793 ls [.int k9]) rfl ?_
  refine lv_istore (lv' := [(5, .int k9), (4, .int (nI i)), (3, .ref (ad 32 0)), (2, .ref (ad 14 0)), (1, .ref (ad 0 0)), (0, .ref b)]) hx hb dL_law_793 hl (by decide) rfl (fun ls hl => ?_)
  refine lv_aload_n hx hb dL_law_795 rfl (lv_at hl 3 rfl) ?_
  refine lv_aload_n hx hb dL_law_796 rfl (lv_at hl 5 rfl) ?_
  refine lv_iload hx hb dL_law_797 (lv_at hl 1 rfl) ?_
  refine lv_iconst (v := 1) hx hb dL_law_799 (by decide) ?_
  refine lv_iadd hx hb dL_law_800 ?_
  rw [lo_n1 i]
  refine va_sld hx hb hX hbl (Nat.not_le.mpr hbl) hS (vp_in_nI (by omega) (by omega)) dL_law_801 ?_
  rw [nI_clamp (n := i + 1) (by omega)]
  refine lv_aload_n hx hb dL_law_802 rfl (lv_at hl 5 rfl) ?_
  refine lv_iload hx hb dL_law_803 (lv_at hl 1 rfl) ?_
  refine lv_iconst (v := 2) hx hb dL_law_805 (by decide) ?_
  refine lv_iadd hx hb dL_law_806 ?_
  rw [lo_n2 i]
  refine va_sld hx hb hX hbl (Nat.not_le.mpr hbl) hS (vp_in_nI (by omega) (by omega)) dL_law_807 ?_
  rw [nI_clamp (n := i + 2) (by omega)]
  refine lv_if_eq (tgt := 815) hx hb dL_law_808 (by decide) (fun c5 => absurd c5 hxz) (fun c5 => ?_)
  refine lv_iconst (v := 1) hx hb dL_law_811 (by decide) ?_
  refine lv_goto (tgt := 816) hx hb dL_law_812 (by decide) ?_
  refine kx_cV (na := 2) F (q := 14) (n := 0) (c_X4_jam l G s.heap.size ad nb sg9 nb (rl_tmWF hR9.1) (fun d hd => (hR9.1.2.2.2.2.2.2.2.2.1 d hd).2.2.1) (xs (i + 1)) 1 hz) gL_law_X4_jam rfl (by decide +kernel) ⟨Nat.le_of_ble_eq_true rfl, Nat.le_of_ble_eq_true rfl⟩ hW hS ⟨by decide, rfl⟩ rfl rfl (As := [.int (xs (i + 1)), .int 1]) (rest := []) rfl hl.1 rfl (Nat.le_of_ble_eq_true rfl) dL_law_816 ⟨by show _ ≤ 601024; omega, by show _ ≤ 7293034; omega⟩ (fun r10 sg10 H locs hm hW hS => ?_)
  obtain ⟨k1, b1, e1, e2, e3, e4, hR⟩ := lp_jam (x := xs (i + 1)) (z := 1) hz hR0 hq hm
  subst e2
  have h01 := lb_jam (x := xs (i + 1)) (z := 1) hR9 hm
  have ek : k9 = k1 := Value.int.inj (Option.some.inj e1)
  rw [← ek] at e3 e4
  refine W.eq (g2 := F0 m 819 ls [.int b1]) rfl ?_
  refine lv_istore (lv' := [(6, .int b1), (5, .int k9), (4, .int (nI i)), (3, .ref (ad 32 0)), (2, .ref (ad 14 0)), (1, .ref (ad 0 0)), (0, .ref b)]) hx hb dL_law_819 hl (by decide) rfl (fun ls hl => ?_)
  refine lv_aload_n hx hb dL_law_821 rfl (lv_at hl 4 rfl) ?_
  refine kx_cV (na := 0) F (q := 14) (n := 0) (c_X4_thrown l G s.heap.size ad nb sg10) gL_law_X4_thrown rfl (by decide +kernel) ⟨Nat.le_of_ble_eq_true rfl, Nat.le_of_ble_eq_true rfl⟩ hW hS ⟨by decide, rfl⟩ rfl rfl (As := []) (rest := []) rfl hl.1 rfl (Nat.le_of_ble_eq_true rfl) dL_law_822 ⟨by show _ ≤ 601024; omega, by show _ ≤ 7293034; omega⟩ (fun r11 sg11 H locs hq11 hW hS => ?_)
  obtain ⟨rfl, e11⟩ := hq11
  rw [e11] at hW
  refine W.eq (g2 := F0 m 825 ls [.int (sg10 14 0 22)]) rfl ?_
  rw [e3]
  refine lv_iload hx hb dL_law_825 (lv_at hl 1 rfl) ?_
  refine lv_icmp_eq (tgt := 832) hx hb dL_law_827 (by decide) (fun c1 => ?_) (fun c1 => absurd rfl c1)
  refine lv_iload hx hb dL_law_832 (lv_at hl 1 rfl) ?_
  refine lv_if_ne (tgt := 856) hx hb dL_law_834 (by decide) (fun c2 => ?_) (fun c2 => ?_)
  · refine lv_goto (tgt := 1604) hx hb dL_law_856 (by decide) ?_
    exact W.widen (by omega) (by omega) (kk sg10 H locs ls hR hW hS (lv_sub hl [2, 3, 4, 5, 6] rfl))
  · have e5 := e4 c2
    refine lv_aload_n hx hb dL_law_837 rfl (lv_at hl 3 rfl) ?_
    refine lv_iconst (v := 0) hx hb dL_law_838 (by decide) ?_
    refine kx_lald F hW dL_law_839 ?_
    refine lv_iload hx hb dL_law_840 (lv_at hl 0 rfl) ?_
    refine lv_if_eq (tgt := 849) hx hb dL_law_842 (by decide) (fun c4 => ?_) (fun c4 => ?_)
    · refine lv_lconst (v := 0) hx hb dL_law_849 (by decide) ?_
      refine W.lcmp hx hb dL_law_850 ?_
      refine lv_if_eq (tgt := 856) hx hb dL_law_851 (by decide) (fun c3 => ?_) (fun c3 => absurd (by rw [e5, c4]; first | rfl | decide) c3)
      refine lv_goto (tgt := 1604) hx hb dL_law_856 (by decide) ?_
      exact W.widen (by omega) (by omega) (kk sg10 H locs ls hR hW hS (lv_sub hl [2, 3, 4, 5, 6] rfl))
    · refine lv_lconst (v := 1) hx hb dL_law_845 (by decide) ?_
      refine lv_goto (tgt := 850) hx hb dL_law_846 (by decide) ?_
      refine W.lcmp hx hb dL_law_850 ?_
      refine lv_if_eq (tgt := 856) hx hb dL_law_851 (by decide) (fun c3 => ?_) (fun c3 => absurd (by rw [e5, tw_ins (f := 0) h01 c4]; first | rfl | decide) c3)
      refine lv_goto (tgt := 1604) hx hb dL_law_856 (by decide) ?_
      exact W.widen (by omega) (by omega) (kk sg10 H locs ls hR hW hS (lv_sub hl [2, 3, 4, 5, 6] rfl))

set_option maxHeartbeats 4000000 in
set_option maxRecDepth 100000 in
theorem lo_jam (F : kx_F p s m c cL_law 7 RL #[Value.ref b] wsL_law G s.heap.size) (hlf : l.stackTraces = false) (hX : va_X b L xs s s.heap) (hbl : b < s.heap.size) (hi : i + 4 ≤ L) (hL : L ≤ 2048) (hcl : cells + 60 ≤ 601024) (hsl : slots + 1000 ≤ 7293034) (hR : rl_PT nb sg sg) (hW : kx_Wd G s.heap.size ad nb sg H) (hS : va_S (kx_Ad s.heap.size) s.heap H locs) (hl : lv_has ls 7 [(4, .int (nI i)), (3, .ref (ad 32 0)), (2, .ref (ad 14 0)), (1, .ref (ad 0 0)), (0, .ref b)]) (kk : ∀ (sg1 : kx_S) (H1 : Heap) (locs1 : List Loc) (ls1 : Array Slot), rl_PT nb sg1 sg1 → kx_Wd G s.heap.size ad nb sg1 H1 → va_S (kx_Ad s.heap.size) s.heap H1 locs1 → lv_has ls1 7 [(4, .int (nI i)), (3, .ref (ad 32 0)), (2, .ref (ad 14 0)), (1, .ref (ad 0 0)), (0, .ref b)] → W p l e room_1 s m #[Value.ref b] below meth c H1 locs1 (cells + 60) (slots + 1000) Q (F0 m 1604 ls1 [])) : W p l e room_1 s m #[Value.ref b] below meth c H locs cells slots Q (F0 m 768 ls []) := by
  have hx := F.1; have hb := F.2.1
  refine lv_aload_n hx hb dL_law_768 rfl (lv_at hl 3 rfl) ?_
  refine lv_aload_n hx hb dL_law_769 rfl (lv_at hl 4 rfl) ?_
  refine lv_iload hx hb dL_law_770 (lv_at hl 0 rfl) ?_
  refine lv_iconst (v := 1) hx hb dL_law_772 (by decide) ?_
  refine lv_iadd hx hb dL_law_773 ?_
  rw [lo_n1 i]
  refine va_sld hx hb hX hbl (Nat.not_le.mpr hbl) hS (vp_in_nI (by omega) (by omega)) dL_law_774 ?_
  rw [nI_clamp (n := i + 1) (by omega)]
  refine lv_aload_n hx hb dL_law_775 rfl (lv_at hl 4 rfl) ?_
  refine lv_iload hx hb dL_law_776 (lv_at hl 0 rfl) ?_
  refine lv_iconst (v := 2) hx hb dL_law_778 (by decide) ?_
  refine lv_iadd hx hb dL_law_779 ?_
  rw [lo_n2 i]
  refine va_sld hx hb hX hbl (Nat.not_le.mpr hbl) hS (vp_in_nI (by omega) (by omega)) dL_law_780 ?_
  rw [nI_clamp (n := i + 2) (by omega)]
  refine lv_if_eq (tgt := 788) hx hb dL_law_781 (by decide) (fun c5 => ?_) (fun c5 => ?_)
  · refine lv_iconst (v := 0) hx hb dL_law_788 (by decide) ?_
    exact lo_jam0 F hlf hX hbl hi hL hcl hsl hR hW hS hl c5 kk
  · refine lv_iconst (v := 1) hx hb dL_law_784 (by decide) ?_
    refine lv_goto (tgt := 789) hx hb dL_law_785 (by decide) ?_
    exact lo_jam1 F hlf hX hbl hi hL hcl hsl hR hW hS hl c5 kk
end LOP
