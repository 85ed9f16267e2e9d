section LOP
variable {p : Program} {l : Launch} {e : Env} {s : State} {m : MethodId} {below : List Frame} {meth : Method} {c : Code} {b L : Nat} {xs : Nat → Int32} {Q : State → Prop} {G : kx_G} {nb : Nat} {ad : kx_A} {sg : kx_S} {H : Heap} {locs : List Loc} {ls : Array Slot} {cells slots k mo w pa pb : Nat} {kd v bx dr : Int32}

set_option maxHeartbeats 4000000 in
set_option maxRecDepth 100000 in
theorem lo_c14 (F : kx_F p s m c cL_law 15 RL #[Value.ref b] wsL_law G s.heap.size) (hlf : l.stackTraces = false) (hmo : mo < 4) (hw : w < 14) (hcl : cells + 20 ≤ 600130) (hsl : slots + 200 ≤ 7301080) (hR : ro_RR mo nb sg) (hn2 : ad 40 0 = nb) (ea : pa = ad 0 0) (eb : pb = ad 14 0) (hW : kx_Wd G s.heap.size ad nb sg H) (hS : va_S (kx_Ad s.heap.size) s.heap H locs) (hl : lv_has ls 15 [(12, .int dr), (11, .int (nI w)), (10, .int bx), (9, .int (nI nb)), (8, .int v), (7, .int kd), (5, .int (nI k)), (4, .int 1), (3, .int (nI mo)), (2, .ref pb), (1, .ref pa), (0, .ref b)]) (kk : ∀ (nb1 : Nat) (ad1 : kx_A) (sg1 : kx_S) (H1 : Heap) (locs1 : List Loc) (ls1 : Array Slot), ro_RR mo nb1 sg1 → ad1 40 0 = nb1 → pa = ad1 0 0 → pb = ad1 14 0 → kx_Wd G s.heap.size ad1 nb1 sg1 H1 → va_S (kx_Ad s.heap.size) s.heap H1 locs1 → lv_has ls1 15 [(12, .int dr), (11, .int (nI w)), (10, .int bx), (5, .int (nI k)), (4, .int 1), (3, .int (nI mo)), (2, .ref pb), (1, .ref pa), (0, .ref b)] → W p l e room_1 s m #[Value.ref b] below meth c H1 locs1 (cells + 20) (slots + 200) Q (F0 m 777 ls1 [])) : W p l e room_1 s m #[Value.ref b] below meth c H locs cells slots Q (F0 m 211 ls []) := by
  have hx := F.1; have hb := F.2.1
  refine lv_iload hx hb dL_law_211 (lv_at hl 4 rfl) ?_
  refine lv_bipush (v := 6) hx hb dL_law_213 (by decide) ?_
  refine lv_irem hx hb dL_law_215 (by decide) ?_
  refine lv_if_ne (tgt := 233) hx hb dL_law_216 (by decide) (fun c_216 => ?_) (fun c_216 => ?_)
  · refine lv_iconst (v := 1) hx hb dL_law_233 (by decide) ?_
    refine lv_iload hx hb dL_law_234 (lv_at hl 4 rfl) ?_
    refine lv_bipush (v := 6) hx hb dL_law_236 (by decide) ?_
    refine lv_idiv hx hb dL_law_238 (by decide) ?_
    refine lv_bipush (v := 9) hx hb dL_law_239 (by decide) ?_
    refine lv_irem hx hb dL_law_241 (by decide) ?_
    refine lv_iadd hx hb dL_law_242 ?_
    refine lv_istore (lv' := [(13, .int (1 + ((v / 6) - (v / 6) / 9 * 9))), (12, .int dr), (11, .int (nI w)), (10, .int bx), (9, .int (nI nb)), (8, .int v), (7, .int kd), (5, .int (nI k)), (4, .int 1), (3, .int (nI mo)), (2, .ref pb), (1, .ref pa), (0, .ref b)]) hx hb dL_law_243 hl (by decide) rfl (fun ls hl => ?_)
    refine lv_aload_n hx hb dL_law_245 rfl (lv_at hl 11 rfl) ?_
    refine lv_iconst (v := 2) hx hb dL_law_246 (by decide) ?_
    refine lv_iload hx hb dL_law_247 (lv_at hl 0 rfl) ?_
    refine lv_iconst (v := 0) hx hb dL_law_249 (by decide) ?_
    refine lo_cA (na := 4) F (c_L_does_pass l hlf G s.heap.size ad nb sg (ro_CI1 hR) (1 + ((v / 6) - (v / 6) / 9 * 9)) 0) gL_law_L_does rfl (by decide +kernel) ⟨Nat.le_of_ble_eq_true rfl, Nat.le_of_ble_eq_true rfl⟩ hW hS (As := [.ref (ad 0 0), .int 2, .int (1 + ((v / 6) - (v / 6) / 9 * 9)), .int 0]) (rest := []) rfl hl.1 (by rw [ea]; rfl) (Nat.le_of_ble_eq_true rfl) dL_law_250 ⟨by show _ ≤ 600130; omega, by show _ ≤ 7301080; omega⟩ (fun a1 s1 H locs h1 hW hS => ?_)
    refine lv_aload_n hx hb dL_law_253 rfl (lv_at hl 10 rfl) ?_
    refine lv_iconst (v := 2) hx hb dL_law_254 (by decide) ?_
    refine lv_iload hx hb dL_law_255 (lv_at hl 0 rfl) ?_
    refine lv_iconst (v := 0) hx hb dL_law_257 (by decide) ?_
    have hR2 := ro_in2 hR (rf_pass h1)
    refine lo_cB (na := 4) F hn2 (c_L_does_pass l hlf G s.heap.size (kx_swA ad nb) nb (kx_swS s1) (ro_CI2 hR2) (1 + ((v / 6) - (v / 6) / 9 * 9)) 0) gL_law_L_does rfl (by decide +kernel) ⟨Nat.le_of_ble_eq_true rfl, Nat.le_of_ble_eq_true rfl⟩ hW hS (As := [.ref (kx_swA ad nb 0 0), .int 2, .int (1 + ((v / 6) - (v / 6) / 9 * 9)), .int 0]) (rest := [.int a1]) rfl hl.1 (by rw [eb]; rfl) (Nat.le_of_ble_eq_true rfl) dL_law_258 ⟨by show _ ≤ 600130; omega, by show _ ≤ 7301080; omega⟩ (fun b1 t1 H locs g1 hW hS => ?_)
    obtain ⟨e1, hR⟩ := ry_pass hR h1 g1
    subst e1
    refine lv_icmp_ne (tgt := 268) hx hb dL_law_261 (by decide) (fun c_261 => absurd rfl c_261) (fun c_261 => ?_)
    refine lv_iconst (v := 1) hx hb dL_law_264 (by decide) ?_
    refine lv_goto (tgt := 269) hx hb dL_law_265 (by decide) ?_
    refine lv_istore (lv' := [(4, .int 1), (13, .int (1 + ((v / 6) - (v / 6) / 9 * 9))), (12, .int dr), (11, .int (nI w)), (10, .int bx), (9, .int (nI nb)), (8, .int v), (7, .int kd), (5, .int (nI k)), (3, .int (nI mo)), (2, .ref pb), (1, .ref pa), (0, .ref b)]) hx hb dL_law_269 hl (by decide) rfl (fun ls hl => ?_)
    refine lv_goto (tgt := 777) hx hb dL_law_271 (by decide) ?_
    exact W.widen (by omega) (by omega) (kk nb ad (kx_swS t1) H locs ls hR hn2 ea eb hW hS (lv_sub hl [2, 3, 4, 8, 0, 9, 10, 11, 12] rfl))
  · refine lv_iconst (v := 1) hx hb dL_law_219 (by decide) ?_
    refine lv_iload hx hb dL_law_220 (lv_at hl 4 rfl) ?_
    refine lv_bipush (v := 6) hx hb dL_law_222 (by decide) ?_
    refine lv_idiv hx hb dL_law_224 (by decide) ?_
    refine lv_sipush (v := 2000) hx hb dL_law_225 (by decide) ?_
    refine lv_irem hx hb dL_law_228 (by decide) ?_
    refine lv_iadd hx hb dL_law_229 ?_
    refine lv_goto (tgt := 243) hx hb dL_law_230 (by decide) ?_
    refine lv_istore (lv' := [(13, .int (1 + ((v / 6) - (v / 6) / 2000 * 2000))), (12, .int dr), (11, .int (nI w)), (10, .int bx), (9, .int (nI nb)), (8, .int v), (7, .int kd), (5, .int (nI k)), (4, .int 1), (3, .int (nI mo)), (2, .ref pb), (1, .ref pa), (0, .ref b)]) hx hb dL_law_243 hl (by decide) rfl (fun ls hl => ?_)
    refine lv_aload_n hx hb dL_law_245 rfl (lv_at hl 11 rfl) ?_
    refine lv_iconst (v := 2) hx hb dL_law_246 (by decide) ?_
    refine lv_iload hx hb dL_law_247 (lv_at hl 0 rfl) ?_
    refine lv_iconst (v := 0) hx hb dL_law_249 (by decide) ?_
    refine lo_cA (na := 4) F (c_L_does_pass l hlf G s.heap.size ad nb sg (ro_CI1 hR) (1 + ((v / 6) - (v / 6) / 2000 * 2000)) 0) gL_law_L_does rfl (by decide +kernel) ⟨Nat.le_of_ble_eq_true rfl, Nat.le_of_ble_eq_true rfl⟩ hW hS (As := [.ref (ad 0 0), .int 2, .int (1 + ((v / 6) - (v / 6) / 2000 * 2000)), .int 0]) (rest := []) rfl hl.1 (by rw [ea]; rfl) (Nat.le_of_ble_eq_true rfl) dL_law_250 ⟨by show _ ≤ 600130; omega, by show _ ≤ 7301080; omega⟩ (fun a1 s1 H locs h1 hW hS => ?_)
    refine lv_aload_n hx hb dL_law_253 rfl (lv_at hl 10 rfl) ?_
    refine lv_iconst (v := 2) hx hb dL_law_254 (by decide) ?_
    refine lv_iload hx hb dL_law_255 (lv_at hl 0 rfl) ?_
    refine lv_iconst (v := 0) hx hb dL_law_257 (by decide) ?_
    have hR2 := ro_in2 hR (rf_pass h1)
    refine lo_cB (na := 4) F hn2 (c_L_does_pass l hlf G s.heap.size (kx_swA ad nb) nb (kx_swS s1) (ro_CI2 hR2) (1 + ((v / 6) - (v / 6) / 2000 * 2000)) 0) gL_law_L_does rfl (by decide +kernel) ⟨Nat.le_of_ble_eq_true rfl, Nat.le_of_ble_eq_true rfl⟩ hW hS (As := [.ref (kx_swA ad nb 0 0), .int 2, .int (1 + ((v / 6) - (v / 6) / 2000 * 2000)), .int 0]) (rest := [.int a1]) rfl hl.1 (by rw [eb]; rfl) (Nat.le_of_ble_eq_true rfl) dL_law_258 ⟨by show _ ≤ 600130; omega, by show _ ≤ 7301080; omega⟩ (fun b1 t1 H locs g1 hW hS => ?_)
    obtain ⟨e1, hR⟩ := ry_pass hR h1 g1
    subst e1
    refine lv_icmp_ne (tgt := 268) hx hb dL_law_261 (by decide) (fun c_261 => absurd rfl c_261) (fun c_261 => ?_)
    refine lv_iconst (v := 1) hx hb dL_law_264 (by decide) ?_
    refine lv_goto (tgt := 269) hx hb dL_law_265 (by decide) ?_
    refine lv_istore (lv' := [(4, .int 1), (13, .int (1 + ((v / 6) - (v / 6) / 2000 * 2000))), (12, .int dr), (11, .int (nI w)), (10, .int bx), (9, .int (nI nb)), (8, .int v), (7, .int kd), (5, .int (nI k)), (3, .int (nI mo)), (2, .ref pb), (1, .ref pa), (0, .ref b)]) hx hb dL_law_269 hl (by decide) rfl (fun ls hl => ?_)
    refine lv_goto (tgt := 777) hx hb dL_law_271 (by decide) ?_
    exact W.widen (by omega) (by omega) (kk nb ad (kx_swS t1) H locs ls hR hn2 ea eb hW hS (lv_sub hl [2, 3, 4, 8, 0, 9, 10, 11, 12] rfl))

set_option maxHeartbeats 4000000 in
set_option maxRecDepth 100000 in
theorem lo_c5 (F : kx_F p s m c cL_law 15 RL #[Value.ref b] wsL_law G s.heap.size) (hlf : l.stackTraces = false) (hmo : mo < 4) (hw : w < 14) (hcl : cells + 20 ≤ 600130) (hsl : slots + 200 ≤ 7301080) (hR : ro_RR mo nb sg) (hn2 : ad 40 0 = nb) (ea : pa = ad 0 0) (eb : pb = ad 14 0) (hW : kx_Wd G s.heap.size ad nb sg H) (hS : va_S (kx_Ad s.heap.size) s.heap H locs) (hl : lv_has ls 15 [(12, .int dr), (11, .int (nI w)), (10, .int bx), (9, .int (nI nb)), (8, .int v), (7, .int kd), (5, .int (nI k)), (4, .int 1), (3, .int (nI mo)), (2, .ref pb), (1, .ref pa), (0, .ref b)]) (kk : ∀ (nb1 : Nat) (ad1 : kx_A) (sg1 : kx_S) (H1 : Heap) (locs1 : List Loc) (ls1 : Array Slot), ro_RR mo nb1 sg1 → ad1 40 0 = nb1 → pa = ad1 0 0 → pb = ad1 14 0 → kx_Wd G s.heap.size ad1 nb1 sg1 H1 → va_S (kx_Ad s.heap.size) s.heap H1 locs1 → lv_has ls1 15 [(12, .int dr), (11, .int (nI w)), (10, .int bx), (5, .int (nI k)), (4, .int 1), (3, .int (nI mo)), (2, .ref pb), (1, .ref pa), (0, .ref b)] → W p l e room_1 s m #[Value.ref b] below meth c H1 locs1 (cells + 20) (slots + 200) Q (F0 m 777 ls1 [])) : W p l e room_1 s m #[Value.ref b] below meth c H locs cells slots Q (F0 m 281 ls []) := by
  have hx := F.1; have hb := F.2.1
  refine lv_aload_n hx hb dL_law_281 rfl (lv_at hl 10 rfl) ?_
  refine lv_iload hx hb dL_law_282 (lv_at hl 2 rfl) ?_
  refine lv_iload hx hb dL_law_284 (lv_at hl 1 rfl) ?_
  refine lv_iconst (v := 4) hx hb dL_law_286 (by decide) ?_
  refine lv_irem hx hb dL_law_287 (by decide) ?_
  rw [lo_r4 hw]
  refine lv_iload hx hb dL_law_288 (lv_at hl 4 rfl) ?_
  refine lv_bipush (v := 64) hx hb dL_law_290 (by decide) ?_
  refine lv_idiv hx hb dL_law_292 (by decide) ?_
  refine lv_iconst (v := 3) hx hb dL_law_293 (by decide) ?_
  refine lv_irem hx hb dL_law_294 (by decide) ?_
  refine lo_cA (na := 4) F (c_L_scan l hlf G s.heap.size ad nb sg (ro_CI1 hR) bx (nI (w % 4)) ((v / 64) - (v / 64) / 3 * 3)) gL_law_L_scan rfl (by decide +kernel) ⟨Nat.le_of_ble_eq_true rfl, Nat.le_of_ble_eq_true rfl⟩ hW hS (As := [.ref (ad 0 0), .int bx, .int (nI (w % 4)), .int ((v / 64) - (v / 64) / 3 * 3)]) (rest := []) rfl hl.1 (by rw [ea]; rfl) (Nat.le_of_ble_eq_true rfl) dL_law_295 ⟨by show _ ≤ 600130; omega, by show _ ≤ 7301080; omega⟩ (fun a1 s1 H locs h1 hW hS => ?_)
  refine lv_aload_n hx hb dL_law_298 rfl (lv_at hl 9 rfl) ?_
  refine lv_iload hx hb dL_law_299 (lv_at hl 2 rfl) ?_
  refine lv_iload hx hb dL_law_301 (lv_at hl 1 rfl) ?_
  refine lv_iconst (v := 4) hx hb dL_law_303 (by decide) ?_
  refine lv_irem hx hb dL_law_304 (by decide) ?_
  rw [lo_r4 hw]
  refine lv_iload_n hx hb dL_law_305 rfl (lv_at hl 8 rfl) ?_
  refine kx_cS (na := 2) F (c_L_there l G s.heap.size ad nb _ (nI (w % 4)) (nI mo)) gL_law_L_there rfl (by decide +kernel) ⟨Nat.le_of_ble_eq_true rfl, Nat.le_of_ble_eq_true rfl⟩ hW hS (As := [.int (nI (w % 4)), .int (nI mo)]) (rest := [.int bx, .ref pb, .int a1]) rfl hl.1 rfl (Nat.le_of_ble_eq_true rfl) dL_law_306 ⟨by show _ ≤ 600130; omega, by show _ ≤ 7301080; omega⟩ (fun r9 sg9 H locs hq hW hS => ?_)
  obtain ⟨rfl, e9⟩ := hq
  rw [e9] at hW
  refine W.eq (g2 := F0 m 309 ls [.int (lo_th (nI (w % 4)) (nI mo)), .int bx, .ref pb, .int a1]) rfl ?_
  rw [lo_th_eq (w % 4) (by omega) mo hmo]
  refine lv_iload hx hb dL_law_309 (lv_at hl 4 rfl) ?_
  refine lv_bipush (v := 64) hx hb dL_law_311 (by decide) ?_
  refine lv_idiv hx hb dL_law_313 (by decide) ?_
  refine lv_iconst (v := 3) hx hb dL_law_314 (by decide) ?_
  refine lv_irem hx hb dL_law_315 (by decide) ?_
  have hR2 := ro_in2 hR (rf_scan h1)
  refine lo_cB (na := 4) F hn2 (c_L_scan l hlf G s.heap.size (kx_swA ad nb) nb (kx_swS s1) (ro_CI2 hR2) bx (nI (ro_s mo (w % 4))) ((v / 64) - (v / 64) / 3 * 3)) gL_law_L_scan rfl (by decide +kernel) ⟨Nat.le_of_ble_eq_true rfl, Nat.le_of_ble_eq_true rfl⟩ hW hS (As := [.ref (kx_swA ad nb 0 0), .int bx, .int (nI (ro_s mo (w % 4))), .int ((v / 64) - (v / 64) / 3 * 3)]) (rest := [.int a1]) rfl hl.1 (by rw [eb]; rfl) (Nat.le_of_ble_eq_true rfl) dL_law_316 ⟨by show _ ≤ 600130; omega, by show _ ≤ 7301080; omega⟩ (fun b1 t1 H locs g1 hW hS => ?_)
  obtain ⟨e1, hR⟩ := ry_scan hR (by omega) h1 g1
  subst e1
  refine lv_icmp_ne (tgt := 326) hx hb dL_law_319 (by decide) (fun c_319 => absurd rfl c_319) (fun c_319 => ?_)
  refine lv_iconst (v := 1) hx hb dL_law_322 (by decide) ?_
  refine lv_goto (tgt := 327) hx hb dL_law_323 (by decide) ?_
  refine lv_istore (lv' := [(4, .int 1), (12, .int dr), (11, .int (nI w)), (10, .int bx), (9, .int (nI nb)), (8, .int v), (7, .int kd), (5, .int (nI k)), (3, .int (nI mo)), (2, .ref pb), (1, .ref pa), (0, .ref b)]) hx hb dL_law_327 hl (by decide) rfl (fun ls hl => ?_)
  refine lv_goto (tgt := 777) hx hb dL_law_329 (by decide) ?_
  exact W.widen (by omega) (by omega) (kk nb ad (kx_swS t1) H locs ls hR hn2 ea eb hW hS (lv_sub hl [1, 2, 3, 7, 0, 8, 9, 10, 11] rfl))

set_option maxHeartbeats 4000000 in
set_option maxRecDepth 100000 in
theorem lo_c10 (F : kx_F p s m c cL_law 15 RL #[Value.ref b] wsL_law G s.heap.size) (hlf : l.stackTraces = false) (hmo : mo < 4) (hw : w < 14) (hcl : cells + 20 ≤ 600130) (hsl : slots + 200 ≤ 7301080) (hR : ro_RR mo nb sg) (hn2 : ad 40 0 = nb) (ea : pa = ad 0 0) (eb : pb = ad 14 0) (hW : kx_Wd G s.heap.size ad nb sg H) (hS : va_S (kx_Ad s.heap.size) s.heap H locs) (hl : lv_has ls 15 [(12, .int dr), (11, .int (nI w)), (10, .int bx), (9, .int (nI nb)), (8, .int v), (7, .int kd), (5, .int (nI k)), (4, .int 1), (3, .int (nI mo)), (2, .ref pb), (1, .ref pa), (0, .ref b)]) (kk : ∀ (nb1 : Nat) (ad1 : kx_A) (sg1 : kx_S) (H1 : Heap) (locs1 : List Loc) (ls1 : Array Slot), ro_RR mo nb1 sg1 → ad1 40 0 = nb1 → pa = ad1 0 0 → pb = ad1 14 0 → kx_Wd G s.heap.size ad1 nb1 sg1 H1 → va_S (kx_Ad s.heap.size) s.heap H1 locs1 → lv_has ls1 15 [(12, .int dr), (11, .int (nI w)), (10, .int bx), (5, .int (nI k)), (4, .int 1), (3, .int (nI mo)), (2, .ref pb), (1, .ref pa), (0, .ref b)] → W p l e room_1 s m #[Value.ref b] below meth c H1 locs1 (cells + 20) (slots + 200) Q (F0 m 777 ls1 [])) : W p l e room_1 s m #[Value.ref b] below meth c H locs cells slots Q (F0 m 339 ls []) := by
  have hx := F.1; have hb := F.2.1
  refine lv_aload_n hx hb dL_law_339 rfl (lv_at hl 10 rfl) ?_
  refine lv_iconst (v := 3) hx hb dL_law_340 (by decide) ?_
  refine lv_iload hx hb dL_law_341 (lv_at hl 2 rfl) ?_
  refine lv_iload hx hb dL_law_343 (lv_at hl 0 rfl) ?_
  refine lo_cA (na := 4) F (c_L_does_lay l hlf G s.heap.size ad nb sg (ro_CI1 hR) bx dr) gL_law_L_does rfl (by decide +kernel) ⟨Nat.le_of_ble_eq_true rfl, Nat.le_of_ble_eq_true rfl⟩ hW hS (As := [.ref (ad 0 0), .int 3, .int bx, .int dr]) (rest := []) rfl hl.1 (by rw [ea]; rfl) (Nat.le_of_ble_eq_true rfl) dL_law_345 ⟨by show _ ≤ 600130; omega, by show _ ≤ 7301080; omega⟩ (fun a1 s1 H locs h1 hW hS => ?_)
  refine lv_aload_n hx hb dL_law_348 rfl (lv_at hl 9 rfl) ?_
  refine lv_iconst (v := 3) hx hb dL_law_349 (by decide) ?_
  refine lv_iload hx hb dL_law_350 (lv_at hl 2 rfl) ?_
  refine lv_iload hx hb dL_law_352 (lv_at hl 0 rfl) ?_
  have hR2 := ro_in2 hR (rf_lay h1)
  refine lo_cB (na := 4) F hn2 (c_L_does_lay l hlf G s.heap.size (kx_swA ad nb) nb (kx_swS s1) (ro_CI2 hR2) bx dr) gL_law_L_does rfl (by decide +kernel) ⟨Nat.le_of_ble_eq_true rfl, Nat.le_of_ble_eq_true rfl⟩ hW hS (As := [.ref (kx_swA ad nb 0 0), .int 3, .int bx, .int dr]) (rest := [.int a1]) rfl hl.1 (by rw [eb]; rfl) (Nat.le_of_ble_eq_true rfl) dL_law_354 ⟨by show _ ≤ 600130; omega, by show _ ≤ 7301080; omega⟩ (fun b1 t1 H locs g1 hW hS => ?_)
  obtain ⟨e1, hR⟩ := ry_lay hR h1 g1
  subst e1
  refine lv_icmp_ne (tgt := 364) hx hb dL_law_357 (by decide) (fun c_357 => absurd rfl c_357) (fun c_357 => ?_)
  refine lv_iconst (v := 1) hx hb dL_law_360 (by decide) ?_
  refine lv_goto (tgt := 365) hx hb dL_law_361 (by decide) ?_
  refine lv_istore (lv' := [(4, .int 1), (12, .int dr), (11, .int (nI w)), (10, .int bx), (9, .int (nI nb)), (8, .int v), (7, .int kd), (5, .int (nI k)), (3, .int (nI mo)), (2, .ref pb), (1, .ref pa), (0, .ref b)]) hx hb dL_law_365 hl (by decide) rfl (fun ls hl => ?_)
  refine lv_goto (tgt := 777) hx hb dL_law_367 (by decide) ?_
  exact W.widen (by omega) (by omega) (kk nb ad (kx_swS t1) H locs ls hR hn2 ea eb hW hS (lv_sub hl [1, 2, 3, 7, 0, 8, 9, 10, 11] rfl))

set_option maxHeartbeats 4000000 in
set_option maxRecDepth 100000 in
theorem lo_c11 (F : kx_F p s m c cL_law 15 RL #[Value.ref b] wsL_law G s.heap.size) (hlf : l.stackTraces = false) (hmo : mo < 4) (hw : w < 14) (hcl : cells + 20 ≤ 600130) (hsl : slots + 200 ≤ 7301080) (hR : ro_RR mo nb sg) (hn2 : ad 40 0 = nb) (ea : pa = ad 0 0) (eb : pb = ad 14 0) (hW : kx_Wd G s.heap.size ad nb sg H) (hS : va_S (kx_Ad s.heap.size) s.heap H locs) (hl : lv_has ls 15 [(12, .int dr), (11, .int (nI w)), (10, .int bx), (9, .int (nI nb)), (8, .int v), (7, .int kd), (5, .int (nI k)), (4, .int 1), (3, .int (nI mo)), (2, .ref pb), (1, .ref pa), (0, .ref b)]) (kk : ∀ (nb1 : Nat) (ad1 : kx_A) (sg1 : kx_S) (H1 : Heap) (locs1 : List Loc) (ls1 : Array Slot), ro_RR mo nb1 sg1 → ad1 40 0 = nb1 → pa = ad1 0 0 → pb = ad1 14 0 → kx_Wd G s.heap.size ad1 nb1 sg1 H1 → va_S (kx_Ad s.heap.size) s.heap H1 locs1 → lv_has ls1 15 [(12, .int dr), (11, .int (nI w)), (10, .int bx), (5, .int (nI k)), (4, .int 1), (3, .int (nI mo)), (2, .ref pb), (1, .ref pa), (0, .ref b)] → W p l e room_1 s m #[Value.ref b] below meth c H1 locs1 (cells + 20) (slots + 200) Q (F0 m 777 ls1 [])) : W p l e room_1 s m #[Value.ref b] below meth c H locs cells slots Q (F0 m 377 ls []) := by
  have hx := F.1; have hb := F.2.1
  refine lv_iload hx hb dL_law_377 (lv_at hl 4 rfl) ?_
  refine lv_bipush (v := 16) hx hb dL_law_379 (by decide) ?_
  refine lv_idiv hx hb dL_law_381 (by decide) ?_
  refine lv_iconst (v := 3) hx hb dL_law_382 (by decide) ?_
  refine lv_irem hx hb dL_law_383 (by decide) ?_
  refine lv_if_ne (tgt := 392) hx hb dL_law_384 (by decide) (fun c_384 => ?_) (fun c_384 => ?_)
  · refine lv_iload hx hb dL_law_392 (lv_at hl 4 rfl) ?_
    refine lv_bipush (v := 48) hx hb dL_law_394 (by decide) ?_
    refine lv_idiv hx hb dL_law_396 (by decide) ?_
    refine lv_iconst (v := 5) hx hb dL_law_397 (by decide) ?_
    refine lv_irem hx hb dL_law_398 (by decide) ?_
    refine lv_istore (lv' := [(13, .int ((v / 48) - (v / 48) / 5 * 5)), (12, .int dr), (11, .int (nI w)), (10, .int bx), (9, .int (nI nb)), (8, .int v), (7, .int kd), (5, .int (nI k)), (4, .int 1), (3, .int (nI mo)), (2, .ref pb), (1, .ref pa), (0, .ref b)]) hx hb dL_law_399 hl (by decide) rfl (fun ls hl => ?_)
    refine lv_aload_n hx hb dL_law_401 rfl (lv_at hl 11 rfl) ?_
    refine lv_iconst (v := 4) hx hb dL_law_402 (by decide) ?_
    refine lv_iload hx hb dL_law_403 (lv_at hl 3 rfl) ?_
    refine lv_iload hx hb dL_law_405 (lv_at hl 0 rfl) ?_
    refine lo_cA (na := 4) F (c_L_does_find l hlf G s.heap.size ad nb sg (ro_CI1 hR) bx ((v / 48) - (v / 48) / 5 * 5)) gL_law_L_does rfl (by decide +kernel) ⟨Nat.le_of_ble_eq_true rfl, Nat.le_of_ble_eq_true rfl⟩ hW hS (As := [.ref (ad 0 0), .int 4, .int bx, .int ((v / 48) - (v / 48) / 5 * 5)]) (rest := []) rfl hl.1 (by rw [ea]; rfl) (Nat.le_of_ble_eq_true rfl) dL_law_407 ⟨by show _ ≤ 600130; omega, by show _ ≤ 7301080; omega⟩ (fun a1 s1 H locs h1 hW hS => ?_)
    refine lv_aload_n hx hb dL_law_410 rfl (lv_at hl 10 rfl) ?_
    refine lv_iconst (v := 4) hx hb dL_law_411 (by decide) ?_
    refine lv_iload hx hb dL_law_412 (lv_at hl 3 rfl) ?_
    refine lv_iload hx hb dL_law_414 (lv_at hl 0 rfl) ?_
    refine lv_iload_n hx hb dL_law_416 rfl (lv_at hl 9 rfl) ?_
    refine kx_cS (na := 2) F (c_L_place l G s.heap.size ad nb _ ((v / 48) - (v / 48) / 5 * 5) (nI mo)) gL_law_L_place rfl (by decide +kernel) ⟨Nat.le_of_ble_eq_true rfl, Nat.le_of_ble_eq_true rfl⟩ hW hS (As := [.int ((v / 48) - (v / 48) / 5 * 5), .int (nI mo)]) (rest := [.int bx, .int 4, .ref pb, .int a1]) rfl hl.1 rfl (Nat.le_of_ble_eq_true rfl) dL_law_417 ⟨by show _ ≤ 600130; omega, by show _ ≤ 7301080; omega⟩ (fun r9 sg9 H locs hq hW hS => ?_)
    obtain ⟨rfl, e9⟩ := hq
    rw [e9] at hW
    refine W.eq (g2 := F0 m 420 ls [.int (lo_pl ((v / 48) - (v / 48) / 5 * 5) (nI mo)), .int bx, .int 4, .ref pb, .int a1]) rfl ?_
    rw [lo_pl_eq hmo]
    have hR2 := ro_in2 hR (rf_find h1)
    refine lo_cB (na := 4) F hn2 (c_L_does_find l hlf G s.heap.size (kx_swA ad nb) nb (kx_swS s1) (ro_CI2 hR2) bx (ro_p mo ((v / 48) - (v / 48) / 5 * 5))) gL_law_L_does rfl (by decide +kernel) ⟨Nat.le_of_ble_eq_true rfl, Nat.le_of_ble_eq_true rfl⟩ hW hS (As := [.ref (kx_swA ad nb 0 0), .int 4, .int bx, .int (ro_p mo ((v / 48) - (v / 48) / 5 * 5))]) (rest := [.int a1]) rfl hl.1 (by rw [eb]; rfl) (Nat.le_of_ble_eq_true rfl) dL_law_420 ⟨by show _ ≤ 600130; omega, by show _ ≤ 7301080; omega⟩ (fun b1 t1 H locs g1 hW hS => ?_)
    obtain ⟨e1, hR⟩ := ry_find hR h1 g1
    subst e1
    refine lv_icmp_ne (tgt := 430) hx hb dL_law_423 (by decide) (fun c_423 => absurd rfl c_423) (fun c_423 => ?_)
    refine lv_iconst (v := 1) hx hb dL_law_426 (by decide) ?_
    refine lv_goto (tgt := 431) hx hb dL_law_427 (by decide) ?_
    refine lv_istore (lv' := [(4, .int 1), (13, .int ((v / 48) - (v / 48) / 5 * 5)), (12, .int dr), (11, .int (nI w)), (10, .int bx), (9, .int (nI nb)), (8, .int v), (7, .int kd), (5, .int (nI k)), (3, .int (nI mo)), (2, .ref pb), (1, .ref pa), (0, .ref b)]) hx hb dL_law_431 hl (by decide) rfl (fun ls hl => ?_)
    refine lv_goto (tgt := 777) hx hb dL_law_433 (by decide) ?_
    exact W.widen (by omega) (by omega) (kk nb ad (kx_swS t1) H locs ls hR hn2 ea eb hW hS (lv_sub hl [2, 3, 4, 8, 0, 9, 10, 11, 12] rfl))
  · refine lv_bipush (v := 30) hx hb dL_law_387 (by decide) ?_
    refine lv_goto (tgt := 399) hx hb dL_law_389 (by decide) ?_
    refine lv_istore (lv' := [(13, .int 30), (12, .int dr), (11, .int (nI w)), (10, .int bx), (9, .int (nI nb)), (8, .int v), (7, .int kd), (5, .int (nI k)), (4, .int 1), (3, .int (nI mo)), (2, .ref pb), (1, .ref pa), (0, .ref b)]) hx hb dL_law_399 hl (by decide) rfl (fun ls hl => ?_)
    refine lv_aload_n hx hb dL_law_401 rfl (lv_at hl 11 rfl) ?_
    refine lv_iconst (v := 4) hx hb dL_law_402 (by decide) ?_
    refine lv_iload hx hb dL_law_403 (lv_at hl 3 rfl) ?_
    refine lv_iload hx hb dL_law_405 (lv_at hl 0 rfl) ?_
    refine lo_cA (na := 4) F (c_L_does_find l hlf G s.heap.size ad nb sg (ro_CI1 hR) bx 30) gL_law_L_does rfl (by decide +kernel) ⟨Nat.le_of_ble_eq_true rfl, Nat.le_of_ble_eq_true rfl⟩ hW hS (As := [.ref (ad 0 0), .int 4, .int bx, .int 30]) (rest := []) rfl hl.1 (by rw [ea]; rfl) (Nat.le_of_ble_eq_true rfl) dL_law_407 ⟨by show _ ≤ 600130; omega, by show _ ≤ 7301080; omega⟩ (fun a1 s1 H locs h1 hW hS => ?_)
    refine lv_aload_n hx hb dL_law_410 rfl (lv_at hl 10 rfl) ?_
    refine lv_iconst (v := 4) hx hb dL_law_411 (by decide) ?_
    refine lv_iload hx hb dL_law_412 (lv_at hl 3 rfl) ?_
    refine lv_iload hx hb dL_law_414 (lv_at hl 0 rfl) ?_
    refine lv_iload_n hx hb dL_law_416 rfl (lv_at hl 9 rfl) ?_
    refine kx_cS (na := 2) F (c_L_place l G s.heap.size ad nb _ 30 (nI mo)) gL_law_L_place rfl (by decide +kernel) ⟨Nat.le_of_ble_eq_true rfl, Nat.le_of_ble_eq_true rfl⟩ hW hS (As := [.int 30, .int (nI mo)]) (rest := [.int bx, .int 4, .ref pb, .int a1]) rfl hl.1 rfl (Nat.le_of_ble_eq_true rfl) dL_law_417 ⟨by show _ ≤ 600130; omega, by show _ ≤ 7301080; omega⟩ (fun r9 sg9 H locs hq hW hS => ?_)
    obtain ⟨rfl, e9⟩ := hq
    rw [e9] at hW
    refine W.eq (g2 := F0 m 420 ls [.int (lo_pl 30 (nI mo)), .int bx, .int 4, .ref pb, .int a1]) rfl ?_
    rw [lo_pl_eq hmo]
    have hR2 := ro_in2 hR (rf_find h1)
    refine lo_cB (na := 4) F hn2 (c_L_does_find l hlf G s.heap.size (kx_swA ad nb) nb (kx_swS s1) (ro_CI2 hR2) bx (ro_p mo 30)) gL_law_L_does rfl (by decide +kernel) ⟨Nat.le_of_ble_eq_true rfl, Nat.le_of_ble_eq_true rfl⟩ hW hS (As := [.ref (kx_swA ad nb 0 0), .int 4, .int bx, .int (ro_p mo 30)]) (rest := [.int a1]) rfl hl.1 (by rw [eb]; rfl) (Nat.le_of_ble_eq_true rfl) dL_law_420 ⟨by show _ ≤ 600130; omega, by show _ ≤ 7301080; omega⟩ (fun b1 t1 H locs g1 hW hS => ?_)
    obtain ⟨e1, hR⟩ := ry_find hR h1 g1
    subst e1
    refine lv_icmp_ne (tgt := 430) hx hb dL_law_423 (by decide) (fun c_423 => absurd rfl c_423) (fun c_423 => ?_)
    refine lv_iconst (v := 1) hx hb dL_law_426 (by decide) ?_
    refine lv_goto (tgt := 431) hx hb dL_law_427 (by decide) ?_
    refine lv_istore (lv' := [(4, .int 1), (13, .int 30), (12, .int dr), (11, .int (nI w)), (10, .int bx), (9, .int (nI nb)), (8, .int v), (7, .int kd), (5, .int (nI k)), (3, .int (nI mo)), (2, .ref pb), (1, .ref pa), (0, .ref b)]) hx hb dL_law_431 hl (by decide) rfl (fun ls hl => ?_)
    refine lv_goto (tgt := 777) hx hb dL_law_433 (by decide) ?_
    exact W.widen (by omega) (by omega) (kk nb ad (kx_swS t1) H locs ls hR hn2 ea eb hW hS (lv_sub hl [2, 3, 4, 8, 0, 9, 10, 11, 12] rfl))

set_option maxHeartbeats 4000000 in
set_option maxRecDepth 100000 in
theorem lo_c12 (F : kx_F p s m c cL_law 15 RL #[Value.ref b] wsL_law G s.heap.size) (hlf : l.stackTraces = false) (hmo : mo < 4) (hw : w < 14) (hcl : cells + 20 ≤ 600130) (hsl : slots + 200 ≤ 7301080) (hR : ro_RR mo nb sg) (hn2 : ad 40 0 = nb) (ea : pa = ad 0 0) (eb : pb = ad 14 0) (hW : kx_Wd G s.heap.size ad nb sg H) (hS : va_S (kx_Ad s.heap.size) s.heap H locs) (hl : lv_has ls 15 [(12, .int dr), (11, .int (nI w)), (10, .int bx), (9, .int (nI nb)), (8, .int v), (7, .int kd), (5, .int (nI k)), (4, .int 1), (3, .int (nI mo)), (2, .ref pb), (1, .ref pa), (0, .ref b)]) (kk : ∀ (nb1 : Nat) (ad1 : kx_A) (sg1 : kx_S) (H1 : Heap) (locs1 : List Loc) (ls1 : Array Slot), ro_RR mo nb1 sg1 → ad1 40 0 = nb1 → pa = ad1 0 0 → pb = ad1 14 0 → kx_Wd G s.heap.size ad1 nb1 sg1 H1 → va_S (kx_Ad s.heap.size) s.heap H1 locs1 → lv_has ls1 15 [(12, .int dr), (11, .int (nI w)), (10, .int bx), (5, .int (nI k)), (4, .int 1), (3, .int (nI mo)), (2, .ref pb), (1, .ref pa), (0, .ref b)] → W p l e room_1 s m #[Value.ref b] below meth c H1 locs1 (cells + 20) (slots + 200) Q (F0 m 777 ls1 [])) : W p l e room_1 s m #[Value.ref b] below meth c H locs cells slots Q (F0 m 443 ls []) := by
  have hx := F.1; have hb := F.2.1
  refine lv_aload_n hx hb dL_law_443 rfl (lv_at hl 10 rfl) ?_
  refine lv_iconst (v := 1) hx hb dL_law_444 (by decide) ?_
  refine lv_iload hx hb dL_law_445 (lv_at hl 1 rfl) ?_
  refine lv_iconst (v := 1) hx hb dL_law_447 (by decide) ?_
  refine lv_iload hx hb dL_law_448 (lv_at hl 4 rfl) ?_
  refine lv_sipush (v := 224) hx hb dL_law_450 (by decide) ?_
  refine lv_idiv hx hb dL_law_453 (by decide) ?_
  refine lv_bipush (v := 9) hx hb dL_law_454 (by decide) ?_
  refine lv_irem hx hb dL_law_456 (by decide) ?_
  refine lv_iadd hx hb dL_law_457 ?_
  refine lo_cA (na := 4) F (c_L_does_setTrust l hlf G s.heap.size ad nb sg (ro_CI1 hR) (nI w) (1 + ((v / 224) - (v / 224) / 9 * 9))) gL_law_L_does rfl (by decide +kernel) ⟨Nat.le_of_ble_eq_true rfl, Nat.le_of_ble_eq_true rfl⟩ hW hS (As := [.ref (ad 0 0), .int 1, .int (nI w), .int (1 + ((v / 224) - (v / 224) / 9 * 9))]) (rest := []) rfl hl.1 (by rw [ea]; rfl) (Nat.le_of_ble_eq_true rfl) dL_law_458 ⟨by show _ ≤ 600130; omega, by show _ ≤ 7301080; omega⟩ (fun a1 s1 H locs h1 hW hS => ?_)
  refine lv_aload_n hx hb dL_law_461 rfl (lv_at hl 9 rfl) ?_
  refine lv_iconst (v := 1) hx hb dL_law_462 (by decide) ?_
  refine lv_iload hx hb dL_law_463 (lv_at hl 1 rfl) ?_
  refine lv_iload_n hx hb dL_law_465 rfl (lv_at hl 8 rfl) ?_
  refine kx_cS (na := 2) F (c_L_there l G s.heap.size ad nb _ (nI w) (nI mo)) gL_law_L_there rfl (by decide +kernel) ⟨Nat.le_of_ble_eq_true rfl, Nat.le_of_ble_eq_true rfl⟩ hW hS (As := [.int (nI w), .int (nI mo)]) (rest := [.int 1, .ref pb, .int a1]) rfl hl.1 rfl (Nat.le_of_ble_eq_true rfl) dL_law_466 ⟨by show _ ≤ 600130; omega, by show _ ≤ 7301080; omega⟩ (fun r9 sg9 H locs hq hW hS => ?_)
  obtain ⟨rfl, e9⟩ := hq
  rw [e9] at hW
  refine W.eq (g2 := F0 m 469 ls [.int (lo_th (nI w) (nI mo)), .int 1, .ref pb, .int a1]) rfl ?_
  rw [lo_th_eq w (by omega) mo hmo]
  refine lv_iconst (v := 1) hx hb dL_law_469 (by decide) ?_
  refine lv_iload hx hb dL_law_470 (lv_at hl 4 rfl) ?_
  refine lv_sipush (v := 224) hx hb dL_law_472 (by decide) ?_
  refine lv_idiv hx hb dL_law_475 (by decide) ?_
  refine lv_bipush (v := 9) hx hb dL_law_476 (by decide) ?_
  refine lv_irem hx hb dL_law_478 (by decide) ?_
  refine lv_iadd hx hb dL_law_479 ?_
  have hR2 := ro_in2 hR (rf_setTrust h1)
  refine lo_cB (na := 4) F hn2 (c_L_does_setTrust l hlf G s.heap.size (kx_swA ad nb) nb (kx_swS s1) (ro_CI2 hR2) (nI (ro_s mo w)) (1 + ((v / 224) - (v / 224) / 9 * 9))) gL_law_L_does rfl (by decide +kernel) ⟨Nat.le_of_ble_eq_true rfl, Nat.le_of_ble_eq_true rfl⟩ hW hS (As := [.ref (kx_swA ad nb 0 0), .int 1, .int (nI (ro_s mo w)), .int (1 + ((v / 224) - (v / 224) / 9 * 9))]) (rest := [.int a1]) rfl hl.1 (by rw [eb]; rfl) (Nat.le_of_ble_eq_true rfl) dL_law_480 ⟨by show _ ≤ 600130; omega, by show _ ≤ 7301080; omega⟩ (fun b1 t1 H locs g1 hW hS => ?_)
  obtain ⟨e1, hR⟩ := ry_setTrust hR hw h1 g1
  subst e1
  refine lv_icmp_ne (tgt := 490) hx hb dL_law_483 (by decide) (fun c_483 => absurd rfl c_483) (fun c_483 => ?_)
  refine lv_iconst (v := 1) hx hb dL_law_486 (by decide) ?_
  refine lv_goto (tgt := 491) hx hb dL_law_487 (by decide) ?_
  refine lv_istore (lv' := [(4, .int 1), (12, .int dr), (11, .int (nI w)), (10, .int bx), (9, .int (nI nb)), (8, .int v), (7, .int kd), (5, .int (nI k)), (3, .int (nI mo)), (2, .ref pb), (1, .ref pa), (0, .ref b)]) hx hb dL_law_491 hl (by decide) rfl (fun ls hl => ?_)
  refine lv_goto (tgt := 777) hx hb dL_law_493 (by decide) ?_
  exact W.widen (by omega) (by omega) (kk nb ad (kx_swS t1) H locs ls hR hn2 ea eb hW hS (lv_sub hl [1, 2, 3, 7, 0, 8, 9, 10, 11] rfl))

set_option maxHeartbeats 4000000 in
set_option maxRecDepth 100000 in
theorem lo_c13 (F : kx_F p s m c cL_law 15 RL #[Value.ref b] wsL_law G s.heap.size) (hlf : l.stackTraces = false) (hmo : mo < 4) (hw : w < 14) (hcl : cells + 20 ≤ 600130) (hsl : slots + 200 ≤ 7301080) (hR : ro_RR mo nb sg) (hn2 : ad 40 0 = nb) (ea : pa = ad 0 0) (eb : pb = ad 14 0) (hW : kx_Wd G s.heap.size ad nb sg H) (hS : va_S (kx_Ad s.heap.size) s.heap H locs) (hl : lv_has ls 15 [(12, .int dr), (11, .int (nI w)), (10, .int bx), (9, .int (nI nb)), (8, .int v), (7, .int kd), (5, .int (nI k)), (4, .int 1), (3, .int (nI mo)), (2, .ref pb), (1, .ref pa), (0, .ref b)]) (kk : ∀ (nb1 : Nat) (ad1 : kx_A) (sg1 : kx_S) (H1 : Heap) (locs1 : List Loc) (ls1 : Array Slot), ro_RR mo nb1 sg1 → ad1 40 0 = nb1 → pa = ad1 0 0 → pb = ad1 14 0 → kx_Wd G s.heap.size ad1 nb1 sg1 H1 → va_S (kx_Ad s.heap.size) s.heap H1 locs1 → lv_has ls1 15 [(12, .int dr), (11, .int (nI w)), (10, .int bx), (5, .int (nI k)), (4, .int 1), (3, .int (nI mo)), (2, .ref pb), (1, .ref pa), (0, .ref b)] → W p l e room_1 s m #[Value.ref b] below meth c H1 locs1 (cells + 20) (slots + 200) Q (F0 m 777 ls1 [])) : W p l e room_1 s m #[Value.ref b] below meth c H locs cells slots Q (F0 m 503 ls []) := by
  have hx := F.1; have hb := F.2.1
  refine lv_aload_n hx hb dL_law_503 rfl (lv_at hl 10 rfl) ?_
  refine lv_iconst (v := 5) hx hb dL_law_504 (by decide) ?_
  refine lv_iload hx hb dL_law_505 (lv_at hl 0 rfl) ?_
  refine lv_iconst (v := 1) hx hb dL_law_507 (by decide) ?_
  refine lv_iload hx hb dL_law_508 (lv_at hl 4 rfl) ?_
  refine lv_sipush (v := 160) hx hb dL_law_510 (by decide) ?_
  refine lv_idiv hx hb dL_law_513 (by decide) ?_
  refine lv_iconst (v := 3) hx hb dL_law_514 (by decide) ?_
  refine lv_irem hx hb dL_law_515 (by decide) ?_
  refine lv_iadd hx hb dL_law_516 ?_
  refine lo_cA (na := 4) F (c_L_does_setDoor l hlf G s.heap.size ad nb sg (ro_CI1 hR) dr (1 + ((v / 160) - (v / 160) / 3 * 3))) gL_law_L_does rfl (by decide +kernel) ⟨Nat.le_of_ble_eq_true rfl, Nat.le_of_ble_eq_true rfl⟩ hW hS (As := [.ref (ad 0 0), .int 5, .int dr, .int (1 + ((v / 160) - (v / 160) / 3 * 3))]) (rest := []) rfl hl.1 (by rw [ea]; rfl) (Nat.le_of_ble_eq_true rfl) dL_law_517 ⟨by show _ ≤ 600130; omega, by show _ ≤ 7301080; omega⟩ (fun a1 s1 H locs h1 hW hS => ?_)
  refine lv_aload_n hx hb dL_law_520 rfl (lv_at hl 9 rfl) ?_
  refine lv_iconst (v := 5) hx hb dL_law_521 (by decide) ?_
  refine lv_iload hx hb dL_law_522 (lv_at hl 0 rfl) ?_
  refine lv_iconst (v := 1) hx hb dL_law_524 (by decide) ?_
  refine lv_iload hx hb dL_law_525 (lv_at hl 4 rfl) ?_
  refine lv_sipush (v := 160) hx hb dL_law_527 (by decide) ?_
  refine lv_idiv hx hb dL_law_530 (by decide) ?_
  refine lv_iconst (v := 3) hx hb dL_law_531 (by decide) ?_
  refine lv_irem hx hb dL_law_532 (by decide) ?_
  refine lv_iadd hx hb dL_law_533 ?_
  have hR2 := ro_in2 hR (rf_setDoor h1)
  refine lo_cB (na := 4) F hn2 (c_L_does_setDoor l hlf G s.heap.size (kx_swA ad nb) nb (kx_swS s1) (ro_CI2 hR2) dr (1 + ((v / 160) - (v / 160) / 3 * 3))) gL_law_L_does rfl (by decide +kernel) ⟨Nat.le_of_ble_eq_true rfl, Nat.le_of_ble_eq_true rfl⟩ hW hS (As := [.ref (kx_swA ad nb 0 0), .int 5, .int dr, .int (1 + ((v / 160) - (v / 160) / 3 * 3))]) (rest := [.int a1]) rfl hl.1 (by rw [eb]; rfl) (Nat.le_of_ble_eq_true rfl) dL_law_534 ⟨by show _ ≤ 600130; omega, by show _ ≤ 7301080; omega⟩ (fun b1 t1 H locs g1 hW hS => ?_)
  obtain ⟨e1, hR⟩ := ry_setDoor hR h1 g1
  subst e1
  refine lv_icmp_ne (tgt := 544) hx hb dL_law_537 (by decide) (fun c_537 => absurd rfl c_537) (fun c_537 => ?_)
  refine lv_iconst (v := 1) hx hb dL_law_540 (by decide) ?_
  refine lv_goto (tgt := 545) hx hb dL_law_541 (by decide) ?_
  refine lv_istore (lv' := [(4, .int 1), (12, .int dr), (11, .int (nI w)), (10, .int bx), (9, .int (nI nb)), (8, .int v), (7, .int kd), (5, .int (nI k)), (3, .int (nI mo)), (2, .ref pb), (1, .ref pa), (0, .ref b)]) hx hb dL_law_545 hl (by decide) rfl (fun ls hl => ?_)
  refine lv_goto (tgt := 777) hx hb dL_law_547 (by decide) ?_
  exact W.widen (by omega) (by omega) (kk nb ad (kx_swS t1) H locs ls hR hn2 ea eb hW hS (lv_sub hl [1, 2, 3, 7, 0, 8, 9, 10, 11] rfl))

set_option maxHeartbeats 4000000 in
set_option maxRecDepth 100000 in
theorem lo_ck14 (F : kx_F p s m c cL_law 15 RL #[Value.ref b] wsL_law G s.heap.size) (hlf : l.stackTraces = false) (hmo : mo < 4) (hw : w < 14) (hcl : cells + 20 ≤ 600130) (hsl : slots + 200 ≤ 7301080) (hR : ro_RR mo nb sg) (hn2 : ad 40 0 = nb) (ea : pa = ad 0 0) (eb : pb = ad 14 0) (hW : kx_Wd G s.heap.size ad nb sg H) (hS : va_S (kx_Ad s.heap.size) s.heap H locs) (hl : lv_has ls 15 [(12, .int dr), (11, .int (nI w)), (10, .int bx), (9, .int (nI nb)), (8, .int v), (7, .int kd), (5, .int (nI k)), (4, .int 1), (3, .int (nI mo)), (2, .ref pb), (1, .ref pa), (0, .ref b)]) (kk : ∀ (nb1 : Nat) (ad1 : kx_A) (sg1 : kx_S) (H1 : Heap) (locs1 : List Loc) (ls1 : Array Slot), ro_RR mo nb1 sg1 → ad1 40 0 = nb1 → pa = ad1 0 0 → pb = ad1 14 0 → kx_Wd G s.heap.size ad1 nb1 sg1 H1 → va_S (kx_Ad s.heap.size) s.heap H1 locs1 → lv_has ls1 15 [(12, .int dr), (11, .int (nI w)), (10, .int bx), (5, .int (nI k)), (4, .int 1), (3, .int (nI mo)), (2, .ref pb), (1, .ref pa), (0, .ref b)] → W p l e room_1 s m #[Value.ref b] below meth c H1 locs1 (cells + 20) (slots + 200) Q (F0 m 777 ls1 [])) : W p l e room_1 s m #[Value.ref b] below meth c H locs cells slots Q (F0 m 557 ls []) := by
  have hx := F.1; have hb := F.2.1
  refine lv_aload_n hx hb dL_law_557 rfl (lv_at hl 10 rfl) ?_
  refine lv_bipush (v := 6) hx hb dL_law_558 (by decide) ?_
  refine lv_iload hx hb dL_law_560 (lv_at hl 0 rfl) ?_
  refine lv_iload hx hb dL_law_562 (lv_at hl 2 rfl) ?_
  refine lo_cA (na := 4) F (c_L_does_keep l hlf G s.heap.size ad nb sg (ro_CI1 hR) dr bx) gL_law_L_does rfl (by decide +kernel) ⟨Nat.le_of_ble_eq_true rfl, Nat.le_of_ble_eq_true rfl⟩ hW hS (As := [.ref (ad 0 0), .int 6, .int dr, .int bx]) (rest := []) rfl hl.1 (by rw [ea]; rfl) (Nat.le_of_ble_eq_true rfl) dL_law_564 ⟨by show _ ≤ 600130; omega, by show _ ≤ 7301080; omega⟩ (fun a1 s1 H locs h1 hW hS => ?_)
  refine lv_istore (lv' := [(13, .int a1), (12, .int dr), (11, .int (nI w)), (10, .int bx), (9, .int (nI nb)), (8, .int v), (7, .int kd), (5, .int (nI k)), (4, .int 1), (3, .int (nI mo)), (2, .ref pb), (1, .ref pa), (0, .ref b)]) hx hb dL_law_567 hl (by decide) rfl (fun ls hl => ?_)
  refine lv_aload_n hx hb dL_law_569 rfl (lv_at hl 10 rfl) ?_
  refine lv_bipush (v := 6) hx hb dL_law_570 (by decide) ?_
  refine lv_iload hx hb dL_law_572 (lv_at hl 1 rfl) ?_
  refine lv_iload hx hb dL_law_574 (lv_at hl 3 rfl) ?_
  have hR2 := ro_in2 hR (rf_keep h1)
  refine lo_cB (na := 4) F hn2 (c_L_does_keep l hlf G s.heap.size (kx_swA ad nb) nb (kx_swS s1) (ro_CI2 hR2) dr bx) gL_law_L_does rfl (by decide +kernel) ⟨Nat.le_of_ble_eq_true rfl, Nat.le_of_ble_eq_true rfl⟩ hW hS (As := [.ref (kx_swA ad nb 0 0), .int 6, .int dr, .int bx]) (rest := []) rfl hl.1 (by rw [eb]; rfl) (Nat.le_of_ble_eq_true rfl) dL_law_576 ⟨by show _ ≤ 600130; omega, by show _ ≤ 7301080; omega⟩ (fun b1 t1 H locs g1 hW hS => ?_)
  obtain ⟨e1, hR⟩ := ry_keep hR h1 g1
  subst e1
  refine lv_iload hx hb dL_law_579 (lv_at hl 0 rfl) ?_
  refine lv_icmp_ne (tgt := 623) hx hb dL_law_581 (by decide) (fun c_581 => absurd rfl c_581) (fun c_581 => ?_)
  refine lv_iload hx hb dL_law_584 (lv_at hl 0 rfl) ?_
  refine lv_if_lt (tgt := 619) hx hb dL_law_586 (by decide) (fun c_586 => ?_) (fun c_586 => ?_)
  · refine lv_iconst (v := 1) hx hb dL_law_619 (by decide) ?_
    refine lv_goto (tgt := 624) hx hb dL_law_620 (by decide) ?_
    refine lv_istore (lv' := [(4, .int 1), (13, .int a1), (12, .int dr), (11, .int (nI w)), (10, .int bx), (9, .int (nI nb)), (8, .int v), (7, .int kd), (5, .int (nI k)), (3, .int (nI mo)), (2, .ref pb), (1, .ref pa), (0, .ref b)]) hx hb dL_law_624 hl (by decide) rfl (fun ls hl => ?_)
    refine lv_goto (tgt := 777) hx hb dL_law_626 (by decide) ?_
    exact W.widen (by omega) (by omega) (kk nb ad (kx_swS t1) H locs ls hR hn2 ea eb hW hS (lv_sub hl [2, 3, 4, 8, 0, 9, 10, 11, 12] rfl))
  · refine lv_iload hx hb dL_law_589 (lv_at hl 5 rfl) ?_
    refine lv_iconst (v := 3) hx hb dL_law_591 (by decide) ?_
    refine lv_irem hx hb dL_law_592 (by decide) ?_
    refine lv_if_gt (tgt := 619) hx hb dL_law_593 (by decide) (fun c_593 => ?_) (fun c_593 => ?_)
    · refine lv_iconst (v := 1) hx hb dL_law_619 (by decide) ?_
      refine lv_goto (tgt := 624) hx hb dL_law_620 (by decide) ?_
      refine lv_istore (lv' := [(4, .int 1), (13, .int a1), (12, .int dr), (11, .int (nI w)), (10, .int bx), (9, .int (nI nb)), (8, .int v), (7, .int kd), (5, .int (nI k)), (3, .int (nI mo)), (2, .ref pb), (1, .ref pa), (0, .ref b)]) hx hb dL_law_624 hl (by decide) rfl (fun ls hl => ?_)
      refine lv_goto (tgt := 777) hx hb dL_law_626 (by decide) ?_
      exact W.widen (by omega) (by omega) (kk nb ad (kx_swS t1) H locs ls hR hn2 ea eb hW hS (lv_sub hl [2, 3, 4, 8, 0, 9, 10, 11, 12] rfl))
    · refine lv_aload_n hx hb dL_law_596 rfl (lv_at hl 11 rfl) ?_
      refine lv_bipush (v := 7) hx hb dL_law_597 (by decide) ?_
      refine lv_iload hx hb dL_law_599 (lv_at hl 1 rfl) ?_
      refine lv_iload hx hb dL_law_601 (lv_at hl 0 rfl) ?_
      refine lo_cA (na := 4) F (c_L_does_open l hlf G s.heap.size ad nb (kx_swS t1) (ro_CI1 hR) dr a1) gL_law_L_does rfl (by decide +kernel) ⟨Nat.le_of_ble_eq_true rfl, Nat.le_of_ble_eq_true rfl⟩ hW hS (As := [.ref (ad 0 0), .int 7, .int dr, .int a1]) (rest := []) rfl hl.1 (by rw [ea]; rfl) (Nat.le_of_ble_eq_true rfl) dL_law_603 ⟨by show _ ≤ 600130; omega, by show _ ≤ 7301080; omega⟩ (fun a2 s2 H locs h2 hW hS => ?_)
      refine lv_aload_n hx hb dL_law_606 rfl (lv_at hl 10 rfl) ?_
      refine lv_bipush (v := 7) hx hb dL_law_607 (by decide) ?_
      refine lv_iload hx hb dL_law_609 (lv_at hl 1 rfl) ?_
      refine lv_iload hx hb dL_law_611 (lv_at hl 0 rfl) ?_
      have hR2 := ro_in2 hR (rf_open h2)
      refine lo_cB (na := 4) F hn2 (c_L_does_open l hlf G s.heap.size (kx_swA ad nb) nb (kx_swS s2) (ro_CI2 hR2) dr a1) gL_law_L_does rfl (by decide +kernel) ⟨Nat.le_of_ble_eq_true rfl, Nat.le_of_ble_eq_true rfl⟩ hW hS (As := [.ref (kx_swA ad nb 0 0), .int 7, .int dr, .int a1]) (rest := [.int a2]) rfl hl.1 (by rw [eb]; rfl) (Nat.le_of_ble_eq_true rfl) dL_law_613 ⟨by show _ ≤ 600130; omega, by show _ ≤ 7301080; omega⟩ (fun b2 t2 H locs g2 hW hS => ?_)
      obtain ⟨e2, hR⟩ := ry_open hR h2 g2
      subst e2
      refine lv_icmp_ne (tgt := 623) hx hb dL_law_616 (by decide) (fun c_616 => absurd rfl c_616) (fun c_616 => ?_)
      refine lv_iconst (v := 1) hx hb dL_law_619 (by decide) ?_
      refine lv_goto (tgt := 624) hx hb dL_law_620 (by decide) ?_
      refine lv_istore (lv' := [(4, .int 1), (13, .int a1), (12, .int dr), (11, .int (nI w)), (10, .int bx), (9, .int (nI nb)), (8, .int v), (7, .int kd), (5, .int (nI k)), (3, .int (nI mo)), (2, .ref pb), (1, .ref pa), (0, .ref b)]) hx hb dL_law_624 hl (by decide) rfl (fun ls hl => ?_)
      refine lv_goto (tgt := 777) hx hb dL_law_626 (by decide) ?_
      exact W.widen (by omega) (by omega) (kk nb ad (kx_swS t2) H locs ls hR hn2 ea eb hW hS (lv_sub hl [2, 3, 4, 8, 0, 9, 10, 11, 12] rfl))

set_option maxHeartbeats 4000000 in
set_option maxRecDepth 100000 in
theorem lo_c15 (F : kx_F p s m c cL_law 15 RL #[Value.ref b] wsL_law G s.heap.size) (hlf : l.stackTraces = false) (hmo : mo < 4) (hw : w < 14) (hcl : cells + 20 ≤ 600130) (hsl : slots + 200 ≤ 7301080) (hR : ro_RR mo nb sg) (hn2 : ad 40 0 = nb) (ea : pa = ad 0 0) (eb : pb = ad 14 0) (hW : kx_Wd G s.heap.size ad nb sg H) (hS : va_S (kx_Ad s.heap.size) s.heap H locs) (hl : lv_has ls 15 [(12, .int dr), (11, .int (nI w)), (10, .int bx), (9, .int (nI nb)), (8, .int v), (7, .int kd), (5, .int (nI k)), (4, .int 1), (3, .int (nI mo)), (2, .ref pb), (1, .ref pa), (0, .ref b)]) (kk : ∀ (nb1 : Nat) (ad1 : kx_A) (sg1 : kx_S) (H1 : Heap) (locs1 : List Loc) (ls1 : Array Slot), ro_RR mo nb1 sg1 → ad1 40 0 = nb1 → pa = ad1 0 0 → pb = ad1 14 0 → kx_Wd G s.heap.size ad1 nb1 sg1 H1 → va_S (kx_Ad s.heap.size) s.heap H1 locs1 → lv_has ls1 15 [(12, .int dr), (11, .int (nI w)), (10, .int bx), (5, .int (nI k)), (4, .int 1), (3, .int (nI mo)), (2, .ref pb), (1, .ref pa), (0, .ref b)] → W p l e room_1 s m #[Value.ref b] below meth c H1 locs1 (cells + 20) (slots + 200) Q (F0 m 777 ls1 [])) : W p l e room_1 s m #[Value.ref b] below meth c H locs cells slots Q (F0 m 636 ls []) := by
  have hx := F.1; have hb := F.2.1
  refine lv_aload_n hx hb dL_law_636 rfl (lv_at hl 10 rfl) ?_
  refine lv_bipush (v := 7) hx hb dL_law_637 (by decide) ?_
  refine lv_iload hx hb dL_law_639 (lv_at hl 0 rfl) ?_
  refine lv_iload hx hb dL_law_641 (lv_at hl 4 rfl) ?_
  refine lv_sipush (v := 160) hx hb dL_law_643 (by decide) ?_
  refine lv_idiv hx hb dL_law_646 (by decide) ?_
  refine lv_sipush (v := 1000) hx hb dL_law_647 (by decide) ?_
  refine lv_irem hx hb dL_law_650 (by decide) ?_
  refine lo_cA (na := 4) F (c_L_does_open l hlf G s.heap.size ad nb sg (ro_CI1 hR) dr ((v / 160) - (v / 160) / 1000 * 1000)) gL_law_L_does rfl (by decide +kernel) ⟨Nat.le_of_ble_eq_true rfl, Nat.le_of_ble_eq_true rfl⟩ hW hS (As := [.ref (ad 0 0), .int 7, .int dr, .int ((v / 160) - (v / 160) / 1000 * 1000)]) (rest := []) rfl hl.1 (by rw [ea]; rfl) (Nat.le_of_ble_eq_true rfl) dL_law_651 ⟨by show _ ≤ 600130; omega, by show _ ≤ 7301080; omega⟩ (fun a1 s1 H locs h1 hW hS => ?_)
  refine lv_aload_n hx hb dL_law_654 rfl (lv_at hl 9 rfl) ?_
  refine lv_bipush (v := 7) hx hb dL_law_655 (by decide) ?_
  refine lv_iload hx hb dL_law_657 (lv_at hl 0 rfl) ?_
  refine lv_iload hx hb dL_law_659 (lv_at hl 4 rfl) ?_
  refine lv_sipush (v := 160) hx hb dL_law_661 (by decide) ?_
  refine lv_idiv hx hb dL_law_664 (by decide) ?_
  refine lv_sipush (v := 1000) hx hb dL_law_665 (by decide) ?_
  refine lv_irem hx hb dL_law_668 (by decide) ?_
  have hR2 := ro_in2 hR (rf_open h1)
  refine lo_cB (na := 4) F hn2 (c_L_does_open l hlf G s.heap.size (kx_swA ad nb) nb (kx_swS s1) (ro_CI2 hR2) dr ((v / 160) - (v / 160) / 1000 * 1000)) gL_law_L_does rfl (by decide +kernel) ⟨Nat.le_of_ble_eq_true rfl, Nat.le_of_ble_eq_true rfl⟩ hW hS (As := [.ref (kx_swA ad nb 0 0), .int 7, .int dr, .int ((v / 160) - (v / 160) / 1000 * 1000)]) (rest := [.int a1]) rfl hl.1 (by rw [eb]; rfl) (Nat.le_of_ble_eq_true rfl) dL_law_669 ⟨by show _ ≤ 600130; omega, by show _ ≤ 7301080; omega⟩ (fun b1 t1 H locs g1 hW hS => ?_)
  obtain ⟨e1, hR⟩ := ry_open hR h1 g1
  subst e1
  refine lv_icmp_ne (tgt := 679) hx hb dL_law_672 (by decide) (fun c_672 => absurd rfl c_672) (fun c_672 => ?_)
  refine lv_iconst (v := 1) hx hb dL_law_675 (by decide) ?_
  refine lv_goto (tgt := 680) hx hb dL_law_676 (by decide) ?_
  refine lv_istore (lv' := [(4, .int 1), (12, .int dr), (11, .int (nI w)), (10, .int bx), (9, .int (nI nb)), (8, .int v), (7, .int kd), (5, .int (nI k)), (3, .int (nI mo)), (2, .ref pb), (1, .ref pa), (0, .ref b)]) hx hb dL_law_680 hl (by decide) rfl (fun ls hl => ?_)
  refine lv_goto (tgt := 777) hx hb dL_law_682 (by decide) ?_
  exact W.widen (by omega) (by omega) (kk nb ad (kx_swS t1) H locs ls hR hn2 ea eb hW hS (lv_sub hl [1, 2, 3, 7, 0, 8, 9, 10, 11] rfl))

set_option maxHeartbeats 4000000 in
set_option maxRecDepth 100000 in
theorem lo_c16 (F : kx_F p s m c cL_law 15 RL #[Value.ref b] wsL_law G s.heap.size) (hlf : l.stackTraces = false) (hmo : mo < 4) (hw : w < 14) (hcl : cells + 20 ≤ 600130) (hsl : slots + 200 ≤ 7301080) (hR : ro_RR mo nb sg) (hn2 : ad 40 0 = nb) (ea : pa = ad 0 0) (eb : pb = ad 14 0) (hW : kx_Wd G s.heap.size ad nb sg H) (hS : va_S (kx_Ad s.heap.size) s.heap H locs) (hl : lv_has ls 15 [(12, .int dr), (11, .int (nI w)), (10, .int bx), (9, .int (nI nb)), (8, .int v), (7, .int kd), (5, .int (nI k)), (4, .int 1), (3, .int (nI mo)), (2, .ref pb), (1, .ref pa), (0, .ref b)]) (kk : ∀ (nb1 : Nat) (ad1 : kx_A) (sg1 : kx_S) (H1 : Heap) (locs1 : List Loc) (ls1 : Array Slot), ro_RR mo nb1 sg1 → ad1 40 0 = nb1 → pa = ad1 0 0 → pb = ad1 14 0 → kx_Wd G s.heap.size ad1 nb1 sg1 H1 → va_S (kx_Ad s.heap.size) s.heap H1 locs1 → lv_has ls1 15 [(12, .int dr), (11, .int (nI w)), (10, .int bx), (5, .int (nI k)), (4, .int 1), (3, .int (nI mo)), (2, .ref pb), (1, .ref pa), (0, .ref b)] → W p l e room_1 s m #[Value.ref b] below meth c H1 locs1 (cells + 20) (slots + 200) Q (F0 m 777 ls1 [])) : W p l e room_1 s m #[Value.ref b] below meth c H locs cells slots Q (F0 m 692 ls []) := by
  have hx := F.1; have hb := F.2.1
  refine lv_aload_n hx hb dL_law_692 rfl (lv_at hl 10 rfl) ?_
  refine lv_iload hx hb dL_law_693 (lv_at hl 0 rfl) ?_
  refine lv_iload hx hb dL_law_695 (lv_at hl 4 rfl) ?_
  refine lv_sipush (v := 160) hx hb dL_law_697 (by decide) ?_
  refine lv_idiv hx hb dL_law_700 (by decide) ?_
  refine lv_iconst (v := 2) hx hb dL_law_701 (by decide) ?_
  refine lv_irem hx hb dL_law_702 (by decide) ?_
  refine lv_if_ne (tgt := 710) hx hb dL_law_703 (by decide) (fun c_703 => ?_) (fun c_703 => ?_)
  · refine lv_iconst (v := 0) hx hb dL_law_710 (by decide) ?_
    refine lo_cA (na := 3) F (c_L_jam l hlf G s.heap.size ad nb sg (ro_CI1 hR) dr 0 (Or.inl rfl)) gL_law_L_jam rfl (by decide +kernel) ⟨Nat.le_of_ble_eq_true rfl, Nat.le_of_ble_eq_true rfl⟩ hW hS (As := [.ref (ad 0 0), .int dr, .int 0]) (rest := []) rfl hl.1 (by rw [ea]; rfl) (Nat.le_of_ble_eq_true rfl) dL_law_711 ⟨by show _ ≤ 600130; omega, by show _ ≤ 7301080; omega⟩ (fun a1 s1 H locs h1 hW hS => ?_)
    refine lv_aload_n hx hb dL_law_714 rfl (lv_at hl 9 rfl) ?_
    refine lv_iload hx hb dL_law_715 (lv_at hl 0 rfl) ?_
    refine lv_iload hx hb dL_law_717 (lv_at hl 4 rfl) ?_
    refine lv_sipush (v := 160) hx hb dL_law_719 (by decide) ?_
    refine lv_idiv hx hb dL_law_722 (by decide) ?_
    refine lv_iconst (v := 2) hx hb dL_law_723 (by decide) ?_
    refine lv_irem hx hb dL_law_724 (by decide) ?_
    refine lv_if_ne (tgt := 732) hx hb dL_law_725 (by decide) (fun c_725 => ?_) (fun c_725 => absurd c_725 c_703)
    refine lv_iconst (v := 0) hx hb dL_law_732 (by decide) ?_
    have hR2 := ro_in2 hR (rf_jam h1)
    refine lo_cB (na := 3) F hn2 (c_L_jam l hlf G s.heap.size (kx_swA ad nb) nb (kx_swS s1) (ro_CI2 hR2) dr 0 (Or.inl rfl)) gL_law_L_jam rfl (by decide +kernel) ⟨Nat.le_of_ble_eq_true rfl, Nat.le_of_ble_eq_true rfl⟩ hW hS (As := [.ref (kx_swA ad nb 0 0), .int dr, .int 0]) (rest := [.int a1]) rfl hl.1 (by rw [eb]; rfl) (Nat.le_of_ble_eq_true rfl) dL_law_733 ⟨by show _ ≤ 600130; omega, by show _ ≤ 7301080; omega⟩ (fun b1 t1 H locs g1 hW hS => ?_)
    obtain ⟨e1, hR⟩ := ry_jam hR (Or.inl rfl) h1 g1
    subst e1
    refine lv_icmp_ne (tgt := 743) hx hb dL_law_736 (by decide) (fun c_736 => absurd rfl c_736) (fun c_736 => ?_)
    refine lv_iconst (v := 1) hx hb dL_law_739 (by decide) ?_
    refine lv_goto (tgt := 744) hx hb dL_law_740 (by decide) ?_
    refine lv_istore (lv' := [(4, .int 1), (12, .int dr), (11, .int (nI w)), (10, .int bx), (9, .int (nI nb)), (8, .int v), (7, .int kd), (5, .int (nI k)), (3, .int (nI mo)), (2, .ref pb), (1, .ref pa), (0, .ref b)]) hx hb dL_law_744 hl (by decide) rfl (fun ls hl => ?_)
    refine lv_goto (tgt := 777) hx hb dL_law_746 (by decide) ?_
    exact W.widen (by omega) (by omega) (kk nb ad (kx_swS t1) H locs ls hR hn2 ea eb hW hS (lv_sub hl [1, 2, 3, 7, 0, 8, 9, 10, 11] rfl))
  · refine lv_iconst (v := 1) hx hb dL_law_706 (by decide) ?_
    refine lv_goto (tgt := 711) hx hb dL_law_707 (by decide) ?_
    refine lo_cA (na := 3) F (c_L_jam l hlf G s.heap.size ad nb sg (ro_CI1 hR) dr 1 (Or.inr rfl)) gL_law_L_jam rfl (by decide +kernel) ⟨Nat.le_of_ble_eq_true rfl, Nat.le_of_ble_eq_true rfl⟩ hW hS (As := [.ref (ad 0 0), .int dr, .int 1]) (rest := []) rfl hl.1 (by rw [ea]; rfl) (Nat.le_of_ble_eq_true rfl) dL_law_711 ⟨by show _ ≤ 600130; omega, by show _ ≤ 7301080; omega⟩ (fun a1 s1 H locs h1 hW hS => ?_)
    refine lv_aload_n hx hb dL_law_714 rfl (lv_at hl 9 rfl) ?_
    refine lv_iload hx hb dL_law_715 (lv_at hl 0 rfl) ?_
    refine lv_iload hx hb dL_law_717 (lv_at hl 4 rfl) ?_
    refine lv_sipush (v := 160) hx hb dL_law_719 (by decide) ?_
    refine lv_idiv hx hb dL_law_722 (by decide) ?_
    refine lv_iconst (v := 2) hx hb dL_law_723 (by decide) ?_
    refine lv_irem hx hb dL_law_724 (by decide) ?_
    refine lv_if_ne (tgt := 732) hx hb dL_law_725 (by decide) (fun c_725 => absurd c_703 c_725) (fun c_725 => ?_)
    refine lv_iconst (v := 1) hx hb dL_law_728 (by decide) ?_
    refine lv_goto (tgt := 733) hx hb dL_law_729 (by decide) ?_
    have hR2 := ro_in2 hR (rf_jam h1)
    refine lo_cB (na := 3) F hn2 (c_L_jam l hlf G s.heap.size (kx_swA ad nb) nb (kx_swS s1) (ro_CI2 hR2) dr 1 (Or.inr rfl)) gL_law_L_jam rfl (by decide +kernel) ⟨Nat.le_of_ble_eq_true rfl, Nat.le_of_ble_eq_true rfl⟩ hW hS (As := [.ref (kx_swA ad nb 0 0), .int dr, .int 1]) (rest := [.int a1]) rfl hl.1 (by rw [eb]; rfl) (Nat.le_of_ble_eq_true rfl) dL_law_733 ⟨by show _ ≤ 600130; omega, by show _ ≤ 7301080; omega⟩ (fun b1 t1 H locs g1 hW hS => ?_)
    obtain ⟨e1, hR⟩ := ry_jam hR (Or.inr rfl) h1 g1
    subst e1
    refine lv_icmp_ne (tgt := 743) hx hb dL_law_736 (by decide) (fun c_736 => absurd rfl c_736) (fun c_736 => ?_)
    refine lv_iconst (v := 1) hx hb dL_law_739 (by decide) ?_
    refine lv_goto (tgt := 744) hx hb dL_law_740 (by decide) ?_
    refine lv_istore (lv' := [(4, .int 1), (12, .int dr), (11, .int (nI w)), (10, .int bx), (9, .int (nI nb)), (8, .int v), (7, .int kd), (5, .int (nI k)), (3, .int (nI mo)), (2, .ref pb), (1, .ref pa), (0, .ref b)]) hx hb dL_law_744 hl (by decide) rfl (fun ls hl => ?_)
    refine lv_goto (tgt := 777) hx hb dL_law_746 (by decide) ?_
    exact W.widen (by omega) (by omega) (kk nb ad (kx_swS t1) H locs ls hR hn2 ea eb hW hS (lv_sub hl [1, 2, 3, 7, 0, 8, 9, 10, 11] rfl))

set_option maxHeartbeats 4000000 in
set_option maxRecDepth 100000 in
theorem lo_c17 (F : kx_F p s m c cL_law 15 RL #[Value.ref b] wsL_law G s.heap.size) (hlf : l.stackTraces = false) (hmo : mo < 4) (hw : w < 14) (hcl : cells + 20 ≤ 600130) (hsl : slots + 200 ≤ 7301080) (hR : ro_RR mo nb sg) (hn2 : ad 40 0 = nb) (ea : pa = ad 0 0) (eb : pb = ad 14 0) (hW : kx_Wd G s.heap.size ad nb sg H) (hS : va_S (kx_Ad s.heap.size) s.heap H locs) (hl : lv_has ls 15 [(12, .int dr), (11, .int (nI w)), (10, .int bx), (9, .int (nI nb)), (8, .int v), (7, .int kd), (5, .int (nI k)), (4, .int 1), (3, .int (nI mo)), (2, .ref pb), (1, .ref pa), (0, .ref b)]) (kk : ∀ (nb1 : Nat) (ad1 : kx_A) (sg1 : kx_S) (H1 : Heap) (locs1 : List Loc) (ls1 : Array Slot), ro_RR mo nb1 sg1 → ad1 40 0 = nb1 → pa = ad1 0 0 → pb = ad1 14 0 → kx_Wd G s.heap.size ad1 nb1 sg1 H1 → va_S (kx_Ad s.heap.size) s.heap H1 locs1 → lv_has ls1 15 [(12, .int dr), (11, .int (nI w)), (10, .int bx), (5, .int (nI k)), (4, .int 1), (3, .int (nI mo)), (2, .ref pb), (1, .ref pa), (0, .ref b)] → W p l e room_1 s m #[Value.ref b] below meth c H1 locs1 (cells + 20) (slots + 200) Q (F0 m 777 ls1 [])) : W p l e room_1 s m #[Value.ref b] below meth c H locs cells slots Q (F0 m 749 ls []) := by
  have hx := F.1; have hb := F.2.1
  refine lv_aload_n hx hb dL_law_749 rfl (lv_at hl 10 rfl) ?_
  refine lv_bipush (v := 8) hx hb dL_law_750 (by decide) ?_
  refine lv_iload hx hb dL_law_752 (lv_at hl 2 rfl) ?_
  refine lv_iconst (v := 0) hx hb dL_law_754 (by decide) ?_
  refine lo_cA (na := 4) F (c_L_does_claim l hlf G s.heap.size ad nb sg (ro_CI1 hR) bx 0) gL_law_L_does rfl (by decide +kernel) ⟨Nat.le_of_ble_eq_true rfl, Nat.le_of_ble_eq_true rfl⟩ hW hS (As := [.ref (ad 0 0), .int 8, .int bx, .int 0]) (rest := []) rfl hl.1 (by rw [ea]; rfl) (Nat.le_of_ble_eq_true rfl) dL_law_755 ⟨by show _ ≤ 600130; omega, by show _ ≤ 7301080; omega⟩ (fun a1 s1 H locs h1 hW hS => ?_)
  refine lv_aload_n hx hb dL_law_758 rfl (lv_at hl 9 rfl) ?_
  refine lv_bipush (v := 8) hx hb dL_law_759 (by decide) ?_
  refine lv_iload hx hb dL_law_761 (lv_at hl 2 rfl) ?_
  refine lv_iconst (v := 0) hx hb dL_law_763 (by decide) ?_
  have hR2 := ro_in2 hR (rf_claim h1)
  refine lo_cB (na := 4) F hn2 (c_L_does_claim l hlf G s.heap.size (kx_swA ad nb) nb (kx_swS s1) (ro_CI2 hR2) bx 0) gL_law_L_does rfl (by decide +kernel) ⟨Nat.le_of_ble_eq_true rfl, Nat.le_of_ble_eq_true rfl⟩ hW hS (As := [.ref (kx_swA ad nb 0 0), .int 8, .int bx, .int 0]) (rest := [.int a1]) rfl hl.1 (by rw [eb]; rfl) (Nat.le_of_ble_eq_true rfl) dL_law_764 ⟨by show _ ≤ 600130; omega, by show _ ≤ 7301080; omega⟩ (fun b1 t1 H locs g1 hW hS => ?_)
  obtain ⟨e1, hR⟩ := ry_claim hR h1 g1
  subst e1
  refine lv_icmp_ne (tgt := 774) hx hb dL_law_767 (by decide) (fun c_767 => absurd rfl c_767) (fun c_767 => ?_)
  refine lv_iconst (v := 1) hx hb dL_law_770 (by decide) ?_
  refine lv_goto (tgt := 775) hx hb dL_law_771 (by decide) ?_
  refine lv_istore (lv' := [(4, .int 1), (12, .int dr), (11, .int (nI w)), (10, .int bx), (9, .int (nI nb)), (8, .int v), (7, .int kd), (5, .int (nI k)), (3, .int (nI mo)), (2, .ref pb), (1, .ref pa), (0, .ref b)]) hx hb dL_law_775 hl (by decide) rfl (fun ls hl => ?_)
  exact W.widen (by omega) (by omega) (kk nb ad (kx_swS t1) H locs ls hR hn2 ea eb hW hS (lv_sub hl [1, 2, 3, 7, 0, 8, 9, 10, 11] rfl))

set_option maxHeartbeats 4000000 in
set_option maxRecDepth 100000 in
theorem lo_c0 (F : kx_F p s m c cL_law 15 RL #[Value.ref b] wsL_law G s.heap.size) (hlf : l.stackTraces = false) (hmo : mo < 4) (hw : w < 14) (hcl : cells + 20 ≤ 600130) (hsl : slots + 200 ≤ 7301080) (hR : ro_RR mo nb sg) (hn2 : ad 40 0 = nb) (ea : pa = ad 0 0) (eb : pb = ad 14 0) (hW : kx_Wd G s.heap.size ad nb sg H) (hS : va_S (kx_Ad s.heap.size) s.heap H locs) (hl : lv_has ls 15 [(12, .int dr), (11, .int (nI w)), (10, .int bx), (9, .int (nI nb)), (8, .int v), (7, .int kd), (5, .int (nI k)), (4, .int 1), (3, .int (nI mo)), (2, .ref pb), (1, .ref pa), (0, .ref b)]) (kk : ∀ (nb1 : Nat) (ad1 : kx_A) (sg1 : kx_S) (H1 : Heap) (locs1 : List Loc) (ls1 : Array Slot), ro_RR mo nb1 sg1 → ad1 40 0 = nb1 → pa = ad1 0 0 → pb = ad1 14 0 → kx_Wd G s.heap.size ad1 nb1 sg1 H1 → va_S (kx_Ad s.heap.size) s.heap H1 locs1 → lv_has ls1 15 [(12, .int dr), (11, .int (nI w)), (10, .int bx), (5, .int (nI k)), (4, .int 1), (3, .int (nI mo)), (2, .ref pb), (1, .ref pa), (0, .ref b)] → W p l e room_1 s m #[Value.ref b] below meth c H1 locs1 (cells + 20) (slots + 200) Q (F0 m 777 ls1 [])) : W p l e room_1 s m #[Value.ref b] below meth c H locs cells slots Q (F0 m 143 ls []) := by
  have hx := F.1; have hb := F.2.1
  refine lv_iload hx hb dL_law_143 (lv_at hl 3 rfl) ?_
  refine lv_bipush (v := 6) hx hb dL_law_145 (by decide) ?_
  refine lv_icmp_gt (tgt := 195) hx hb dL_law_147 (by decide) (fun c_147 => ?_) (fun c_147 => ?_)
  · refine lv_iconst (v := 1) hx hb dL_law_195 (by decide) ?_
    refine lv_goto (tgt := 200) hx hb dL_law_196 (by decide) ?_
    refine lv_istore (lv' := [(4, .int 1), (12, .int dr), (11, .int (nI w)), (10, .int bx), (9, .int (nI nb)), (8, .int v), (7, .int kd), (5, .int (nI k)), (3, .int (nI mo)), (2, .ref pb), (1, .ref pa), (0, .ref b)]) hx hb dL_law_200 hl (by decide) rfl (fun ls hl => ?_)
    refine lv_goto (tgt := 777) hx hb dL_law_202 (by decide) ?_
    exact W.widen (by omega) (by omega) (kk nb ad sg H locs ls hR hn2 ea eb hW hS (lv_sub hl [1, 2, 3, 7, 0, 8, 9, 10, 11] rfl))
  · refine lv_aload_n hx hb dL_law_150 rfl (lv_at hl 10 rfl) ?_
    refine lv_iconst (v := 0) hx hb dL_law_151 (by decide) ?_
    refine lv_iconst (v := 1) hx hb dL_law_152 (by decide) ?_
    refine lv_iload hx hb dL_law_153 (lv_at hl 4 rfl) ?_
    refine lv_iconst (v := 3) hx hb dL_law_155 (by decide) ?_
    refine lv_irem hx hb dL_law_156 (by decide) ?_
    refine lv_iadd hx hb dL_law_157 ?_
    refine lv_iconst (v := 1) hx hb dL_law_158 (by decide) ?_
    refine lv_iload hx hb dL_law_159 (lv_at hl 4 rfl) ?_
    refine lv_iconst (v := 3) hx hb dL_law_161 (by decide) ?_
    refine lv_idiv hx hb dL_law_162 (by decide) ?_
    refine lv_sipush (v := 900) hx hb dL_law_163 (by decide) ?_
    refine lv_irem hx hb dL_law_166 (by decide) ?_
    refine lv_iadd hx hb dL_law_167 ?_
    refine lo_cAg (na := 4) F (c_L_does_box l hlf G s.heap.size ad nb sg (ro_CI1 hR) (1 + (v - v / 3 * 3)) (1 + (v / 3 - v / 3 / 900 * 900))) gL_law_L_does rfl (by decide +kernel) ⟨Nat.le_of_ble_eq_true rfl, Nat.le_of_ble_eq_true rfl⟩ hW hS (As := [.ref (ad 0 0), .int 0, .int (1 + (v - v / 3 * 3)), .int (1 + (v / 3 - v / 3 / 900 * 900))]) (rest := []) rfl hl.1 (by rw [ea]; rfl) (Nat.le_of_ble_eq_true rfl) dL_law_168 ⟨by show _ ≤ 600130; omega, by show _ ≤ 7301080; omega⟩ (fun a1 ad1 nb1 s1 H locs h1 hW hS => ?_)
    have ea1 : pa = ad1 0 0 := by rcases h1 with ⟨-, h9, -⟩ | ⟨-, -, rfl, -⟩; exact ea.trans (h9 0 0 (by omega)).symm; exact ea
    have eb1 : pb = ad1 14 0 := by rcases h1 with ⟨-, h9, -⟩ | ⟨-, -, rfl, -⟩; exact eb.trans (h9 14 0 (by omega)).symm; exact eb
    have hn1 : ad1 40 0 = nb := by rcases h1 with ⟨-, h9, -⟩ | ⟨-, -, rfl, -⟩; exact (h9 40 0 (by omega)).trans hn2; exact hn2
    have hR2 : ro_R mo nb sg (kx_swS s1) := by rcases h1 with ⟨-, -, h9⟩ | ⟨-, -, -, rfl, -⟩; exact ro_in2 hR (ro_fr_box h9); exact hR
    have hW9 := hW.sw
    rw [hn1] at hW9
    refine lv_aload_n hx hb dL_law_171 rfl (lv_at hl 9 rfl) ?_
    refine lv_iconst (v := 0) hx hb dL_law_172 (by decide) ?_
    refine lv_iconst (v := 1) hx hb dL_law_173 (by decide) ?_
    refine lv_iload hx hb dL_law_174 (lv_at hl 4 rfl) ?_
    refine lv_iconst (v := 3) hx hb dL_law_176 (by decide) ?_
    refine lv_irem hx hb dL_law_177 (by decide) ?_
    refine lv_iadd hx hb dL_law_178 ?_
    refine lv_iconst (v := 1) hx hb dL_law_179 (by decide) ?_
    refine lv_iload hx hb dL_law_180 (lv_at hl 4 rfl) ?_
    refine lv_iconst (v := 3) hx hb dL_law_182 (by decide) ?_
    refine lv_idiv hx hb dL_law_183 (by decide) ?_
    refine lv_sipush (v := 900) hx hb dL_law_184 (by decide) ?_
    refine lv_irem hx hb dL_law_187 (by decide) ?_
    refine lv_iadd hx hb dL_law_188 ?_
    refine lo_cAg (na := 4) F (c_L_does_box l hlf G s.heap.size (kx_swA ad1 nb1) nb (kx_swS s1) (ro_CI2 hR2) (1 + (v - v / 3 * 3)) (1 + (v / 3 - v / 3 / 900 * 900))) gL_law_L_does rfl (by decide +kernel) ⟨Nat.le_of_ble_eq_true rfl, Nat.le_of_ble_eq_true rfl⟩ hW9 hS (As := [.ref (kx_swA ad1 nb1 0 0), .int 0, .int (1 + (v - v / 3 * 3)), .int (1 + (v / 3 - v / 3 / 900 * 900))]) (rest := [.int a1]) rfl hl.1 (by rw [eb1]; rfl) (Nat.le_of_ble_eq_true rfl) dL_law_189 ⟨by show _ ≤ 600130; omega, by show _ ≤ 7301080; omega⟩ (fun b1 ad2 nb2 t1 H locs g1 hW hS => ?_)
    replace hl : lv_has ls 15 [(12, .int dr), (11, .int (nI w)), (10, .int bx), (5, .int (nI k)), (4, .int 1), (3, .int (nI mo)), (2, .ref pb), (1, .ref pa), (0, .ref b)] := lv_sub hl [0, 1, 2, 6, 7, 8, 9, 10, 11] rfl
    rcases h1 with ⟨rfl, h9, hc1⟩ | ⟨rfl, rfl, rfl, rfl, E1, hx1⟩
    · rcases g1 with ⟨rfl, g9, gc1⟩ | ⟨-, -, -, -, E2, gx1⟩
      · obtain ⟨e1, hR3⟩ := ro_box hR2 hc1 gc1
        subst e1
        have hR4 := ro_out2 hR3 (ro_fr_box gc1)
        have e40 : ad2 40 0 = nb + 1 := (g9 40 0 (by omega)).trans rfl
        have hW8 := hW.sw
        rw [e40] at hW8
        refine lv_icmp_ne (tgt := 199) hx hb dL_law_192 (by decide) (fun c_192 => absurd rfl c_192) (fun c_192 => ?_)
        refine lv_iconst (v := 1) hx hb dL_law_195 (by decide) ?_
        refine lv_goto (tgt := 200) hx hb dL_law_196 (by decide) ?_
        refine lv_istore (lv' := [(4, .int 1), (12, .int dr), (11, .int (nI w)), (10, .int bx), (5, .int (nI k)), (3, .int (nI mo)), (2, .ref pb), (1, .ref pa), (0, .ref b)]) hx hb dL_law_200 hl (by decide) rfl (fun ls hl => ?_)
        refine lv_goto (tgt := 777) hx hb dL_law_202 (by decide) ?_
        exact W.widen (by omega) (by omega) (kk (nb + 1) (kx_swA ad2 (nb + 1)) (kx_swS t1) H locs ls hR4 rfl (ea1.trans (g9 14 0 (by omega)).symm) (eb1.trans (g9 0 0 (by omega)).symm) hW8 hS ( lv_sub hl [1, 2, 3, 4, 0, 5, 6, 7, 8] rfl))
      · exact (cx_box_not hc1 gx1).elim
    · rcases g1 with ⟨-, -, gc1⟩ | ⟨rfl, rfl, rfl, rfl, -⟩
      · exact (cx_box_not gc1 hx1).elim
      · have hW8 := hW.back hn2
        rw [kx_swS2] at hW8
        refine lv_icmp_ne (tgt := 199) hx hb dL_law_192 (by decide) (fun c_192 => absurd rfl c_192) (fun c_192 => ?_)
        refine lv_iconst (v := 1) hx hb dL_law_195 (by decide) ?_
        refine lv_goto (tgt := 200) hx hb dL_law_196 (by decide) ?_
        refine lv_istore (lv' := [(4, .int 1), (12, .int dr), (11, .int (nI w)), (10, .int bx), (5, .int (nI k)), (3, .int (nI mo)), (2, .ref pb), (1, .ref pa), (0, .ref b)]) hx hb dL_law_200 hl (by decide) rfl (fun ls hl => ?_)
        refine lv_goto (tgt := 777) hx hb dL_law_202 (by decide) ?_
        exact W.widen (by omega) (by omega) (kk nb2 ad1 s1 H locs ls hR hn2 ea eb hW8 hS ( lv_sub hl [1, 2, 3, 4, 0, 5, 6, 7, 8] rfl))

set_option maxHeartbeats 4000000 in
set_option maxRecDepth 100000 in
theorem lo_call (F : kx_F p s m c cL_law 15 RL #[Value.ref b] wsL_law G s.heap.size) (hlf : l.stackTraces = false) (hmo : mo < 4) (hw : w < 14) (hcl : cells + 20 ≤ 600130) (hsl : slots + 200 ≤ 7301080) (hR : ro_RR mo nb sg) (hn2 : ad 40 0 = nb) (ea : pa = ad 0 0) (eb : pb = ad 14 0) (hW : kx_Wd G s.heap.size ad nb sg H) (hS : va_S (kx_Ad s.heap.size) s.heap H locs) (hl : lv_has ls 15 [(12, .int dr), (11, .int (nI w)), (10, .int bx), (9, .int (nI nb)), (8, .int v), (7, .int kd), (5, .int (nI k)), (4, .int 1), (3, .int (nI mo)), (2, .ref pb), (1, .ref pa), (0, .ref b)]) (kk : ∀ (nb1 : Nat) (ad1 : kx_A) (sg1 : kx_S) (H1 : Heap) (locs1 : List Loc) (ls1 : Array Slot), ro_RR mo nb1 sg1 → ad1 40 0 = nb1 → pa = ad1 0 0 → pb = ad1 14 0 → kx_Wd G s.heap.size ad1 nb1 sg1 H1 → va_S (kx_Ad s.heap.size) s.heap H1 locs1 → lv_has ls1 15 [(12, .int dr), (11, .int (nI w)), (10, .int bx), (5, .int (nI k)), (4, .int 1), (3, .int (nI mo)), (2, .ref pb), (1, .ref pa), (0, .ref b)] → W p l e room_1 s m #[Value.ref b] below meth c H1 locs1 (cells + 20) (slots + 200) Q (F0 m 777 ls1 [])) : W p l e room_1 s m #[Value.ref b] below meth c H locs cells slots Q (F0 m 138 ls []) := by
  have hx := F.1; have hb := F.2.1
  refine lv_iload hx hb dL_law_138 (lv_at hl 5 rfl) ?_
  refine lv_if_ne (tgt := 205) hx hb dL_law_140 (by decide) (fun c_140 => ?_) (fun c_140 => ?_)
  · refine lv_iload hx hb dL_law_205 (lv_at hl 5 rfl) ?_
    refine lv_iconst (v := 5) hx hb dL_law_207 (by decide) ?_
    refine lv_icmp_ge (tgt := 274) hx hb dL_law_208 (by decide) (fun c_208 => ?_) (fun c_208 => ?_)
    · refine lv_iload hx hb dL_law_274 (lv_at hl 5 rfl) ?_
      refine lv_bipush (v := 10) hx hb dL_law_276 (by decide) ?_
      refine lv_icmp_ge (tgt := 332) hx hb dL_law_278 (by decide) (fun c_278 => ?_) (fun c_278 => ?_)
      · refine lv_iload hx hb dL_law_332 (lv_at hl 5 rfl) ?_
        refine lv_bipush (v := 10) hx hb dL_law_334 (by decide) ?_
        refine lv_icmp_ne (tgt := 370) hx hb dL_law_336 (by decide) (fun c_336 => ?_) (fun c_336 => ?_)
        · refine lv_iload hx hb dL_law_370 (lv_at hl 5 rfl) ?_
          refine lv_bipush (v := 11) hx hb dL_law_372 (by decide) ?_
          refine lv_icmp_ne (tgt := 436) hx hb dL_law_374 (by decide) (fun c_374 => ?_) (fun c_374 => ?_)
          · refine lv_iload hx hb dL_law_436 (lv_at hl 5 rfl) ?_
            refine lv_bipush (v := 12) hx hb dL_law_438 (by decide) ?_
            refine lv_icmp_ne (tgt := 496) hx hb dL_law_440 (by decide) (fun c_440 => ?_) (fun c_440 => ?_)
            · refine lv_iload hx hb dL_law_496 (lv_at hl 5 rfl) ?_
              refine lv_bipush (v := 13) hx hb dL_law_498 (by decide) ?_
              refine lv_icmp_ne (tgt := 550) hx hb dL_law_500 (by decide) (fun c_500 => ?_) (fun c_500 => ?_)
              · refine lv_iload hx hb dL_law_550 (lv_at hl 5 rfl) ?_
                refine lv_bipush (v := 14) hx hb dL_law_552 (by decide) ?_
                refine lv_icmp_ne (tgt := 629) hx hb dL_law_554 (by decide) (fun c_554 => ?_) (fun c_554 => ?_)
                · refine lv_iload hx hb dL_law_629 (lv_at hl 5 rfl) ?_
                  refine lv_bipush (v := 15) hx hb dL_law_631 (by decide) ?_
                  refine lv_icmp_ne (tgt := 685) hx hb dL_law_633 (by decide) (fun c_633 => ?_) (fun c_633 => ?_)
                  · refine lv_iload hx hb dL_law_685 (lv_at hl 5 rfl) ?_
                    refine lv_bipush (v := 16) hx hb dL_law_687 (by decide) ?_
                    refine lv_icmp_ne (tgt := 749) hx hb dL_law_689 (by decide) (fun c_689 => ?_) (fun c_689 => ?_)
                    · exact lo_c17 F hlf hmo hw hcl hsl hR hn2 ea eb hW hS hl kk
                    · exact lo_c16 F hlf hmo hw hcl hsl hR hn2 ea eb hW hS hl kk
                  · exact lo_c15 F hlf hmo hw hcl hsl hR hn2 ea eb hW hS hl kk
                · exact lo_ck14 F hlf hmo hw hcl hsl hR hn2 ea eb hW hS hl kk
              · exact lo_c13 F hlf hmo hw hcl hsl hR hn2 ea eb hW hS hl kk
            · exact lo_c12 F hlf hmo hw hcl hsl hR hn2 ea eb hW hS hl kk
          · exact lo_c11 F hlf hmo hw hcl hsl hR hn2 ea eb hW hS hl kk
        · exact lo_c10 F hlf hmo hw hcl hsl hR hn2 ea eb hW hS hl kk
      · exact lo_c5 F hlf hmo hw hcl hsl hR hn2 ea eb hW hS hl kk
    · exact lo_c14 F hlf hmo hw hcl hsl hR hn2 ea eb hW hS hl kk
  · exact lo_c0 F hlf hmo hw hcl hsl hR hn2 ea eb hW hS hl kk
end LOP
