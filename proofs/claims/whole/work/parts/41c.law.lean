section LOP
variable {p : Program} {l : Launch} {e : Env} {s : State} {m : MethodId} {below : List Frame} {meth : Method} {c : Code} {b L : Nat} {xs : Nat → Int32} {Q : State → Prop} {G : kx_G} {nb : Nat} {ad : kx_A} {sg : kx_S} {H : Heap} {locs : List Loc} {ls : Array Slot} {cells slots i : Nat}
set_option maxHeartbeats 4000000 in
set_option maxRecDepth 100000 in
theorem lo_hasFee (F : kx_F p s m c cL_law 7 RL #[Value.ref b] wsL_law G s.heap.size) (hlf : l.stackTraces = false) (hX : va_X b L xs s s.heap) (hbl : b < s.heap.size) (hi : i + 4 ≤ L) (hL : L ≤ 2048) (hcl : cells + 60 ≤ 601024) (hsl : slots + 1000 ≤ 7293034) (hR : rl_PT nb sg sg) (hW : kx_Wd G s.heap.size ad nb sg H) (hS : va_S (kx_Ad s.heap.size) s.heap H locs) (hl : lv_has ls 7 [(4, .int (nI i)), (3, .ref (ad 32 0)), (2, .ref (ad 14 0)), (1, .ref (ad 0 0)), (0, .ref b)]) (kk : ∀ (sg1 : kx_S) (H1 : Heap) (locs1 : List Loc) (ls1 : Array Slot), rl_PT nb sg1 sg1 → kx_Wd G s.heap.size ad nb sg1 H1 → va_S (kx_Ad s.heap.size) s.heap H1 locs1 → lv_has ls1 7 [(4, .int (nI i)), (3, .ref (ad 32 0)), (2, .ref (ad 14 0)), (1, .ref (ad 0 0)), (0, .ref b)] → W p l e room_1 s m #[Value.ref b] below meth c H1 locs1 (cells + 60) (slots + 1000) Q (F0 m 1604 ls1 [])) : W p l e room_1 s m #[Value.ref b] below meth c H locs cells slots Q (F0 m 1221 ls []) := by
  have hx := F.1; have hb := F.2.1
  have hC := rl_CI hR.1 hR.2.1.1
  have hR0 := hR
  refine lv_aload_n hx hb dL_law_1221 rfl (lv_at hl 3 rfl) ?_
  refine lv_aload_n hx hb dL_law_1222 rfl (lv_at hl 4 rfl) ?_
  refine lv_iload hx hb dL_law_1223 (lv_at hl 0 rfl) ?_
  refine lv_iconst (v := 1) hx hb dL_law_1225 (by decide) ?_
  refine lv_iadd hx hb dL_law_1226 ?_
  rw [lo_n1 i]
  refine va_sld hx hb hX hbl (Nat.not_le.mpr hbl) hS (vp_in_nI (by omega) (by omega)) dL_law_1227 ?_
  rw [nI_clamp (n := i + 1) (by omega)]
  refine lv_aload_n hx hb dL_law_1228 rfl (lv_at hl 1 rfl) ?_
  refine kx_xSH (na := 3) F (c_L_hasFee l hlf G s.heap.size ad nb sg hC (xs (i + 1))) gL_law_L_hasFee rfl (by decide +kernel) ⟨Nat.le_of_ble_eq_true rfl, Nat.le_of_ble_eq_true rfl⟩ hW hS (As := [.ref (ad 0 0), .int (xs (i + 1)), .ref (ad 32 0)]) (rest := []) rfl hl.1 rfl (Nat.le_of_ble_eq_true rfl) dL_law_1229 ⟨by show _ ≤ 601024; omega, by show _ ≤ 7293034; omega⟩ (fun E9 ce9 q9 H locs hp9 hW hS h7 h8 h9 => hp9.elim) (fun r9 sg9 H locs hq hW hS => ?_)
  obtain ⟨hR9, k9, hk9⟩ := lq_hasFee (x := (xs (i + 1))) hR hq
  subst hk9
  refine W.eq (g2 := F0 m 1232 ls [.int k9]) rfl ?_
  refine lv_istore (lv' := [(5, .int k9), (4, .int (nI i)), (3, .ref (ad 32 0)), (2, .ref (ad 14 0)), (1, .ref (ad 0 0)), (0, .ref b)]) hx hb dL_law_1232 hl (by decide) rfl (fun ls hl => ?_)
  refine lv_aload_n hx hb dL_law_1234 rfl (lv_at hl 3 rfl) ?_
  refine lv_aload_n hx hb dL_law_1235 rfl (lv_at hl 5 rfl) ?_
  refine lv_iload hx hb dL_law_1236 (lv_at hl 1 rfl) ?_
  refine lv_iconst (v := 1) hx hb dL_law_1238 (by decide) ?_
  refine lv_iadd hx hb dL_law_1239 ?_
  rw [lo_n1 i]
  refine va_sld hx hb hX hbl (Nat.not_le.mpr hbl) hS (vp_in_nI (by omega) (by omega)) dL_law_1240 ?_
  rw [nI_clamp (n := i + 1) (by omega)]
  refine kx_cV (na := 1) F (q := 14) (n := 0) (c_X4_hasFee l G s.heap.size ad nb sg9 nb (rl_tmWF hR9.1) (xs (i + 1))) gL_law_X4_hasFee rfl (by decide +kernel) ⟨Nat.le_of_ble_eq_true rfl, Nat.le_of_ble_eq_true rfl⟩ hW hS ⟨by decide, rfl⟩ rfl rfl (As := [.int (xs (i + 1))]) (rest := []) rfl hl.1 rfl (Nat.le_of_ble_eq_true rfl) dL_law_1241 ⟨by show _ ≤ 601024; omega, by show _ ≤ 7293034; omega⟩ (fun r10 sg10 H locs hm hW hS => ?_)
  obtain ⟨k1, b1, e1, e2, e3, e4, hR⟩ := lp_hasFee (x := (xs (i + 1))) hR0 hq hm
  subst e2
  have h01 := lb_hasFee (nb := nb) (x := (xs (i + 1))) hm
  have ek : k9 = k1 := Value.int.inj (Option.some.inj e1)
  rw [← ek] at e3 e4
  refine W.eq (g2 := F0 m 1244 ls [.int b1]) rfl ?_
  refine lv_istore (lv' := [(6, .int b1), (5, .int k9), (4, .int (nI i)), (3, .ref (ad 32 0)), (2, .ref (ad 14 0)), (1, .ref (ad 0 0)), (0, .ref b)]) hx hb dL_law_1244 hl (by decide) rfl (fun ls hl => ?_)
  refine lv_aload_n hx hb dL_law_1246 rfl (lv_at hl 4 rfl) ?_
  refine kx_cV (na := 0) F (q := 14) (n := 0) (c_X4_thrown l G s.heap.size ad nb sg10) gL_law_X4_thrown rfl (by decide +kernel) ⟨Nat.le_of_ble_eq_true rfl, Nat.le_of_ble_eq_true rfl⟩ hW hS ⟨by decide, rfl⟩ rfl rfl (As := []) (rest := []) rfl hl.1 rfl (Nat.le_of_ble_eq_true rfl) dL_law_1247 ⟨by show _ ≤ 601024; omega, by show _ ≤ 7293034; omega⟩ (fun r11 sg11 H locs hq11 hW hS => ?_)
  obtain ⟨rfl, e11⟩ := hq11
  rw [e11] at hW
  refine W.eq (g2 := F0 m 1250 ls [.int (sg10 14 0 22)]) rfl ?_
  rw [e3]
  refine lv_iload hx hb dL_law_1250 (lv_at hl 1 rfl) ?_
  refine lv_icmp_eq (tgt := 1257) hx hb dL_law_1252 (by decide) (fun c1 => ?_) (fun c1 => absurd rfl c1)
  refine lv_iload hx hb dL_law_1257 (lv_at hl 1 rfl) ?_
  refine lv_if_ne (tgt := 1281) hx hb dL_law_1259 (by decide) (fun c2 => ?_) (fun c2 => ?_)
  · refine lv_goto (tgt := 1604) hx hb dL_law_1281 (by decide) ?_
    exact W.widen (by omega) (by omega) (kk sg10 H locs ls hR hW hS (lv_sub hl [2, 3, 4, 5, 6] rfl))
  · have e5 := e4 c2
    refine lv_aload_n hx hb dL_law_1262 rfl (lv_at hl 3 rfl) ?_
    refine lv_iconst (v := 0) hx hb dL_law_1263 (by decide) ?_
    refine kx_lald F hW dL_law_1264 ?_
    refine lv_iload hx hb dL_law_1265 (lv_at hl 0 rfl) ?_
    refine lv_if_eq (tgt := 1274) hx hb dL_law_1267 (by decide) (fun c4 => ?_) (fun c4 => ?_)
    · refine lv_lconst (v := 0) hx hb dL_law_1274 (by decide) ?_
      refine W.lcmp hx hb dL_law_1275 ?_
      refine lv_if_eq (tgt := 1281) hx hb dL_law_1276 (by decide) (fun c3 => ?_) (fun c3 => absurd (by rw [e5, c4]; first | rfl | decide) c3)
      refine lv_goto (tgt := 1604) hx hb dL_law_1281 (by decide) ?_
      exact W.widen (by omega) (by omega) (kk sg10 H locs ls hR hW hS (lv_sub hl [2, 3, 4, 5, 6] rfl))
    · refine lv_lconst (v := 1) hx hb dL_law_1270 (by decide) ?_
      refine lv_goto (tgt := 1275) hx hb dL_law_1271 (by decide) ?_
      refine W.lcmp hx hb dL_law_1275 ?_
      refine lv_if_eq (tgt := 1281) hx hb dL_law_1276 (by decide) (fun c3 => ?_) (fun c3 => absurd (by rw [e5, tw_ins (f := 0) h01 c4]; first | rfl | decide) c3)
      refine lv_goto (tgt := 1604) hx hb dL_law_1281 (by decide) ?_
      exact W.widen (by omega) (by omega) (kk sg10 H locs ls hR hW hS (lv_sub hl [2, 3, 4, 5, 6] rfl))

set_option maxHeartbeats 4000000 in
set_option maxRecDepth 100000 in
theorem lo_isInsured (F : kx_F p s m c cL_law 7 RL #[Value.ref b] wsL_law G s.heap.size) (hlf : l.stackTraces = false) (hX : va_X b L xs s s.heap) (hbl : b < s.heap.size) (hi : i + 4 ≤ L) (hL : L ≤ 2048) (hcl : cells + 60 ≤ 601024) (hsl : slots + 1000 ≤ 7293034) (hR : rl_PT nb sg sg) (hW : kx_Wd G s.heap.size ad nb sg H) (hS : va_S (kx_Ad s.heap.size) s.heap H locs) (hl : lv_has ls 7 [(4, .int (nI i)), (3, .ref (ad 32 0)), (2, .ref (ad 14 0)), (1, .ref (ad 0 0)), (0, .ref b)]) (kk : ∀ (sg1 : kx_S) (H1 : Heap) (locs1 : List Loc) (ls1 : Array Slot), rl_PT nb sg1 sg1 → kx_Wd G s.heap.size ad nb sg1 H1 → va_S (kx_Ad s.heap.size) s.heap H1 locs1 → lv_has ls1 7 [(4, .int (nI i)), (3, .ref (ad 32 0)), (2, .ref (ad 14 0)), (1, .ref (ad 0 0)), (0, .ref b)] → W p l e room_1 s m #[Value.ref b] below meth c H1 locs1 (cells + 60) (slots + 1000) Q (F0 m 1604 ls1 [])) : W p l e room_1 s m #[Value.ref b] below meth c H locs cells slots Q (F0 m 1284 ls []) := by
  have hx := F.1; have hb := F.2.1
  have hC := rl_CI hR.1 hR.2.1.1
  have hR0 := hR
  refine lv_aload_n hx hb dL_law_1284 rfl (lv_at hl 3 rfl) ?_
  refine lv_aload_n hx hb dL_law_1285 rfl (lv_at hl 4 rfl) ?_
  refine lv_iload hx hb dL_law_1286 (lv_at hl 0 rfl) ?_
  refine lv_iconst (v := 1) hx hb dL_law_1288 (by decide) ?_
  refine lv_iadd hx hb dL_law_1289 ?_
  rw [lo_n1 i]
  refine va_sld hx hb hX hbl (Nat.not_le.mpr hbl) hS (vp_in_nI (by omega) (by omega)) dL_law_1290 ?_
  rw [nI_clamp (n := i + 1) (by omega)]
  refine lv_aload_n hx hb dL_law_1291 rfl (lv_at hl 1 rfl) ?_
  refine kx_xSH (na := 3) F (c_L_isInsured l hlf G s.heap.size ad nb sg hC (xs (i + 1))) gL_law_L_isInsured rfl (by decide +kernel) ⟨Nat.le_of_ble_eq_true rfl, Nat.le_of_ble_eq_true rfl⟩ hW hS (As := [.ref (ad 0 0), .int (xs (i + 1)), .ref (ad 32 0)]) (rest := []) rfl hl.1 rfl (Nat.le_of_ble_eq_true rfl) dL_law_1292 ⟨by show _ ≤ 601024; omega, by show _ ≤ 7293034; omega⟩ (fun E9 ce9 q9 H locs hp9 hW hS h7 h8 h9 => hp9.elim) (fun r9 sg9 H locs hq hW hS => ?_)
  obtain ⟨hR9, k9, hk9⟩ := lq_isInsured (x := (xs (i + 1))) hR hq
  subst hk9
  refine W.eq (g2 := F0 m 1295 ls [.int k9]) rfl ?_
  refine lv_istore (lv' := [(5, .int k9), (4, .int (nI i)), (3, .ref (ad 32 0)), (2, .ref (ad 14 0)), (1, .ref (ad 0 0)), (0, .ref b)]) hx hb dL_law_1295 hl (by decide) rfl (fun ls hl => ?_)
  refine lv_aload_n hx hb dL_law_1297 rfl (lv_at hl 3 rfl) ?_
  refine lv_aload_n hx hb dL_law_1298 rfl (lv_at hl 5 rfl) ?_
  refine lv_iload hx hb dL_law_1299 (lv_at hl 1 rfl) ?_
  refine lv_iconst (v := 1) hx hb dL_law_1301 (by decide) ?_
  refine lv_iadd hx hb dL_law_1302 ?_
  rw [lo_n1 i]
  refine va_sld hx hb hX hbl (Nat.not_le.mpr hbl) hS (vp_in_nI (by omega) (by omega)) dL_law_1303 ?_
  rw [nI_clamp (n := i + 1) (by omega)]
  refine kx_cV (na := 1) F (q := 14) (n := 0) (c_X4_isInsured l G s.heap.size ad nb sg9 nb (rl_tmWF hR9.1) (xs (i + 1))) gL_law_X4_isInsured rfl (by decide +kernel) ⟨Nat.le_of_ble_eq_true rfl, Nat.le_of_ble_eq_true rfl⟩ hW hS ⟨by decide, rfl⟩ rfl rfl (As := [.int (xs (i + 1))]) (rest := []) rfl hl.1 rfl (Nat.le_of_ble_eq_true rfl) dL_law_1304 ⟨by show _ ≤ 601024; omega, by show _ ≤ 7293034; omega⟩ (fun r10 sg10 H locs hm hW hS => ?_)
  obtain ⟨k1, b1, e1, e2, e3, e4, hR⟩ := lp_isInsured (x := (xs (i + 1))) hR0 hq hm
  subst e2
  have h01 := lb_isInsured (nb := nb) (x := (xs (i + 1))) hm
  have ek : k9 = k1 := Value.int.inj (Option.some.inj e1)
  rw [← ek] at e3 e4
  refine W.eq (g2 := F0 m 1307 ls [.int b1]) rfl ?_
  refine lv_istore (lv' := [(6, .int b1), (5, .int k9), (4, .int (nI i)), (3, .ref (ad 32 0)), (2, .ref (ad 14 0)), (1, .ref (ad 0 0)), (0, .ref b)]) hx hb dL_law_1307 hl (by decide) rfl (fun ls hl => ?_)
  refine lv_aload_n hx hb dL_law_1309 rfl (lv_at hl 4 rfl) ?_
  refine kx_cV (na := 0) F (q := 14) (n := 0) (c_X4_thrown l G s.heap.size ad nb sg10) gL_law_X4_thrown rfl (by decide +kernel) ⟨Nat.le_of_ble_eq_true rfl, Nat.le_of_ble_eq_true rfl⟩ hW hS ⟨by decide, rfl⟩ rfl rfl (As := []) (rest := []) rfl hl.1 rfl (Nat.le_of_ble_eq_true rfl) dL_law_1310 ⟨by show _ ≤ 601024; omega, by show _ ≤ 7293034; omega⟩ (fun r11 sg11 H locs hq11 hW hS => ?_)
  obtain ⟨rfl, e11⟩ := hq11
  rw [e11] at hW
  refine W.eq (g2 := F0 m 1313 ls [.int (sg10 14 0 22)]) rfl ?_
  rw [e3]
  refine lv_iload hx hb dL_law_1313 (lv_at hl 1 rfl) ?_
  refine lv_icmp_eq (tgt := 1320) hx hb dL_law_1315 (by decide) (fun c1 => ?_) (fun c1 => absurd rfl c1)
  refine lv_iload hx hb dL_law_1320 (lv_at hl 1 rfl) ?_
  refine lv_if_ne (tgt := 1344) hx hb dL_law_1322 (by decide) (fun c2 => ?_) (fun c2 => ?_)
  · refine lv_goto (tgt := 1604) hx hb dL_law_1344 (by decide) ?_
    exact W.widen (by omega) (by omega) (kk sg10 H locs ls hR hW hS (lv_sub hl [2, 3, 4, 5, 6] rfl))
  · have e5 := e4 c2
    refine lv_aload_n hx hb dL_law_1325 rfl (lv_at hl 3 rfl) ?_
    refine lv_iconst (v := 0) hx hb dL_law_1326 (by decide) ?_
    refine kx_lald F hW dL_law_1327 ?_
    refine lv_iload hx hb dL_law_1328 (lv_at hl 0 rfl) ?_
    refine lv_if_eq (tgt := 1337) hx hb dL_law_1330 (by decide) (fun c4 => ?_) (fun c4 => ?_)
    · refine lv_lconst (v := 0) hx hb dL_law_1337 (by decide) ?_
      refine W.lcmp hx hb dL_law_1338 ?_
      refine lv_if_eq (tgt := 1344) hx hb dL_law_1339 (by decide) (fun c3 => ?_) (fun c3 => absurd (by rw [e5, c4]; first | rfl | decide) c3)
      refine lv_goto (tgt := 1604) hx hb dL_law_1344 (by decide) ?_
      exact W.widen (by omega) (by omega) (kk sg10 H locs ls hR hW hS (lv_sub hl [2, 3, 4, 5, 6] rfl))
    · refine lv_lconst (v := 1) hx hb dL_law_1333 (by decide) ?_
      refine lv_goto (tgt := 1338) hx hb dL_law_1334 (by decide) ?_
      refine W.lcmp hx hb dL_law_1338 ?_
      refine lv_if_eq (tgt := 1344) hx hb dL_law_1339 (by decide) (fun c3 => ?_) (fun c3 => absurd (by rw [e5, tw_ins (f := 0) h01 c4]; first | rfl | decide) c3)
      refine lv_goto (tgt := 1604) hx hb dL_law_1344 (by decide) ?_
      exact W.widen (by omega) (by omega) (kk sg10 H locs ls hR hW hS (lv_sub hl [2, 3, 4, 5, 6] rfl))

set_option maxHeartbeats 4000000 in
set_option maxRecDepth 100000 in
theorem lo_fees (F : kx_F p s m c cL_law 7 RL #[Value.ref b] wsL_law G s.heap.size) (hlf : l.stackTraces = false) (hX : va_X b L xs s s.heap) (hbl : b < s.heap.size) (hi : i + 4 ≤ L) (hL : L ≤ 2048) (hcl : cells + 60 ≤ 601024) (hsl : slots + 1000 ≤ 7293034) (hR : rl_PT nb sg sg) (hW : kx_Wd G s.heap.size ad nb sg H) (hS : va_S (kx_Ad s.heap.size) s.heap H locs) (hl : lv_has ls 7 [(4, .int (nI i)), (3, .ref (ad 32 0)), (2, .ref (ad 14 0)), (1, .ref (ad 0 0)), (0, .ref b)]) (kk : ∀ (sg1 : kx_S) (H1 : Heap) (locs1 : List Loc) (ls1 : Array Slot), rl_PT nb sg1 sg1 → kx_Wd G s.heap.size ad nb sg1 H1 → va_S (kx_Ad s.heap.size) s.heap H1 locs1 → lv_has ls1 7 [(4, .int (nI i)), (3, .ref (ad 32 0)), (2, .ref (ad 14 0)), (1, .ref (ad 0 0)), (0, .ref b)] → W p l e room_1 s m #[Value.ref b] below meth c H1 locs1 (cells + 60) (slots + 1000) Q (F0 m 1604 ls1 [])) : W p l e room_1 s m #[Value.ref b] below meth c H locs cells slots Q (F0 m 1347 ls []) := by
  have hx := F.1; have hb := F.2.1
  have hC := rl_CI hR.1 hR.2.1.1
  have hR0 := hR
  refine lv_aload_n hx hb dL_law_1347 rfl (lv_at hl 3 rfl) ?_
  refine lv_aload_n hx hb dL_law_1348 rfl (lv_at hl 4 rfl) ?_
  refine lv_iload hx hb dL_law_1349 (lv_at hl 0 rfl) ?_
  refine lv_iconst (v := 1) hx hb dL_law_1351 (by decide) ?_
  refine lv_iadd hx hb dL_law_1352 ?_
  rw [lo_n1 i]
  refine va_sld hx hb hX hbl (Nat.not_le.mpr hbl) hS (vp_in_nI (by omega) (by omega)) dL_law_1353 ?_
  rw [nI_clamp (n := i + 1) (by omega)]
  refine lv_aload_n hx hb dL_law_1354 rfl (lv_at hl 1 rfl) ?_
  refine kx_xSH (na := 3) F (c_L_fees l hlf G s.heap.size ad nb sg hC (xs (i + 1))) gL_law_L_fees rfl (by decide +kernel) ⟨Nat.le_of_ble_eq_true rfl, Nat.le_of_ble_eq_true rfl⟩ hW hS (As := [.ref (ad 0 0), .int (xs (i + 1)), .ref (ad 32 0)]) (rest := []) rfl hl.1 rfl (Nat.le_of_ble_eq_true rfl) dL_law_1355 ⟨by show _ ≤ 601024; omega, by show _ ≤ 7293034; omega⟩ (fun E9 ce9 q9 H locs hp9 hW hS h7 h8 h9 => hp9.elim) (fun r9 sg9 H locs hq hW hS => ?_)
  obtain ⟨hR9, k9, hk9⟩ := lq_fees (x := (xs (i + 1))) hR hq
  subst hk9
  refine W.eq (g2 := F0 m 1358 ls [.int k9]) rfl ?_
  refine lv_istore (lv' := [(5, .int k9), (4, .int (nI i)), (3, .ref (ad 32 0)), (2, .ref (ad 14 0)), (1, .ref (ad 0 0)), (0, .ref b)]) hx hb dL_law_1358 hl (by decide) rfl (fun ls hl => ?_)
  refine lv_aload_n hx hb dL_law_1360 rfl (lv_at hl 3 rfl) ?_
  refine lv_aload_n hx hb dL_law_1361 rfl (lv_at hl 5 rfl) ?_
  refine lv_iload hx hb dL_law_1362 (lv_at hl 1 rfl) ?_
  refine lv_iconst (v := 1) hx hb dL_law_1364 (by decide) ?_
  refine lv_iadd hx hb dL_law_1365 ?_
  rw [lo_n1 i]
  refine va_sld hx hb hX hbl (Nat.not_le.mpr hbl) hS (vp_in_nI (by omega) (by omega)) dL_law_1366 ?_
  rw [nI_clamp (n := i + 1) (by omega)]
  refine kx_cV (na := 1) F (q := 14) (n := 0) (c_X4_fees l G s.heap.size ad nb sg9 nb (rl_tmWF hR9.1) (xs (i + 1))) gL_law_X4_fees rfl (by decide +kernel) ⟨Nat.le_of_ble_eq_true rfl, Nat.le_of_ble_eq_true rfl⟩ hW hS ⟨by decide, rfl⟩ rfl rfl (As := [.int (xs (i + 1))]) (rest := []) rfl hl.1 rfl (Nat.le_of_ble_eq_true rfl) dL_law_1367 ⟨by show _ ≤ 601024; omega, by show _ ≤ 7293034; omega⟩ (fun r10 sg10 H locs hm hW hS => ?_)
  obtain ⟨k1, b1, e1, e2, e3, e4, hR⟩ := lp_fees (x := (xs (i + 1))) hR0 hq hm
  subst e2
  have ek : k9 = k1 := Value.int.inj (Option.some.inj e1)
  rw [← ek] at e3 e4
  refine W.eq (g2 := F0 m 1370 ls [.int b1]) rfl ?_
  refine lv_istore (lv' := [(6, .int b1), (5, .int k9), (4, .int (nI i)), (3, .ref (ad 32 0)), (2, .ref (ad 14 0)), (1, .ref (ad 0 0)), (0, .ref b)]) hx hb dL_law_1370 hl (by decide) rfl (fun ls hl => ?_)
  refine lv_aload_n hx hb dL_law_1372 rfl (lv_at hl 4 rfl) ?_
  refine kx_cV (na := 0) F (q := 14) (n := 0) (c_X4_thrown l G s.heap.size ad nb sg10) gL_law_X4_thrown rfl (by decide +kernel) ⟨Nat.le_of_ble_eq_true rfl, Nat.le_of_ble_eq_true rfl⟩ hW hS ⟨by decide, rfl⟩ rfl rfl (As := []) (rest := []) rfl hl.1 rfl (Nat.le_of_ble_eq_true rfl) dL_law_1373 ⟨by show _ ≤ 601024; omega, by show _ ≤ 7293034; omega⟩ (fun r11 sg11 H locs hq11 hW hS => ?_)
  obtain ⟨rfl, e11⟩ := hq11
  rw [e11] at hW
  refine W.eq (g2 := F0 m 1376 ls [.int (sg10 14 0 22)]) rfl ?_
  rw [e3]
  refine lv_iload hx hb dL_law_1376 (lv_at hl 1 rfl) ?_
  refine lv_icmp_eq (tgt := 1383) hx hb dL_law_1378 (by decide) (fun c1 => ?_) (fun c1 => absurd rfl c1)
  refine lv_iload hx hb dL_law_1383 (lv_at hl 1 rfl) ?_
  refine lv_if_ne (tgt := 1400) hx hb dL_law_1385 (by decide) (fun c2 => ?_) (fun c2 => ?_)
  · refine lv_goto (tgt := 1604) hx hb dL_law_1400 (by decide) ?_
    exact W.widen (by omega) (by omega) (kk sg10 H locs ls hR hW hS (lv_sub hl [2, 3, 4, 5, 6] rfl))
  · have e5 := e4 c2
    refine lv_aload_n hx hb dL_law_1388 rfl (lv_at hl 3 rfl) ?_
    refine lv_iconst (v := 0) hx hb dL_law_1389 (by decide) ?_
    refine kx_lald F hW dL_law_1390 ?_
    refine lv_iload hx hb dL_law_1391 (lv_at hl 0 rfl) ?_
    refine lv_i2l (v := b1.toInt64) hx hb dL_law_1393 rfl ?_
    refine W.lcmp hx hb dL_law_1394 ?_
    refine lv_if_eq (tgt := 1400) hx hb dL_law_1395 (by decide) (fun c3 => ?_) (fun c3 => absurd (by rw [e5]; exact (lg_cmp_eq _ _).mpr rfl) c3)
    refine lv_goto (tgt := 1604) hx hb dL_law_1400 (by decide) ?_
    exact W.widen (by omega) (by omega) (kk sg10 H locs ls hR hW hS (lv_sub hl [2, 3, 4, 5, 6] rfl))

set_option maxHeartbeats 4000000 in
set_option maxRecDepth 100000 in
theorem lo_insurers (F : kx_F p s m c cL_law 7 RL #[Value.ref b] wsL_law G s.heap.size) (hlf : l.stackTraces = false) (hX : va_X b L xs s s.heap) (hbl : b < s.heap.size) (hi : i + 4 ≤ L) (hL : L ≤ 2048) (hcl : cells + 60 ≤ 601024) (hsl : slots + 1000 ≤ 7293034) (hR : rl_PT nb sg sg) (hW : kx_Wd G s.heap.size ad nb sg H) (hS : va_S (kx_Ad s.heap.size) s.heap H locs) (hl : lv_has ls 7 [(4, .int (nI i)), (3, .ref (ad 32 0)), (2, .ref (ad 14 0)), (1, .ref (ad 0 0)), (0, .ref b)]) (kk : ∀ (sg1 : kx_S) (H1 : Heap) (locs1 : List Loc) (ls1 : Array Slot), rl_PT nb sg1 sg1 → kx_Wd G s.heap.size ad nb sg1 H1 → va_S (kx_Ad s.heap.size) s.heap H1 locs1 → lv_has ls1 7 [(4, .int (nI i)), (3, .ref (ad 32 0)), (2, .ref (ad 14 0)), (1, .ref (ad 0 0)), (0, .ref b)] → W p l e room_1 s m #[Value.ref b] below meth c H1 locs1 (cells + 60) (slots + 1000) Q (F0 m 1604 ls1 [])) : W p l e room_1 s m #[Value.ref b] below meth c H locs cells slots Q (F0 m 1403 ls []) := by
  have hx := F.1; have hb := F.2.1
  refine lv_aload_n hx hb dL_law_1403 rfl (lv_at hl 3 rfl) ?_
  refine kx_cV (na := 0) F (q := 0) (n := 0) (c_X3_insurers l G s.heap.size ad nb sg) gL_law_X3_insurers rfl (by decide +kernel) ⟨Nat.le_of_ble_eq_true rfl, Nat.le_of_ble_eq_true rfl⟩ hW hS ⟨by decide, rfl⟩ rfl rfl (As := []) (rest := []) rfl hl.1 rfl (Nat.le_of_ble_eq_true rfl) dL_law_1404 ⟨by show _ ≤ 601024; omega, by show _ ≤ 7293034; omega⟩ (fun r9 sg9 H locs hq hW hS => ?_)
  have hq : cq_insurers nb sg r9 sg9 := hq
  obtain ⟨a9, ha9⟩ := ci_insurers hq
  subst ha9
  have e9 : sg9 = sg := hq.2
  rw [e9] at hW
  refine W.eq (g2 := F0 m 1407 ls [.int a9]) rfl ?_
  refine lv_aload_n hx hb dL_law_1407 rfl (lv_at hl 2 rfl) ?_
  refine kx_cV (na := 0) F (q := 14) (n := 0) (c_X4_insurers l G s.heap.size ad nb sg nb (rl_tmWF hR.1)) gL_law_X4_insurers rfl (by decide +kernel) ⟨Nat.le_of_ble_eq_true rfl, Nat.le_of_ble_eq_true rfl⟩ hW hS ⟨by decide, rfl⟩ rfl rfl (As := []) (rest := [.int a9]) rfl hl.1 rfl (Nat.le_of_ble_eq_true rfl) dL_law_1408 ⟨by show _ ≤ 601024; omega, by show _ ≤ 7293034; omega⟩ (fun r10 sg10 H locs hm hW hS => ?_)
  obtain ⟨b9, hb9⟩ := lm_insurers (nb := nb) hm
  subst hb9
  obtain ⟨e1, e2, -⟩ := rn_insurers hR hq hm
  have hR : rl_PT nb sg10 sg10 := rl_same (lo_tsr (lt_insurers (nb := nb) hm)) (tm_Q_same e2) hR
  refine W.eq (g2 := F0 m 1411 ls [.int b9, .int a9]) rfl ?_
  refine lv_icmp_eq (tgt := 1604) hx hb dL_law_1411 (by decide) (fun c1 => ?_) (fun c1 => absurd e1 c1)
  exact W.widen (by omega) (by omega) (kk sg10 H locs ls hR hW hS (lv_sub hl [0, 1, 2, 3, 4] rfl))

set_option maxHeartbeats 4000000 in
set_option maxRecDepth 100000 in
theorem lo_entries (F : kx_F p s m c cL_law 7 RL #[Value.ref b] wsL_law G s.heap.size) (hlf : l.stackTraces = false) (hX : va_X b L xs s s.heap) (hbl : b < s.heap.size) (hi : i + 4 ≤ L) (hL : L ≤ 2048) (hcl : cells + 60 ≤ 601024) (hsl : slots + 1000 ≤ 7293034) (hR : rl_PT nb sg sg) (hW : kx_Wd G s.heap.size ad nb sg H) (hS : va_S (kx_Ad s.heap.size) s.heap H locs) (hl : lv_has ls 7 [(4, .int (nI i)), (3, .ref (ad 32 0)), (2, .ref (ad 14 0)), (1, .ref (ad 0 0)), (0, .ref b)]) (kk : ∀ (sg1 : kx_S) (H1 : Heap) (locs1 : List Loc) (ls1 : Array Slot), rl_PT nb sg1 sg1 → kx_Wd G s.heap.size ad nb sg1 H1 → va_S (kx_Ad s.heap.size) s.heap H1 locs1 → lv_has ls1 7 [(4, .int (nI i)), (3, .ref (ad 32 0)), (2, .ref (ad 14 0)), (1, .ref (ad 0 0)), (0, .ref b)] → W p l e room_1 s m #[Value.ref b] below meth c H1 locs1 (cells + 60) (slots + 1000) Q (F0 m 1604 ls1 [])) : W p l e room_1 s m #[Value.ref b] below meth c H locs cells slots Q (F0 m 1416 ls []) := by
  have hx := F.1; have hb := F.2.1
  refine lv_aload_n hx hb dL_law_1416 rfl (lv_at hl 3 rfl) ?_
  refine kx_cV (na := 0) F (q := 0) (n := 0) (c_X3_entries l G s.heap.size ad nb sg) gL_law_X3_entries rfl (by decide +kernel) ⟨Nat.le_of_ble_eq_true rfl, Nat.le_of_ble_eq_true rfl⟩ hW hS ⟨by decide, rfl⟩ rfl rfl (As := []) (rest := []) rfl hl.1 rfl (Nat.le_of_ble_eq_true rfl) dL_law_1417 ⟨by show _ ≤ 601024; omega, by show _ ≤ 7293034; omega⟩ (fun r9 sg9 H locs hq hW hS => ?_)
  have hq : cq_entries nb sg r9 sg9 := hq
  obtain ⟨a9, ha9⟩ := ci_entries hq
  subst ha9
  have e9 : sg9 = sg := hq.2
  rw [e9] at hW
  refine W.eq (g2 := F0 m 1420 ls [.int a9]) rfl ?_
  refine lv_aload_n hx hb dL_law_1420 rfl (lv_at hl 2 rfl) ?_
  refine kx_cV (na := 0) F (q := 14) (n := 0) (c_X4_entries l G s.heap.size ad nb sg nb (rl_tmWF hR.1)) gL_law_X4_entries rfl (by decide +kernel) ⟨Nat.le_of_ble_eq_true rfl, Nat.le_of_ble_eq_true rfl⟩ hW hS ⟨by decide, rfl⟩ rfl rfl (As := []) (rest := [.int a9]) rfl hl.1 rfl (Nat.le_of_ble_eq_true rfl) dL_law_1421 ⟨by show _ ≤ 601024; omega, by show _ ≤ 7293034; omega⟩ (fun r10 sg10 H locs hm hW hS => ?_)
  obtain ⟨b9, hb9⟩ := lm_entries (nb := nb) hm
  subst hb9
  obtain ⟨e1, e2, -⟩ := rn_entries hR hq hm
  have hR : rl_PT nb sg10 sg10 := rl_same (lo_tsr (lt_entries (nb := nb) hm)) (tm_Q_same e2) hR
  refine W.eq (g2 := F0 m 1424 ls [.int b9, .int a9]) rfl ?_
  refine lv_icmp_eq (tgt := 1604) hx hb dL_law_1424 (by decide) (fun c1 => ?_) (fun c1 => absurd e1 c1)
  exact W.widen (by omega) (by omega) (kk sg10 H locs ls hR hW hS (lv_sub hl [0, 1, 2, 3, 4] rfl))

set_option maxHeartbeats 4000000 in
set_option maxRecDepth 100000 in
theorem lo_fine (F : kx_F p s m c cL_law 7 RL #[Value.ref b] wsL_law G s.heap.size) (hlf : l.stackTraces = false) (hX : va_X b L xs s s.heap) (hbl : b < s.heap.size) (hi : i + 4 ≤ L) (hL : L ≤ 2048) (hcl : cells + 60 ≤ 601024) (hsl : slots + 1000 ≤ 7293034) (hR : rl_PT nb sg sg) (hW : kx_Wd G s.heap.size ad nb sg H) (hS : va_S (kx_Ad s.heap.size) s.heap H locs) (hl : lv_has ls 7 [(4, .int (nI i)), (3, .ref (ad 32 0)), (2, .ref (ad 14 0)), (1, .ref (ad 0 0)), (0, .ref b)]) (kk : ∀ (sg1 : kx_S) (H1 : Heap) (locs1 : List Loc) (ls1 : Array Slot), rl_PT nb sg1 sg1 → kx_Wd G s.heap.size ad nb sg1 H1 → va_S (kx_Ad s.heap.size) s.heap H1 locs1 → lv_has ls1 7 [(4, .int (nI i)), (3, .ref (ad 32 0)), (2, .ref (ad 14 0)), (1, .ref (ad 0 0)), (0, .ref b)] → W p l e room_1 s m #[Value.ref b] below meth c H1 locs1 (cells + 60) (slots + 1000) Q (F0 m 1604 ls1 [])) : W p l e room_1 s m #[Value.ref b] below meth c H locs cells slots Q (F0 m 1429 ls []) := by
  have hx := F.1; have hb := F.2.1
  have hC := rl_CI hR.1 hR.2.1.1
  have hR0 := hR
  refine lv_aload_n hx hb dL_law_1429 rfl (lv_at hl 3 rfl) ?_
  refine lv_aload_n hx hb dL_law_1430 rfl (lv_at hl 4 rfl) ?_
  refine lv_iload hx hb dL_law_1431 (lv_at hl 0 rfl) ?_
  refine lv_iconst (v := 1) hx hb dL_law_1433 (by decide) ?_
  refine lv_iadd hx hb dL_law_1434 ?_
  rw [lo_n1 i]
  refine va_sld hx hb hX hbl (Nat.not_le.mpr hbl) hS (vp_in_nI (by omega) (by omega)) dL_law_1435 ?_
  rw [nI_clamp (n := i + 1) (by omega)]
  refine lv_aload_n hx hb dL_law_1436 rfl (lv_at hl 1 rfl) ?_
  refine kx_xSH (na := 3) F (c_L_fine l hlf G s.heap.size ad nb sg hC (xs (i + 1))) gL_law_L_fine rfl (by decide +kernel) ⟨Nat.le_of_ble_eq_true rfl, Nat.le_of_ble_eq_true rfl⟩ hW hS (As := [.ref (ad 0 0), .int (xs (i + 1)), .ref (ad 32 0)]) (rest := []) rfl hl.1 rfl (Nat.le_of_ble_eq_true rfl) dL_law_1437 ⟨by show _ ≤ 601024; omega, by show _ ≤ 7293034; omega⟩ (fun E9 ce9 q9 H locs hp9 hW hS h7 h8 h9 => hp9.elim) (fun r9 sg9 H locs hq hW hS => ?_)
  obtain ⟨hR9, k9, hk9⟩ := lq_fine (x := (xs (i + 1))) hR hq
  subst hk9
  refine W.eq (g2 := F0 m 1440 ls [.int k9]) rfl ?_
  refine lv_istore (lv' := [(5, .int k9), (4, .int (nI i)), (3, .ref (ad 32 0)), (2, .ref (ad 14 0)), (1, .ref (ad 0 0)), (0, .ref b)]) hx hb dL_law_1440 hl (by decide) rfl (fun ls hl => ?_)
  refine lv_aload_n hx hb dL_law_1442 rfl (lv_at hl 3 rfl) ?_
  refine lv_aload_n hx hb dL_law_1443 rfl (lv_at hl 5 rfl) ?_
  refine lv_iload hx hb dL_law_1444 (lv_at hl 1 rfl) ?_
  refine lv_iconst (v := 1) hx hb dL_law_1446 (by decide) ?_
  refine lv_iadd hx hb dL_law_1447 ?_
  rw [lo_n1 i]
  refine va_sld hx hb hX hbl (Nat.not_le.mpr hbl) hS (vp_in_nI (by omega) (by omega)) dL_law_1448 ?_
  rw [nI_clamp (n := i + 1) (by omega)]
  refine kx_cV (na := 1) F (q := 14) (n := 0) (c_X4_fine l G s.heap.size ad nb sg9 nb (rl_tmWF hR9.1) (xs (i + 1))) gL_law_X4_fine rfl (by decide +kernel) ⟨Nat.le_of_ble_eq_true rfl, Nat.le_of_ble_eq_true rfl⟩ hW hS ⟨by decide, rfl⟩ rfl rfl (As := [.int (xs (i + 1))]) (rest := []) rfl hl.1 rfl (Nat.le_of_ble_eq_true rfl) dL_law_1449 ⟨by show _ ≤ 601024; omega, by show _ ≤ 7293034; omega⟩ (fun r10 sg10 H locs hm hW hS => ?_)
  obtain ⟨k1, b1, e1, e2, e3, e4, hR⟩ := lp_fine (x := (xs (i + 1))) hR0 hq hm
  subst e2
  have ek : k9 = k1 := Value.int.inj (Option.some.inj e1)
  rw [← ek] at e3 e4
  refine W.eq (g2 := F0 m 1452 ls [.int b1]) rfl ?_
  refine lv_istore (lv' := [(6, .int b1), (5, .int k9), (4, .int (nI i)), (3, .ref (ad 32 0)), (2, .ref (ad 14 0)), (1, .ref (ad 0 0)), (0, .ref b)]) hx hb dL_law_1452 hl (by decide) rfl (fun ls hl => ?_)
  refine lv_aload_n hx hb dL_law_1454 rfl (lv_at hl 4 rfl) ?_
  refine kx_cV (na := 0) F (q := 14) (n := 0) (c_X4_thrown l G s.heap.size ad nb sg10) gL_law_X4_thrown rfl (by decide +kernel) ⟨Nat.le_of_ble_eq_true rfl, Nat.le_of_ble_eq_true rfl⟩ hW hS ⟨by decide, rfl⟩ rfl rfl (As := []) (rest := []) rfl hl.1 rfl (Nat.le_of_ble_eq_true rfl) dL_law_1455 ⟨by show _ ≤ 601024; omega, by show _ ≤ 7293034; omega⟩ (fun r11 sg11 H locs hq11 hW hS => ?_)
  obtain ⟨rfl, e11⟩ := hq11
  rw [e11] at hW
  refine W.eq (g2 := F0 m 1458 ls [.int (sg10 14 0 22)]) rfl ?_
  rw [e3]
  refine lv_iload hx hb dL_law_1458 (lv_at hl 1 rfl) ?_
  refine lv_icmp_eq (tgt := 1465) hx hb dL_law_1460 (by decide) (fun c1 => ?_) (fun c1 => absurd rfl c1)
  refine lv_iload hx hb dL_law_1465 (lv_at hl 1 rfl) ?_
  refine lv_if_ne (tgt := 1482) hx hb dL_law_1467 (by decide) (fun c2 => ?_) (fun c2 => ?_)
  · refine lv_goto (tgt := 1604) hx hb dL_law_1482 (by decide) ?_
    exact W.widen (by omega) (by omega) (kk sg10 H locs ls hR hW hS (lv_sub hl [2, 3, 4, 5, 6] rfl))
  · have e5 := e4 c2
    refine lv_aload_n hx hb dL_law_1470 rfl (lv_at hl 3 rfl) ?_
    refine lv_iconst (v := 0) hx hb dL_law_1471 (by decide) ?_
    refine kx_lald F hW dL_law_1472 ?_
    refine lv_iload hx hb dL_law_1473 (lv_at hl 0 rfl) ?_
    refine lv_i2l (v := b1.toInt64) hx hb dL_law_1475 rfl ?_
    refine W.lcmp hx hb dL_law_1476 ?_
    refine lv_if_eq (tgt := 1482) hx hb dL_law_1477 (by decide) (fun c3 => ?_) (fun c3 => absurd (by rw [e5]; exact (lg_cmp_eq _ _).mpr rfl) c3)
    refine lv_goto (tgt := 1604) hx hb dL_law_1482 (by decide) ?_
    exact W.widen (by omega) (by omega) (kk sg10 H locs ls hR hW hS (lv_sub hl [2, 3, 4, 5, 6] rfl))

set_option maxHeartbeats 4000000 in
set_option maxRecDepth 100000 in
theorem lo_isJammed (F : kx_F p s m c cL_law 7 RL #[Value.ref b] wsL_law G s.heap.size) (hlf : l.stackTraces = false) (hX : va_X b L xs s s.heap) (hbl : b < s.heap.size) (hi : i + 4 ≤ L) (hL : L ≤ 2048) (hcl : cells + 60 ≤ 601024) (hsl : slots + 1000 ≤ 7293034) (hR : rl_PT nb sg sg) (hW : kx_Wd G s.heap.size ad nb sg H) (hS : va_S (kx_Ad s.heap.size) s.heap H locs) (hl : lv_has ls 7 [(4, .int (nI i)), (3, .ref (ad 32 0)), (2, .ref (ad 14 0)), (1, .ref (ad 0 0)), (0, .ref b)]) (kk : ∀ (sg1 : kx_S) (H1 : Heap) (locs1 : List Loc) (ls1 : Array Slot), rl_PT nb sg1 sg1 → kx_Wd G s.heap.size ad nb sg1 H1 → va_S (kx_Ad s.heap.size) s.heap H1 locs1 → lv_has ls1 7 [(4, .int (nI i)), (3, .ref (ad 32 0)), (2, .ref (ad 14 0)), (1, .ref (ad 0 0)), (0, .ref b)] → W p l e room_1 s m #[Value.ref b] below meth c H1 locs1 (cells + 60) (slots + 1000) Q (F0 m 1604 ls1 [])) : W p l e room_1 s m #[Value.ref b] below meth c H locs cells slots Q (F0 m 1485 ls []) := by
  have hx := F.1; have hb := F.2.1
  have hC := rl_CI hR.1 hR.2.1.1
  have hR0 := hR
  refine lv_aload_n hx hb dL_law_1485 rfl (lv_at hl 3 rfl) ?_
  refine lv_aload_n hx hb dL_law_1486 rfl (lv_at hl 4 rfl) ?_
  refine lv_iload hx hb dL_law_1487 (lv_at hl 0 rfl) ?_
  refine lv_iconst (v := 1) hx hb dL_law_1489 (by decide) ?_
  refine lv_iadd hx hb dL_law_1490 ?_
  rw [lo_n1 i]
  refine va_sld hx hb hX hbl (Nat.not_le.mpr hbl) hS (vp_in_nI (by omega) (by omega)) dL_law_1491 ?_
  rw [nI_clamp (n := i + 1) (by omega)]
  refine lv_aload_n hx hb dL_law_1492 rfl (lv_at hl 1 rfl) ?_
  refine kx_xSH (na := 3) F (c_L_isJammed l hlf G s.heap.size ad nb sg hC (xs (i + 1))) gL_law_L_isJammed rfl (by decide +kernel) ⟨Nat.le_of_ble_eq_true rfl, Nat.le_of_ble_eq_true rfl⟩ hW hS (As := [.ref (ad 0 0), .int (xs (i + 1)), .ref (ad 32 0)]) (rest := []) rfl hl.1 rfl (Nat.le_of_ble_eq_true rfl) dL_law_1493 ⟨by show _ ≤ 601024; omega, by show _ ≤ 7293034; omega⟩ (fun E9 ce9 q9 H locs hp9 hW hS h7 h8 h9 => hp9.elim) (fun r9 sg9 H locs hq hW hS => ?_)
  obtain ⟨hR9, k9, hk9⟩ := lq_isJammed (x := (xs (i + 1))) hR hq
  subst hk9
  refine W.eq (g2 := F0 m 1496 ls [.int k9]) rfl ?_
  refine lv_istore (lv' := [(5, .int k9), (4, .int (nI i)), (3, .ref (ad 32 0)), (2, .ref (ad 14 0)), (1, .ref (ad 0 0)), (0, .ref b)]) hx hb dL_law_1496 hl (by decide) rfl (fun ls hl => ?_)
  refine lv_aload_n hx hb dL_law_1498 rfl (lv_at hl 3 rfl) ?_
  refine lv_aload_n hx hb dL_law_1499 rfl (lv_at hl 5 rfl) ?_
  refine lv_iload hx hb dL_law_1500 (lv_at hl 1 rfl) ?_
  refine lv_iconst (v := 1) hx hb dL_law_1502 (by decide) ?_
  refine lv_iadd hx hb dL_law_1503 ?_
  rw [lo_n1 i]
  refine va_sld hx hb hX hbl (Nat.not_le.mpr hbl) hS (vp_in_nI (by omega) (by omega)) dL_law_1504 ?_
  rw [nI_clamp (n := i + 1) (by omega)]
  refine kx_cV (na := 1) F (q := 14) (n := 0) (c_X4_isJammed l G s.heap.size ad nb sg9 nb (rl_tmWF hR9.1) (xs (i + 1))) gL_law_X4_isJammed rfl (by decide +kernel) ⟨Nat.le_of_ble_eq_true rfl, Nat.le_of_ble_eq_true rfl⟩ hW hS ⟨by decide, rfl⟩ rfl rfl (As := [.int (xs (i + 1))]) (rest := []) rfl hl.1 rfl (Nat.le_of_ble_eq_true rfl) dL_law_1505 ⟨by show _ ≤ 601024; omega, by show _ ≤ 7293034; omega⟩ (fun r10 sg10 H locs hm hW hS => ?_)
  obtain ⟨k1, b1, e1, e2, e3, e4, hR⟩ := lp_isJammed (x := (xs (i + 1))) hR0 hq hm
  subst e2
  have h01 := lb_isJammed (nb := nb) (x := (xs (i + 1))) hm
  have ek : k9 = k1 := Value.int.inj (Option.some.inj e1)
  rw [← ek] at e3 e4
  refine W.eq (g2 := F0 m 1508 ls [.int b1]) rfl ?_
  refine lv_istore (lv' := [(6, .int b1), (5, .int k9), (4, .int (nI i)), (3, .ref (ad 32 0)), (2, .ref (ad 14 0)), (1, .ref (ad 0 0)), (0, .ref b)]) hx hb dL_law_1508 hl (by decide) rfl (fun ls hl => ?_)
  refine lv_aload_n hx hb dL_law_1510 rfl (lv_at hl 4 rfl) ?_
  refine kx_cV (na := 0) F (q := 14) (n := 0) (c_X4_thrown l G s.heap.size ad nb sg10) gL_law_X4_thrown rfl (by decide +kernel) ⟨Nat.le_of_ble_eq_true rfl, Nat.le_of_ble_eq_true rfl⟩ hW hS ⟨by decide, rfl⟩ rfl rfl (As := []) (rest := []) rfl hl.1 rfl (Nat.le_of_ble_eq_true rfl) dL_law_1511 ⟨by show _ ≤ 601024; omega, by show _ ≤ 7293034; omega⟩ (fun r11 sg11 H locs hq11 hW hS => ?_)
  obtain ⟨rfl, e11⟩ := hq11
  rw [e11] at hW
  refine W.eq (g2 := F0 m 1514 ls [.int (sg10 14 0 22)]) rfl ?_
  rw [e3]
  refine lv_iload hx hb dL_law_1514 (lv_at hl 1 rfl) ?_
  refine lv_icmp_eq (tgt := 1521) hx hb dL_law_1516 (by decide) (fun c1 => ?_) (fun c1 => absurd rfl c1)
  refine lv_iload hx hb dL_law_1521 (lv_at hl 1 rfl) ?_
  refine lv_if_ne (tgt := 1545) hx hb dL_law_1523 (by decide) (fun c2 => ?_) (fun c2 => ?_)
  · refine lv_goto (tgt := 1604) hx hb dL_law_1545 (by decide) ?_
    exact W.widen (by omega) (by omega) (kk sg10 H locs ls hR hW hS (lv_sub hl [2, 3, 4, 5, 6] rfl))
  · have e5 := e4 c2
    refine lv_aload_n hx hb dL_law_1526 rfl (lv_at hl 3 rfl) ?_
    refine lv_iconst (v := 0) hx hb dL_law_1527 (by decide) ?_
    refine kx_lald F hW dL_law_1528 ?_
    refine lv_iload hx hb dL_law_1529 (lv_at hl 0 rfl) ?_
    refine lv_if_eq (tgt := 1538) hx hb dL_law_1531 (by decide) (fun c4 => ?_) (fun c4 => ?_)
    · refine lv_lconst (v := 0) hx hb dL_law_1538 (by decide) ?_
      refine W.lcmp hx hb dL_law_1539 ?_
      refine lv_if_eq (tgt := 1545) hx hb dL_law_1540 (by decide) (fun c3 => ?_) (fun c3 => absurd (by rw [e5, c4]; first | rfl | decide) c3)
      refine lv_goto (tgt := 1604) hx hb dL_law_1545 (by decide) ?_
      exact W.widen (by omega) (by omega) (kk sg10 H locs ls hR hW hS (lv_sub hl [2, 3, 4, 5, 6] rfl))
    · refine lv_lconst (v := 1) hx hb dL_law_1534 (by decide) ?_
      refine lv_goto (tgt := 1539) hx hb dL_law_1535 (by decide) ?_
      refine W.lcmp hx hb dL_law_1539 ?_
      refine lv_if_eq (tgt := 1545) hx hb dL_law_1540 (by decide) (fun c3 => ?_) (fun c3 => absurd (by rw [e5, tw_ins (f := 0) h01 c4]; first | rfl | decide) c3)
      refine lv_goto (tgt := 1604) hx hb dL_law_1545 (by decide) ?_
      exact W.widen (by omega) (by omega) (kk sg10 H locs ls hR hW hS (lv_sub hl [2, 3, 4, 5, 6] rfl))

set_option maxHeartbeats 4000000 in
set_option maxRecDepth 100000 in
theorem lo_keptFor (F : kx_F p s m c cL_law 7 RL #[Value.ref b] wsL_law G s.heap.size) (hlf : l.stackTraces = false) (hX : va_X b L xs s s.heap) (hbl : b < s.heap.size) (hi : i + 4 ≤ L) (hL : L ≤ 2048) (hcl : cells + 60 ≤ 601024) (hsl : slots + 1000 ≤ 7293034) (hR : rl_PT nb sg sg) (hW : kx_Wd G s.heap.size ad nb sg H) (hS : va_S (kx_Ad s.heap.size) s.heap H locs) (hl : lv_has ls 7 [(4, .int (nI i)), (3, .ref (ad 32 0)), (2, .ref (ad 14 0)), (1, .ref (ad 0 0)), (0, .ref b)]) (kk : ∀ (sg1 : kx_S) (H1 : Heap) (locs1 : List Loc) (ls1 : Array Slot), rl_PT nb sg1 sg1 → kx_Wd G s.heap.size ad nb sg1 H1 → va_S (kx_Ad s.heap.size) s.heap H1 locs1 → lv_has ls1 7 [(4, .int (nI i)), (3, .ref (ad 32 0)), (2, .ref (ad 14 0)), (1, .ref (ad 0 0)), (0, .ref b)] → W p l e room_1 s m #[Value.ref b] below meth c H1 locs1 (cells + 60) (slots + 1000) Q (F0 m 1604 ls1 [])) : W p l e room_1 s m #[Value.ref b] below meth c H locs cells slots Q (F0 m 1548 ls []) := by
  have hx := F.1; have hb := F.2.1
  have hC := rl_CI hR.1 hR.2.1.1
  have hR0 := hR
  refine lv_aload_n hx hb dL_law_1548 rfl (lv_at hl 3 rfl) ?_
  refine lv_aload_n hx hb dL_law_1549 rfl (lv_at hl 4 rfl) ?_
  refine lv_iload hx hb dL_law_1550 (lv_at hl 0 rfl) ?_
  refine lv_iconst (v := 1) hx hb dL_law_1552 (by decide) ?_
  refine lv_iadd hx hb dL_law_1553 ?_
  rw [lo_n1 i]
  refine va_sld hx hb hX hbl (Nat.not_le.mpr hbl) hS (vp_in_nI (by omega) (by omega)) dL_law_1554 ?_
  rw [nI_clamp (n := i + 1) (by omega)]
  refine lv_aload_n hx hb dL_law_1555 rfl (lv_at hl 1 rfl) ?_
  refine kx_xSH (na := 3) F (c_L_keptFor l hlf G s.heap.size ad nb sg hC (xs (i + 1))) gL_law_L_keptFor rfl (by decide +kernel) ⟨Nat.le_of_ble_eq_true rfl, Nat.le_of_ble_eq_true rfl⟩ hW hS (As := [.ref (ad 0 0), .int (xs (i + 1)), .ref (ad 32 0)]) (rest := []) rfl hl.1 rfl (Nat.le_of_ble_eq_true rfl) dL_law_1556 ⟨by show _ ≤ 601024; omega, by show _ ≤ 7293034; omega⟩ (fun E9 ce9 q9 H locs hp9 hW hS h7 h8 h9 => hp9.elim) (fun r9 sg9 H locs hq hW hS => ?_)
  obtain ⟨hR9, k9, hk9⟩ := lq_keptFor (x := (xs (i + 1))) hR hq
  subst hk9
  refine W.eq (g2 := F0 m 1559 ls [.int k9]) rfl ?_
  refine lv_istore (lv' := [(5, .int k9), (4, .int (nI i)), (3, .ref (ad 32 0)), (2, .ref (ad 14 0)), (1, .ref (ad 0 0)), (0, .ref b)]) hx hb dL_law_1559 hl (by decide) rfl (fun ls hl => ?_)
  refine lv_aload_n hx hb dL_law_1561 rfl (lv_at hl 3 rfl) ?_
  refine lv_aload_n hx hb dL_law_1562 rfl (lv_at hl 5 rfl) ?_
  refine lv_iload hx hb dL_law_1563 (lv_at hl 1 rfl) ?_
  refine lv_iconst (v := 1) hx hb dL_law_1565 (by decide) ?_
  refine lv_iadd hx hb dL_law_1566 ?_
  rw [lo_n1 i]
  refine va_sld hx hb hX hbl (Nat.not_le.mpr hbl) hS (vp_in_nI (by omega) (by omega)) dL_law_1567 ?_
  rw [nI_clamp (n := i + 1) (by omega)]
  refine kx_cV (na := 1) F (q := 14) (n := 0) (c_X4_keptFor l G s.heap.size ad nb sg9 nb (rl_tmWF hR9.1) (xs (i + 1))) gL_law_X4_keptFor rfl (by decide +kernel) ⟨Nat.le_of_ble_eq_true rfl, Nat.le_of_ble_eq_true rfl⟩ hW hS ⟨by decide, rfl⟩ rfl rfl (As := [.int (xs (i + 1))]) (rest := []) rfl hl.1 rfl (Nat.le_of_ble_eq_true rfl) dL_law_1568 ⟨by show _ ≤ 601024; omega, by show _ ≤ 7293034; omega⟩ (fun r10 sg10 H locs hm hW hS => ?_)
  obtain ⟨k1, b1, e1, e2, e3, e4, hR⟩ := lp_keptFor (x := (xs (i + 1))) hR0 hq hm
  subst e2
  have ek : k9 = k1 := Value.int.inj (Option.some.inj e1)
  rw [← ek] at e3 e4
  refine W.eq (g2 := F0 m 1571 ls [.int b1]) rfl ?_
  refine lv_istore (lv' := [(6, .int b1), (5, .int k9), (4, .int (nI i)), (3, .ref (ad 32 0)), (2, .ref (ad 14 0)), (1, .ref (ad 0 0)), (0, .ref b)]) hx hb dL_law_1571 hl (by decide) rfl (fun ls hl => ?_)
  refine lv_aload_n hx hb dL_law_1573 rfl (lv_at hl 4 rfl) ?_
  refine kx_cV (na := 0) F (q := 14) (n := 0) (c_X4_thrown l G s.heap.size ad nb sg10) gL_law_X4_thrown rfl (by decide +kernel) ⟨Nat.le_of_ble_eq_true rfl, Nat.le_of_ble_eq_true rfl⟩ hW hS ⟨by decide, rfl⟩ rfl rfl (As := []) (rest := []) rfl hl.1 rfl (Nat.le_of_ble_eq_true rfl) dL_law_1574 ⟨by show _ ≤ 601024; omega, by show _ ≤ 7293034; omega⟩ (fun r11 sg11 H locs hq11 hW hS => ?_)
  obtain ⟨rfl, e11⟩ := hq11
  rw [e11] at hW
  refine W.eq (g2 := F0 m 1577 ls [.int (sg10 14 0 22)]) rfl ?_
  rw [e3]
  refine lv_iload hx hb dL_law_1577 (lv_at hl 1 rfl) ?_
  refine lv_icmp_eq (tgt := 1584) hx hb dL_law_1579 (by decide) (fun c1 => ?_) (fun c1 => absurd rfl c1)
  refine lv_iload hx hb dL_law_1584 (lv_at hl 1 rfl) ?_
  refine lv_if_ne (tgt := 1601) hx hb dL_law_1586 (by decide) (fun c2 => ?_) (fun c2 => ?_)
  · refine lv_goto (tgt := 1604) hx hb dL_law_1601 (by decide) ?_
    exact W.widen (by omega) (by omega) (kk sg10 H locs ls hR hW hS (lv_sub hl [2, 3, 4, 5, 6] rfl))
  · have e5 := e4 c2
    refine lv_aload_n hx hb dL_law_1589 rfl (lv_at hl 3 rfl) ?_
    refine lv_iconst (v := 0) hx hb dL_law_1590 (by decide) ?_
    refine kx_lald F hW dL_law_1591 ?_
    refine lv_iload hx hb dL_law_1592 (lv_at hl 0 rfl) ?_
    refine lv_i2l (v := b1.toInt64) hx hb dL_law_1594 rfl ?_
    refine W.lcmp hx hb dL_law_1595 ?_
    refine lv_if_eq (tgt := 1601) hx hb dL_law_1596 (by decide) (fun c3 => ?_) (fun c3 => absurd (by rw [e5]; exact (lg_cmp_eq _ _).mpr rfl) c3)
    refine lv_goto (tgt := 1604) hx hb dL_law_1601 (by decide) ?_
    exact W.widen (by omega) (by omega) (kk sg10 H locs ls hR hW hS (lv_sub hl [2, 3, 4, 5, 6] rfl))
end LOP
