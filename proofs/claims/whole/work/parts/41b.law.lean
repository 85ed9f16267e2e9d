section LOP
variable {p : Program} {l : Launch} {e : Env} {s : State} {m : MethodId} {below : List Frame} {meth : Method} {c : Code} {b L : Nat} {xs : Nat → Int32} {Q : State → Prop} {G : kx_G} {nb : Nat} {ad : kx_A} {sg : kx_S} {H : Heap} {locs : List Loc} {ls : Array Slot} {cells slots i : Nat}
set_option maxHeartbeats 4000000 in
set_option maxRecDepth 100000 in
theorem lo_claim (F : kx_F p s m c cL_law 7 RL #[Value.ref b] wsL_law G s.heap.size) (hlf : l.stackTraces = false) (hX : va_X b L xs s s.heap) (hbl : b < s.heap.size) (hi : i + 4 ≤ L) (hL : L ≤ 2048) (hcl : cells + 60 ≤ 601024) (hsl : slots + 1000 ≤ 7293034) (hR : rl_PT nb sg sg) (hW : kx_Wd G s.heap.size ad nb sg H) (hS : va_S (kx_Ad s.heap.size) s.heap H locs) (hl : lv_has ls 7 [(4, .int (nI i)), (3, .ref (ad 32 0)), (2, .ref (ad 14 0)), (1, .ref (ad 0 0)), (0, .ref b)]) (kk : ∀ (sg1 : kx_S) (H1 : Heap) (locs1 : List Loc) (ls1 : Array Slot), rl_PT nb sg1 sg1 → kx_Wd G s.heap.size ad nb sg1 H1 → va_S (kx_Ad s.heap.size) s.heap H1 locs1 → lv_has ls1 7 [(4, .int (nI i)), (3, .ref (ad 32 0)), (2, .ref (ad 14 0)), (1, .ref (ad 0 0)), (0, .ref b)] → W p l e room_1 s m #[Value.ref b] below meth c H1 locs1 (cells + 60) (slots + 1000) Q (F0 m 1604 ls1 [])) : W p l e room_1 s m #[Value.ref b] below meth c H locs cells slots Q (F0 m 859 ls []) := by
  have hx := F.1; have hb := F.2.1
  have hC := rl_CI hR.1 hR.2.1.1
  have hR0 := hR
  refine lv_aload_n hx hb dL_law_859 rfl (lv_at hl 3 rfl) ?_
  refine lv_aload_n hx hb dL_law_860 rfl (lv_at hl 4 rfl) ?_
  refine lv_iload hx hb dL_law_861 (lv_at hl 0 rfl) ?_
  refine lv_iconst (v := 1) hx hb dL_law_863 (by decide) ?_
  refine lv_iadd hx hb dL_law_864 ?_
  rw [lo_n1 i]
  refine va_sld hx hb hX hbl (Nat.not_le.mpr hbl) hS (vp_in_nI (by omega) (by omega)) dL_law_865 ?_
  rw [nI_clamp (n := i + 1) (by omega)]
  refine lv_aload_n hx hb dL_law_866 rfl (lv_at hl 1 rfl) ?_
  refine kx_xSH (na := 3) F (c_L_claim l hlf G s.heap.size ad nb sg hC (xs (i + 1))) gL_law_L_claim rfl (by decide +kernel) ⟨Nat.le_of_ble_eq_true rfl, Nat.le_of_ble_eq_true rfl⟩ hW hS (As := [.ref (ad 0 0), .int (xs (i + 1)), .ref (ad 32 0)]) (rest := []) rfl hl.1 rfl (Nat.le_of_ble_eq_true rfl) dL_law_867 ⟨by show _ ≤ 601024; omega, by show _ ≤ 7293034; omega⟩ (fun E9 ce9 q9 H locs hp9 hW hS h7 h8 h9 => hp9.elim) (fun r9 sg9 H locs hq hW hS => ?_)
  obtain ⟨hR9, k9, hk9⟩ := lq_claim (x := (xs (i + 1))) hR hq
  subst hk9
  refine W.eq (g2 := F0 m 870 ls [.int k9]) rfl ?_
  refine lv_istore (lv' := [(5, .int k9), (4, .int (nI i)), (3, .ref (ad 32 0)), (2, .ref (ad 14 0)), (1, .ref (ad 0 0)), (0, .ref b)]) hx hb dL_law_870 hl (by decide) rfl (fun ls hl => ?_)
  refine lv_aload_n hx hb dL_law_872 rfl (lv_at hl 3 rfl) ?_
  refine lv_aload_n hx hb dL_law_873 rfl (lv_at hl 5 rfl) ?_
  refine lv_iload hx hb dL_law_874 (lv_at hl 1 rfl) ?_
  refine lv_iconst (v := 1) hx hb dL_law_876 (by decide) ?_
  refine lv_iadd hx hb dL_law_877 ?_
  rw [lo_n1 i]
  refine va_sld hx hb hX hbl (Nat.not_le.mpr hbl) hS (vp_in_nI (by omega) (by omega)) dL_law_878 ?_
  rw [nI_clamp (n := i + 1) (by omega)]
  refine kx_cV (na := 1) F (q := 14) (n := 0) (c_X4_claim l G s.heap.size ad nb sg9 nb (rl_tmWF hR9.1) (xs (i + 1))) gL_law_X4_claim rfl (by decide +kernel) ⟨Nat.le_of_ble_eq_true rfl, Nat.le_of_ble_eq_true rfl⟩ hW hS ⟨by decide, rfl⟩ rfl rfl (As := [.int (xs (i + 1))]) (rest := []) rfl hl.1 rfl (Nat.le_of_ble_eq_true rfl) dL_law_879 ⟨by show _ ≤ 601024; omega, by show _ ≤ 7293034; omega⟩ (fun r10 sg10 H locs hm hW hS => ?_)
  obtain ⟨k1, b1, e1, e2, e3, e4, hR⟩ := lp_claim (x := (xs (i + 1))) hR0 hq hm
  subst e2
  have ek : k9 = k1 := Value.int.inj (Option.some.inj e1)
  rw [← ek] at e3 e4
  refine W.eq (g2 := F0 m 882 ls [.int b1]) rfl ?_
  refine lv_istore (lv' := [(6, .int b1), (5, .int k9), (4, .int (nI i)), (3, .ref (ad 32 0)), (2, .ref (ad 14 0)), (1, .ref (ad 0 0)), (0, .ref b)]) hx hb dL_law_882 hl (by decide) rfl (fun ls hl => ?_)
  refine lv_aload_n hx hb dL_law_884 rfl (lv_at hl 4 rfl) ?_
  refine kx_cV (na := 0) F (q := 14) (n := 0) (c_X4_thrown l G s.heap.size ad nb sg10) gL_law_X4_thrown rfl (by decide +kernel) ⟨Nat.le_of_ble_eq_true rfl, Nat.le_of_ble_eq_true rfl⟩ hW hS ⟨by decide, rfl⟩ rfl rfl (As := []) (rest := []) rfl hl.1 rfl (Nat.le_of_ble_eq_true rfl) dL_law_885 ⟨by show _ ≤ 601024; omega, by show _ ≤ 7293034; omega⟩ (fun r11 sg11 H locs hq11 hW hS => ?_)
  obtain ⟨rfl, e11⟩ := hq11
  rw [e11] at hW
  refine W.eq (g2 := F0 m 888 ls [.int (sg10 14 0 22)]) rfl ?_
  rw [e3]
  refine lv_iload hx hb dL_law_888 (lv_at hl 1 rfl) ?_
  refine lv_icmp_eq (tgt := 895) hx hb dL_law_890 (by decide) (fun c1 => ?_) (fun c1 => absurd rfl c1)
  refine lv_iload hx hb dL_law_895 (lv_at hl 1 rfl) ?_
  refine lv_if_ne (tgt := 912) hx hb dL_law_897 (by decide) (fun c2 => ?_) (fun c2 => ?_)
  · refine lv_goto (tgt := 1604) hx hb dL_law_912 (by decide) ?_
    exact W.widen (by omega) (by omega) (kk sg10 H locs ls hR hW hS (lv_sub hl [2, 3, 4, 5, 6] rfl))
  · have e5 := e4 c2
    refine lv_aload_n hx hb dL_law_900 rfl (lv_at hl 3 rfl) ?_
    refine lv_iconst (v := 0) hx hb dL_law_901 (by decide) ?_
    refine kx_lald F hW dL_law_902 ?_
    refine lv_iload hx hb dL_law_903 (lv_at hl 0 rfl) ?_
    refine lv_i2l (v := b1.toInt64) hx hb dL_law_905 rfl ?_
    refine W.lcmp hx hb dL_law_906 ?_
    refine lv_if_eq (tgt := 912) hx hb dL_law_907 (by decide) (fun c3 => ?_) (fun c3 => absurd (by rw [e5]; exact (lg_cmp_eq _ _).mpr rfl) c3)
    refine lv_goto (tgt := 1604) hx hb dL_law_912 (by decide) ?_
    exact W.widen (by omega) (by omega) (kk sg10 H locs ls hR hW hS (lv_sub hl [2, 3, 4, 5, 6] rfl))

set_option maxHeartbeats 4000000 in
set_option maxRecDepth 100000 in
theorem lo_time (F : kx_F p s m c cL_law 7 RL #[Value.ref b] wsL_law G s.heap.size) (hlf : l.stackTraces = false) (hX : va_X b L xs s s.heap) (hbl : b < s.heap.size) (hi : i + 4 ≤ L) (hL : L ≤ 2048) (hcl : cells + 60 ≤ 601024) (hsl : slots + 1000 ≤ 7293034) (hR : rl_PT nb sg sg) (hW : kx_Wd G s.heap.size ad nb sg H) (hS : va_S (kx_Ad s.heap.size) s.heap H locs) (hl : lv_has ls 7 [(4, .int (nI i)), (3, .ref (ad 32 0)), (2, .ref (ad 14 0)), (1, .ref (ad 0 0)), (0, .ref b)]) (kk : ∀ (sg1 : kx_S) (H1 : Heap) (locs1 : List Loc) (ls1 : Array Slot), rl_PT nb sg1 sg1 → kx_Wd G s.heap.size ad nb sg1 H1 → va_S (kx_Ad s.heap.size) s.heap H1 locs1 → lv_has ls1 7 [(4, .int (nI i)), (3, .ref (ad 32 0)), (2, .ref (ad 14 0)), (1, .ref (ad 0 0)), (0, .ref b)] → W p l e room_1 s m #[Value.ref b] below meth c H1 locs1 (cells + 60) (slots + 1000) Q (F0 m 1604 ls1 [])) : W p l e room_1 s m #[Value.ref b] below meth c H locs cells slots Q (F0 m 915 ls []) := by
  have hx := F.1; have hb := F.2.1
  refine lv_aload_n hx hb dL_law_915 rfl (lv_at hl 3 rfl) ?_
  refine kx_cV (na := 0) F (q := 0) (n := 0) (c_X3_time l G s.heap.size ad nb sg) gL_law_X3_time rfl (by decide +kernel) ⟨Nat.le_of_ble_eq_true rfl, Nat.le_of_ble_eq_true rfl⟩ hW hS ⟨by decide, rfl⟩ rfl rfl (As := []) (rest := []) rfl hl.1 rfl (Nat.le_of_ble_eq_true rfl) dL_law_916 ⟨by show _ ≤ 601024; omega, by show _ ≤ 7293034; omega⟩ (fun r9 sg9 H locs hq hW hS => ?_)
  have hq : cq_time nb sg r9 sg9 := hq
  obtain ⟨a9, ha9⟩ := ci_time hq
  subst ha9
  have e9 : sg9 = sg := hq.2
  rw [e9] at hW
  refine W.eq (g2 := F0 m 919 ls [.int a9]) rfl ?_
  refine lv_aload_n hx hb dL_law_919 rfl (lv_at hl 2 rfl) ?_
  refine kx_cV (na := 0) F (q := 14) (n := 0) (c_X4_time l G s.heap.size ad nb sg nb (rl_tmWF hR.1)) gL_law_X4_time rfl (by decide +kernel) ⟨Nat.le_of_ble_eq_true rfl, Nat.le_of_ble_eq_true rfl⟩ hW hS ⟨by decide, rfl⟩ rfl rfl (As := []) (rest := [.int a9]) rfl hl.1 rfl (Nat.le_of_ble_eq_true rfl) dL_law_920 ⟨by show _ ≤ 601024; omega, by show _ ≤ 7293034; omega⟩ (fun r10 sg10 H locs hm hW hS => ?_)
  obtain ⟨b9, hb9⟩ := lm_time (nb := nb) hm
  subst hb9
  obtain ⟨e1, e2, -⟩ := rn_time hR hq hm
  have hR : rl_PT nb sg10 sg10 := rl_same (lo_tsr (lt_time (nb := nb) hm)) (tm_Q_same e2) hR
  refine W.eq (g2 := F0 m 923 ls [.int b9, .int a9]) rfl ?_
  refine lv_icmp_eq (tgt := 1604) hx hb dL_law_923 (by decide) (fun c1 => ?_) (fun c1 => absurd e1 c1)
  exact W.widen (by omega) (by omega) (kk sg10 H locs ls hR hW hS (lv_sub hl [0, 1, 2, 3, 4] rfl))

set_option maxHeartbeats 4000000 in
set_option maxRecDepth 100000 in
theorem lo_boxes (F : kx_F p s m c cL_law 7 RL #[Value.ref b] wsL_law G s.heap.size) (hlf : l.stackTraces = false) (hX : va_X b L xs s s.heap) (hbl : b < s.heap.size) (hi : i + 4 ≤ L) (hL : L ≤ 2048) (hcl : cells + 60 ≤ 601024) (hsl : slots + 1000 ≤ 7293034) (hR : rl_PT nb sg sg) (hW : kx_Wd G s.heap.size ad nb sg H) (hS : va_S (kx_Ad s.heap.size) s.heap H locs) (hl : lv_has ls 7 [(4, .int (nI i)), (3, .ref (ad 32 0)), (2, .ref (ad 14 0)), (1, .ref (ad 0 0)), (0, .ref b)]) (kk : ∀ (sg1 : kx_S) (H1 : Heap) (locs1 : List Loc) (ls1 : Array Slot), rl_PT nb sg1 sg1 → kx_Wd G s.heap.size ad nb sg1 H1 → va_S (kx_Ad s.heap.size) s.heap H1 locs1 → lv_has ls1 7 [(4, .int (nI i)), (3, .ref (ad 32 0)), (2, .ref (ad 14 0)), (1, .ref (ad 0 0)), (0, .ref b)] → W p l e room_1 s m #[Value.ref b] below meth c H1 locs1 (cells + 60) (slots + 1000) Q (F0 m 1604 ls1 [])) : W p l e room_1 s m #[Value.ref b] below meth c H locs cells slots Q (F0 m 928 ls []) := by
  have hx := F.1; have hb := F.2.1
  refine lv_aload_n hx hb dL_law_928 rfl (lv_at hl 3 rfl) ?_
  refine kx_cV (na := 0) F (q := 0) (n := 0) (c_X3_boxes l G s.heap.size ad nb sg) gL_law_X3_boxes rfl (by decide +kernel) ⟨Nat.le_of_ble_eq_true rfl, Nat.le_of_ble_eq_true rfl⟩ hW hS ⟨by decide, rfl⟩ rfl rfl (As := []) (rest := []) rfl hl.1 rfl (Nat.le_of_ble_eq_true rfl) dL_law_929 ⟨by show _ ≤ 601024; omega, by show _ ≤ 7293034; omega⟩ (fun r9 sg9 H locs hq hW hS => ?_)
  have hq : cq_boxes nb sg r9 sg9 := hq
  obtain ⟨a9, ha9⟩ := ci_boxes hq
  subst ha9
  have e9 : sg9 = sg := hq.2
  rw [e9] at hW
  refine W.eq (g2 := F0 m 932 ls [.int a9]) rfl ?_
  refine lv_aload_n hx hb dL_law_932 rfl (lv_at hl 2 rfl) ?_
  refine kx_cV (na := 0) F (q := 14) (n := 0) (c_X4_boxes l G s.heap.size ad nb sg nb (rl_tmWF hR.1)) gL_law_X4_boxes rfl (by decide +kernel) ⟨Nat.le_of_ble_eq_true rfl, Nat.le_of_ble_eq_true rfl⟩ hW hS ⟨by decide, rfl⟩ rfl rfl (As := []) (rest := [.int a9]) rfl hl.1 rfl (Nat.le_of_ble_eq_true rfl) dL_law_933 ⟨by show _ ≤ 601024; omega, by show _ ≤ 7293034; omega⟩ (fun r10 sg10 H locs hm hW hS => ?_)
  obtain ⟨b9, hb9⟩ := lm_boxes (nb := nb) hm
  subst hb9
  obtain ⟨e1, e2, -⟩ := rn_boxes hR hq hm
  have hR : rl_PT nb sg10 sg10 := rl_same (lo_tsr (lt_boxes (nb := nb) hm)) (tm_Q_same e2) hR
  refine W.eq (g2 := F0 m 936 ls [.int b9, .int a9]) rfl ?_
  refine lv_icmp_eq (tgt := 1604) hx hb dL_law_936 (by decide) (fun c1 => ?_) (fun c1 => absurd e1 c1)
  exact W.widen (by omega) (by omega) (kk sg10 H locs ls hR hW hS (lv_sub hl [0, 1, 2, 3, 4] rfl))

set_option maxHeartbeats 4000000 in
set_option maxRecDepth 100000 in
theorem lo_scans (F : kx_F p s m c cL_law 7 RL #[Value.ref b] wsL_law G s.heap.size) (hlf : l.stackTraces = false) (hX : va_X b L xs s s.heap) (hbl : b < s.heap.size) (hi : i + 4 ≤ L) (hL : L ≤ 2048) (hcl : cells + 60 ≤ 601024) (hsl : slots + 1000 ≤ 7293034) (hR : rl_PT nb sg sg) (hW : kx_Wd G s.heap.size ad nb sg H) (hS : va_S (kx_Ad s.heap.size) s.heap H locs) (hl : lv_has ls 7 [(4, .int (nI i)), (3, .ref (ad 32 0)), (2, .ref (ad 14 0)), (1, .ref (ad 0 0)), (0, .ref b)]) (kk : ∀ (sg1 : kx_S) (H1 : Heap) (locs1 : List Loc) (ls1 : Array Slot), rl_PT nb sg1 sg1 → kx_Wd G s.heap.size ad nb sg1 H1 → va_S (kx_Ad s.heap.size) s.heap H1 locs1 → lv_has ls1 7 [(4, .int (nI i)), (3, .ref (ad 32 0)), (2, .ref (ad 14 0)), (1, .ref (ad 0 0)), (0, .ref b)] → W p l e room_1 s m #[Value.ref b] below meth c H1 locs1 (cells + 60) (slots + 1000) Q (F0 m 1604 ls1 [])) : W p l e room_1 s m #[Value.ref b] below meth c H locs cells slots Q (F0 m 941 ls []) := by
  have hx := F.1; have hb := F.2.1
  have hC := rl_CI hR.1 hR.2.1.1
  have hR0 := hR
  refine lv_aload_n hx hb dL_law_941 rfl (lv_at hl 3 rfl) ?_
  refine lv_aload_n hx hb dL_law_942 rfl (lv_at hl 4 rfl) ?_
  refine lv_iload hx hb dL_law_943 (lv_at hl 0 rfl) ?_
  refine lv_iconst (v := 1) hx hb dL_law_945 (by decide) ?_
  refine lv_iadd hx hb dL_law_946 ?_
  rw [lo_n1 i]
  refine va_sld hx hb hX hbl (Nat.not_le.mpr hbl) hS (vp_in_nI (by omega) (by omega)) dL_law_947 ?_
  rw [nI_clamp (n := i + 1) (by omega)]
  refine lv_aload_n hx hb dL_law_948 rfl (lv_at hl 1 rfl) ?_
  refine kx_xSH (na := 3) F (c_L_scans l hlf G s.heap.size ad nb sg hC (xs (i + 1))) gL_law_L_scans rfl (by decide +kernel) ⟨Nat.le_of_ble_eq_true rfl, Nat.le_of_ble_eq_true rfl⟩ hW hS (As := [.ref (ad 0 0), .int (xs (i + 1)), .ref (ad 32 0)]) (rest := []) rfl hl.1 rfl (Nat.le_of_ble_eq_true rfl) dL_law_949 ⟨by show _ ≤ 601024; omega, by show _ ≤ 7293034; omega⟩ (fun E9 ce9 q9 H locs hp9 hW hS h7 h8 h9 => hp9.elim) (fun r9 sg9 H locs hq hW hS => ?_)
  obtain ⟨hR9, k9, hk9⟩ := lq_scans (x := (xs (i + 1))) hR hq
  subst hk9
  refine W.eq (g2 := F0 m 952 ls [.int k9]) rfl ?_
  refine lv_istore (lv' := [(5, .int k9), (4, .int (nI i)), (3, .ref (ad 32 0)), (2, .ref (ad 14 0)), (1, .ref (ad 0 0)), (0, .ref b)]) hx hb dL_law_952 hl (by decide) rfl (fun ls hl => ?_)
  refine lv_aload_n hx hb dL_law_954 rfl (lv_at hl 3 rfl) ?_
  refine lv_aload_n hx hb dL_law_955 rfl (lv_at hl 5 rfl) ?_
  refine lv_iload hx hb dL_law_956 (lv_at hl 1 rfl) ?_
  refine lv_iconst (v := 1) hx hb dL_law_958 (by decide) ?_
  refine lv_iadd hx hb dL_law_959 ?_
  rw [lo_n1 i]
  refine va_sld hx hb hX hbl (Nat.not_le.mpr hbl) hS (vp_in_nI (by omega) (by omega)) dL_law_960 ?_
  rw [nI_clamp (n := i + 1) (by omega)]
  refine kx_cV (na := 1) F (q := 14) (n := 0) (c_X4_scans l G s.heap.size ad nb sg9 nb (rl_tmWF hR9.1) (xs (i + 1))) gL_law_X4_scans rfl (by decide +kernel) ⟨Nat.le_of_ble_eq_true rfl, Nat.le_of_ble_eq_true rfl⟩ hW hS ⟨by decide, rfl⟩ rfl rfl (As := [.int (xs (i + 1))]) (rest := []) rfl hl.1 rfl (Nat.le_of_ble_eq_true rfl) dL_law_961 ⟨by show _ ≤ 601024; omega, by show _ ≤ 7293034; omega⟩ (fun r10 sg10 H locs hm hW hS => ?_)
  obtain ⟨k1, b1, e1, e2, e3, e4, hR⟩ := lp_scans (x := (xs (i + 1))) hR0 hq hm
  subst e2
  have ek : k9 = k1 := Value.int.inj (Option.some.inj e1)
  rw [← ek] at e3 e4
  refine W.eq (g2 := F0 m 964 ls [.int b1]) rfl ?_
  refine lv_istore (lv' := [(6, .int b1), (5, .int k9), (4, .int (nI i)), (3, .ref (ad 32 0)), (2, .ref (ad 14 0)), (1, .ref (ad 0 0)), (0, .ref b)]) hx hb dL_law_964 hl (by decide) rfl (fun ls hl => ?_)
  refine lv_aload_n hx hb dL_law_966 rfl (lv_at hl 4 rfl) ?_
  refine kx_cV (na := 0) F (q := 14) (n := 0) (c_X4_thrown l G s.heap.size ad nb sg10) gL_law_X4_thrown rfl (by decide +kernel) ⟨Nat.le_of_ble_eq_true rfl, Nat.le_of_ble_eq_true rfl⟩ hW hS ⟨by decide, rfl⟩ rfl rfl (As := []) (rest := []) rfl hl.1 rfl (Nat.le_of_ble_eq_true rfl) dL_law_967 ⟨by show _ ≤ 601024; omega, by show _ ≤ 7293034; omega⟩ (fun r11 sg11 H locs hq11 hW hS => ?_)
  obtain ⟨rfl, e11⟩ := hq11
  rw [e11] at hW
  refine W.eq (g2 := F0 m 970 ls [.int (sg10 14 0 22)]) rfl ?_
  rw [e3]
  refine lv_iload hx hb dL_law_970 (lv_at hl 1 rfl) ?_
  refine lv_icmp_eq (tgt := 977) hx hb dL_law_972 (by decide) (fun c1 => ?_) (fun c1 => absurd rfl c1)
  refine lv_iload hx hb dL_law_977 (lv_at hl 1 rfl) ?_
  refine lv_if_ne (tgt := 994) hx hb dL_law_979 (by decide) (fun c2 => ?_) (fun c2 => ?_)
  · refine lv_goto (tgt := 1604) hx hb dL_law_994 (by decide) ?_
    exact W.widen (by omega) (by omega) (kk sg10 H locs ls hR hW hS (lv_sub hl [2, 3, 4, 5, 6] rfl))
  · have e5 := e4 c2
    refine lv_aload_n hx hb dL_law_982 rfl (lv_at hl 3 rfl) ?_
    refine lv_iconst (v := 0) hx hb dL_law_983 (by decide) ?_
    refine kx_lald F hW dL_law_984 ?_
    refine lv_iload hx hb dL_law_985 (lv_at hl 0 rfl) ?_
    refine lv_i2l (v := b1.toInt64) hx hb dL_law_987 rfl ?_
    refine W.lcmp hx hb dL_law_988 ?_
    refine lv_if_eq (tgt := 994) hx hb dL_law_989 (by decide) (fun c3 => ?_) (fun c3 => absurd (by rw [e5]; exact (lg_cmp_eq _ _).mpr rfl) c3)
    refine lv_goto (tgt := 1604) hx hb dL_law_994 (by decide) ?_
    exact W.widen (by omega) (by omega) (kk sg10 H locs ls hR hW hS (lv_sub hl [2, 3, 4, 5, 6] rfl))

set_option maxHeartbeats 4000000 in
set_option maxRecDepth 100000 in
theorem lo_story (F : kx_F p s m c cL_law 7 RL #[Value.ref b] wsL_law G s.heap.size) (hlf : l.stackTraces = false) (hX : va_X b L xs s s.heap) (hbl : b < s.heap.size) (hi : i + 4 ≤ L) (hL : L ≤ 2048) (hcl : cells + 60 ≤ 601024) (hsl : slots + 1000 ≤ 7293034) (hR : rl_PT nb sg sg) (hW : kx_Wd G s.heap.size ad nb sg H) (hS : va_S (kx_Ad s.heap.size) s.heap H locs) (hl : lv_has ls 7 [(4, .int (nI i)), (3, .ref (ad 32 0)), (2, .ref (ad 14 0)), (1, .ref (ad 0 0)), (0, .ref b)]) (kk : ∀ (sg1 : kx_S) (H1 : Heap) (locs1 : List Loc) (ls1 : Array Slot), rl_PT nb sg1 sg1 → kx_Wd G s.heap.size ad nb sg1 H1 → va_S (kx_Ad s.heap.size) s.heap H1 locs1 → lv_has ls1 7 [(4, .int (nI i)), (3, .ref (ad 32 0)), (2, .ref (ad 14 0)), (1, .ref (ad 0 0)), (0, .ref b)] → W p l e room_1 s m #[Value.ref b] below meth c H1 locs1 (cells + 60) (slots + 1000) Q (F0 m 1604 ls1 [])) : W p l e room_1 s m #[Value.ref b] below meth c H locs cells slots Q (F0 m 997 ls []) := by
  have hx := F.1; have hb := F.2.1
  have hC := rl_CI hR.1 hR.2.1.1
  have hR0 := hR
  refine lv_aload_n hx hb dL_law_997 rfl (lv_at hl 3 rfl) ?_
  refine lv_aload_n hx hb dL_law_998 rfl (lv_at hl 4 rfl) ?_
  refine lv_iload hx hb dL_law_999 (lv_at hl 0 rfl) ?_
  refine lv_iconst (v := 1) hx hb dL_law_1001 (by decide) ?_
  refine lv_iadd hx hb dL_law_1002 ?_
  rw [lo_n1 i]
  refine va_sld hx hb hX hbl (Nat.not_le.mpr hbl) hS (vp_in_nI (by omega) (by omega)) dL_law_1003 ?_
  rw [nI_clamp (n := i + 1) (by omega)]
  refine lv_aload_n hx hb dL_law_1004 rfl (lv_at hl 1 rfl) ?_
  refine kx_xSH (na := 3) F (c_L_story l hlf G s.heap.size ad nb sg hC (xs (i + 1))) gL_law_L_story rfl (by decide +kernel) ⟨Nat.le_of_ble_eq_true rfl, Nat.le_of_ble_eq_true rfl⟩ hW hS (As := [.ref (ad 0 0), .int (xs (i + 1)), .ref (ad 32 0)]) (rest := []) rfl hl.1 rfl (Nat.le_of_ble_eq_true rfl) dL_law_1005 ⟨by show _ ≤ 601024; omega, by show _ ≤ 7293034; omega⟩ (fun E9 ce9 q9 H locs hp9 hW hS h7 h8 h9 => hp9.elim) (fun r9 sg9 H locs hq hW hS => ?_)
  obtain ⟨hR9, k9, hk9⟩ := lq_story (x := (xs (i + 1))) hR hq
  subst hk9
  refine W.eq (g2 := F0 m 1008 ls [.int k9]) rfl ?_
  refine lv_istore (lv' := [(5, .int k9), (4, .int (nI i)), (3, .ref (ad 32 0)), (2, .ref (ad 14 0)), (1, .ref (ad 0 0)), (0, .ref b)]) hx hb dL_law_1008 hl (by decide) rfl (fun ls hl => ?_)
  refine lv_aload_n hx hb dL_law_1010 rfl (lv_at hl 3 rfl) ?_
  refine lv_aload_n hx hb dL_law_1011 rfl (lv_at hl 5 rfl) ?_
  refine lv_iload hx hb dL_law_1012 (lv_at hl 1 rfl) ?_
  refine lv_iconst (v := 1) hx hb dL_law_1014 (by decide) ?_
  refine lv_iadd hx hb dL_law_1015 ?_
  rw [lo_n1 i]
  refine va_sld hx hb hX hbl (Nat.not_le.mpr hbl) hS (vp_in_nI (by omega) (by omega)) dL_law_1016 ?_
  rw [nI_clamp (n := i + 1) (by omega)]
  refine kx_cV (na := 1) F (q := 14) (n := 0) (c_X4_story l G s.heap.size ad nb sg9 nb (rl_tmWF hR9.1) (xs (i + 1))) gL_law_X4_story rfl (by decide +kernel) ⟨Nat.le_of_ble_eq_true rfl, Nat.le_of_ble_eq_true rfl⟩ hW hS ⟨by decide, rfl⟩ rfl rfl (As := [.int (xs (i + 1))]) (rest := []) rfl hl.1 rfl (Nat.le_of_ble_eq_true rfl) dL_law_1017 ⟨by show _ ≤ 601024; omega, by show _ ≤ 7293034; omega⟩ (fun r10 sg10 H locs hm hW hS => ?_)
  obtain ⟨k1, b1, e1, e2, e3, e4, hR⟩ := lp_story (x := (xs (i + 1))) hR0 hq hm
  subst e2
  have ek : k9 = k1 := Value.int.inj (Option.some.inj e1)
  rw [← ek] at e3 e4
  refine W.eq (g2 := F0 m 1020 ls [.int b1]) rfl ?_
  refine lv_istore (lv' := [(6, .int b1), (5, .int k9), (4, .int (nI i)), (3, .ref (ad 32 0)), (2, .ref (ad 14 0)), (1, .ref (ad 0 0)), (0, .ref b)]) hx hb dL_law_1020 hl (by decide) rfl (fun ls hl => ?_)
  refine lv_aload_n hx hb dL_law_1022 rfl (lv_at hl 4 rfl) ?_
  refine kx_cV (na := 0) F (q := 14) (n := 0) (c_X4_thrown l G s.heap.size ad nb sg10) gL_law_X4_thrown rfl (by decide +kernel) ⟨Nat.le_of_ble_eq_true rfl, Nat.le_of_ble_eq_true rfl⟩ hW hS ⟨by decide, rfl⟩ rfl rfl (As := []) (rest := []) rfl hl.1 rfl (Nat.le_of_ble_eq_true rfl) dL_law_1023 ⟨by show _ ≤ 601024; omega, by show _ ≤ 7293034; omega⟩ (fun r11 sg11 H locs hq11 hW hS => ?_)
  obtain ⟨rfl, e11⟩ := hq11
  rw [e11] at hW
  refine W.eq (g2 := F0 m 1026 ls [.int (sg10 14 0 22)]) rfl ?_
  rw [e3]
  refine lv_iload hx hb dL_law_1026 (lv_at hl 1 rfl) ?_
  refine lv_icmp_eq (tgt := 1033) hx hb dL_law_1028 (by decide) (fun c1 => ?_) (fun c1 => absurd rfl c1)
  refine lv_iload hx hb dL_law_1033 (lv_at hl 1 rfl) ?_
  refine lv_if_ne (tgt := 1050) hx hb dL_law_1035 (by decide) (fun c2 => ?_) (fun c2 => ?_)
  · refine lv_goto (tgt := 1604) hx hb dL_law_1050 (by decide) ?_
    exact W.widen (by omega) (by omega) (kk sg10 H locs ls hR hW hS (lv_sub hl [2, 3, 4, 5, 6] rfl))
  · have e5 := e4 c2
    refine lv_aload_n hx hb dL_law_1038 rfl (lv_at hl 3 rfl) ?_
    refine lv_iconst (v := 0) hx hb dL_law_1039 (by decide) ?_
    refine kx_lald F hW dL_law_1040 ?_
    refine lv_iload hx hb dL_law_1041 (lv_at hl 0 rfl) ?_
    refine lv_i2l (v := b1.toInt64) hx hb dL_law_1043 rfl ?_
    refine W.lcmp hx hb dL_law_1044 ?_
    refine lv_if_eq (tgt := 1050) hx hb dL_law_1045 (by decide) (fun c3 => ?_) (fun c3 => absurd (by rw [e5]; exact (lg_cmp_eq _ _).mpr rfl) c3)
    refine lv_goto (tgt := 1604) hx hb dL_law_1050 (by decide) ?_
    exact W.widen (by omega) (by omega) (kk sg10 H locs ls hR hW hS (lv_sub hl [2, 3, 4, 5, 6] rfl))

set_option maxHeartbeats 4000000 in
set_option maxRecDepth 100000 in
theorem lo_storyOfAll (F : kx_F p s m c cL_law 7 RL #[Value.ref b] wsL_law G s.heap.size) (hlf : l.stackTraces = false) (hX : va_X b L xs s s.heap) (hbl : b < s.heap.size) (hi : i + 4 ≤ L) (hL : L ≤ 2048) (hcl : cells + 60 ≤ 601024) (hsl : slots + 1000 ≤ 7293034) (hR : rl_PT nb sg sg) (hW : kx_Wd G s.heap.size ad nb sg H) (hS : va_S (kx_Ad s.heap.size) s.heap H locs) (hl : lv_has ls 7 [(4, .int (nI i)), (3, .ref (ad 32 0)), (2, .ref (ad 14 0)), (1, .ref (ad 0 0)), (0, .ref b)]) (kk : ∀ (sg1 : kx_S) (H1 : Heap) (locs1 : List Loc) (ls1 : Array Slot), rl_PT nb sg1 sg1 → kx_Wd G s.heap.size ad nb sg1 H1 → va_S (kx_Ad s.heap.size) s.heap H1 locs1 → lv_has ls1 7 [(4, .int (nI i)), (3, .ref (ad 32 0)), (2, .ref (ad 14 0)), (1, .ref (ad 0 0)), (0, .ref b)] → W p l e room_1 s m #[Value.ref b] below meth c H1 locs1 (cells + 60) (slots + 1000) Q (F0 m 1604 ls1 [])) : W p l e room_1 s m #[Value.ref b] below meth c H locs cells slots Q (F0 m 1053 ls []) := by
  have hx := F.1; have hb := F.2.1
  have hC := rl_CI hR.1 hR.2.1.1
  have hR0 := hR
  refine lv_aload_n hx hb dL_law_1053 rfl (lv_at hl 3 rfl) ?_
  refine lv_aload_n hx hb dL_law_1054 rfl (lv_at hl 4 rfl) ?_
  refine lv_iload hx hb dL_law_1055 (lv_at hl 0 rfl) ?_
  refine lv_iconst (v := 1) hx hb dL_law_1057 (by decide) ?_
  refine lv_iadd hx hb dL_law_1058 ?_
  rw [lo_n1 i]
  refine va_sld hx hb hX hbl (Nat.not_le.mpr hbl) hS (vp_in_nI (by omega) (by omega)) dL_law_1059 ?_
  rw [nI_clamp (n := i + 1) (by omega)]
  refine lv_aload_n hx hb dL_law_1060 rfl (lv_at hl 1 rfl) ?_
  refine kx_xSH (na := 3) F (c_L_storyOfAll l hlf G s.heap.size ad nb sg hC (xs (i + 1))) gL_law_L_storyOfAll rfl (by decide +kernel) ⟨Nat.le_of_ble_eq_true rfl, Nat.le_of_ble_eq_true rfl⟩ hW hS (As := [.ref (ad 0 0), .int (xs (i + 1)), .ref (ad 32 0)]) (rest := []) rfl hl.1 rfl (Nat.le_of_ble_eq_true rfl) dL_law_1061 ⟨by show _ ≤ 601024; omega, by show _ ≤ 7293034; omega⟩ (fun E9 ce9 q9 H locs hp9 hW hS h7 h8 h9 => hp9.elim) (fun r9 sg9 H locs hq hW hS => ?_)
  obtain ⟨hR9, k9, hk9⟩ := lq_storyOfAll (x := (xs (i + 1))) hR hq
  subst hk9
  refine W.eq (g2 := F0 m 1064 ls [.int k9]) rfl ?_
  refine lv_istore (lv' := [(5, .int k9), (4, .int (nI i)), (3, .ref (ad 32 0)), (2, .ref (ad 14 0)), (1, .ref (ad 0 0)), (0, .ref b)]) hx hb dL_law_1064 hl (by decide) rfl (fun ls hl => ?_)
  refine lv_aload_n hx hb dL_law_1066 rfl (lv_at hl 3 rfl) ?_
  refine lv_aload_n hx hb dL_law_1067 rfl (lv_at hl 5 rfl) ?_
  refine lv_iload hx hb dL_law_1068 (lv_at hl 1 rfl) ?_
  refine lv_iconst (v := 1) hx hb dL_law_1070 (by decide) ?_
  refine lv_iadd hx hb dL_law_1071 ?_
  rw [lo_n1 i]
  refine va_sld hx hb hX hbl (Nat.not_le.mpr hbl) hS (vp_in_nI (by omega) (by omega)) dL_law_1072 ?_
  rw [nI_clamp (n := i + 1) (by omega)]
  refine kx_cV (na := 1) F (q := 14) (n := 0) (c_X4_storyOfAll l G s.heap.size ad nb sg9 nb (rl_tmWF hR9.1) (xs (i + 1))) gL_law_X4_storyOfAll rfl (by decide +kernel) ⟨Nat.le_of_ble_eq_true rfl, Nat.le_of_ble_eq_true rfl⟩ hW hS ⟨by decide, rfl⟩ rfl rfl (As := [.int (xs (i + 1))]) (rest := []) rfl hl.1 rfl (Nat.le_of_ble_eq_true rfl) dL_law_1073 ⟨by show _ ≤ 601024; omega, by show _ ≤ 7293034; omega⟩ (fun r10 sg10 H locs hm hW hS => ?_)
  obtain ⟨k1, b1, e1, e2, e3, e4, hR⟩ := lp_storyOfAll (x := (xs (i + 1))) hR0 hq hm
  subst e2
  have ek : k9 = k1 := Value.int.inj (Option.some.inj e1)
  rw [← ek] at e3 e4
  refine W.eq (g2 := F0 m 1076 ls [.int b1]) rfl ?_
  refine lv_istore (lv' := [(6, .int b1), (5, .int k9), (4, .int (nI i)), (3, .ref (ad 32 0)), (2, .ref (ad 14 0)), (1, .ref (ad 0 0)), (0, .ref b)]) hx hb dL_law_1076 hl (by decide) rfl (fun ls hl => ?_)
  refine lv_aload_n hx hb dL_law_1078 rfl (lv_at hl 4 rfl) ?_
  refine kx_cV (na := 0) F (q := 14) (n := 0) (c_X4_thrown l G s.heap.size ad nb sg10) gL_law_X4_thrown rfl (by decide +kernel) ⟨Nat.le_of_ble_eq_true rfl, Nat.le_of_ble_eq_true rfl⟩ hW hS ⟨by decide, rfl⟩ rfl rfl (As := []) (rest := []) rfl hl.1 rfl (Nat.le_of_ble_eq_true rfl) dL_law_1079 ⟨by show _ ≤ 601024; omega, by show _ ≤ 7293034; omega⟩ (fun r11 sg11 H locs hq11 hW hS => ?_)
  obtain ⟨rfl, e11⟩ := hq11
  rw [e11] at hW
  refine W.eq (g2 := F0 m 1082 ls [.int (sg10 14 0 22)]) rfl ?_
  rw [e3]
  refine lv_iload hx hb dL_law_1082 (lv_at hl 1 rfl) ?_
  refine lv_icmp_eq (tgt := 1089) hx hb dL_law_1084 (by decide) (fun c1 => ?_) (fun c1 => absurd rfl c1)
  refine lv_iload hx hb dL_law_1089 (lv_at hl 1 rfl) ?_
  refine lv_if_ne (tgt := 1106) hx hb dL_law_1091 (by decide) (fun c2 => ?_) (fun c2 => ?_)
  · refine lv_goto (tgt := 1604) hx hb dL_law_1106 (by decide) ?_
    exact W.widen (by omega) (by omega) (kk sg10 H locs ls hR hW hS (lv_sub hl [2, 3, 4, 5, 6] rfl))
  · have e5 := e4 c2
    refine lv_aload_n hx hb dL_law_1094 rfl (lv_at hl 3 rfl) ?_
    refine lv_iconst (v := 0) hx hb dL_law_1095 (by decide) ?_
    refine kx_lald F hW dL_law_1096 ?_
    refine lv_iload hx hb dL_law_1097 (lv_at hl 0 rfl) ?_
    refine lv_i2l (v := b1.toInt64) hx hb dL_law_1099 rfl ?_
    refine W.lcmp hx hb dL_law_1100 ?_
    refine lv_if_eq (tgt := 1106) hx hb dL_law_1101 (by decide) (fun c3 => ?_) (fun c3 => absurd (by rw [e5]; exact (lg_cmp_eq _ _).mpr rfl) c3)
    refine lv_goto (tgt := 1604) hx hb dL_law_1106 (by decide) ?_
    exact W.widen (by omega) (by omega) (kk sg10 H locs ls hR hW hS (lv_sub hl [2, 3, 4, 5, 6] rfl))

set_option maxHeartbeats 4000000 in
set_option maxRecDepth 100000 in
theorem lo_placeOf (F : kx_F p s m c cL_law 7 RL #[Value.ref b] wsL_law G s.heap.size) (hlf : l.stackTraces = false) (hX : va_X b L xs s s.heap) (hbl : b < s.heap.size) (hi : i + 4 ≤ L) (hL : L ≤ 2048) (hcl : cells + 60 ≤ 601024) (hsl : slots + 1000 ≤ 7293034) (hR : rl_PT nb sg sg) (hW : kx_Wd G s.heap.size ad nb sg H) (hS : va_S (kx_Ad s.heap.size) s.heap H locs) (hl : lv_has ls 7 [(4, .int (nI i)), (3, .ref (ad 32 0)), (2, .ref (ad 14 0)), (1, .ref (ad 0 0)), (0, .ref b)]) (kk : ∀ (sg1 : kx_S) (H1 : Heap) (locs1 : List Loc) (ls1 : Array Slot), rl_PT nb sg1 sg1 → kx_Wd G s.heap.size ad nb sg1 H1 → va_S (kx_Ad s.heap.size) s.heap H1 locs1 → lv_has ls1 7 [(4, .int (nI i)), (3, .ref (ad 32 0)), (2, .ref (ad 14 0)), (1, .ref (ad 0 0)), (0, .ref b)] → W p l e room_1 s m #[Value.ref b] below meth c H1 locs1 (cells + 60) (slots + 1000) Q (F0 m 1604 ls1 [])) : W p l e room_1 s m #[Value.ref b] below meth c H locs cells slots Q (F0 m 1109 ls []) := by
  have hx := F.1; have hb := F.2.1
  have hC := rl_CI hR.1 hR.2.1.1
  have hR0 := hR
  refine lv_aload_n hx hb dL_law_1109 rfl (lv_at hl 3 rfl) ?_
  refine lv_aload_n hx hb dL_law_1110 rfl (lv_at hl 4 rfl) ?_
  refine lv_iload hx hb dL_law_1111 (lv_at hl 0 rfl) ?_
  refine lv_iconst (v := 1) hx hb dL_law_1113 (by decide) ?_
  refine lv_iadd hx hb dL_law_1114 ?_
  rw [lo_n1 i]
  refine va_sld hx hb hX hbl (Nat.not_le.mpr hbl) hS (vp_in_nI (by omega) (by omega)) dL_law_1115 ?_
  rw [nI_clamp (n := i + 1) (by omega)]
  refine lv_aload_n hx hb dL_law_1116 rfl (lv_at hl 1 rfl) ?_
  refine kx_xSH (na := 3) F (c_L_placeOf l hlf G s.heap.size ad nb sg hC (xs (i + 1))) gL_law_L_placeOf rfl (by decide +kernel) ⟨Nat.le_of_ble_eq_true rfl, Nat.le_of_ble_eq_true rfl⟩ hW hS (As := [.ref (ad 0 0), .int (xs (i + 1)), .ref (ad 32 0)]) (rest := []) rfl hl.1 rfl (Nat.le_of_ble_eq_true rfl) dL_law_1117 ⟨by show _ ≤ 601024; omega, by show _ ≤ 7293034; omega⟩ (fun E9 ce9 q9 H locs hp9 hW hS h7 h8 h9 => hp9.elim) (fun r9 sg9 H locs hq hW hS => ?_)
  obtain ⟨hR9, k9, hk9⟩ := lq_placeOf (x := (xs (i + 1))) hR hq
  subst hk9
  refine W.eq (g2 := F0 m 1120 ls [.int k9]) rfl ?_
  refine lv_istore (lv' := [(5, .int k9), (4, .int (nI i)), (3, .ref (ad 32 0)), (2, .ref (ad 14 0)), (1, .ref (ad 0 0)), (0, .ref b)]) hx hb dL_law_1120 hl (by decide) rfl (fun ls hl => ?_)
  refine lv_aload_n hx hb dL_law_1122 rfl (lv_at hl 3 rfl) ?_
  refine lv_aload_n hx hb dL_law_1123 rfl (lv_at hl 5 rfl) ?_
  refine lv_iload hx hb dL_law_1124 (lv_at hl 1 rfl) ?_
  refine lv_iconst (v := 1) hx hb dL_law_1126 (by decide) ?_
  refine lv_iadd hx hb dL_law_1127 ?_
  rw [lo_n1 i]
  refine va_sld hx hb hX hbl (Nat.not_le.mpr hbl) hS (vp_in_nI (by omega) (by omega)) dL_law_1128 ?_
  rw [nI_clamp (n := i + 1) (by omega)]
  refine kx_cV (na := 1) F (q := 14) (n := 0) (c_X4_placeOf l G s.heap.size ad nb sg9 nb (rl_tmWF hR9.1) (xs (i + 1))) gL_law_X4_placeOf rfl (by decide +kernel) ⟨Nat.le_of_ble_eq_true rfl, Nat.le_of_ble_eq_true rfl⟩ hW hS ⟨by decide, rfl⟩ rfl rfl (As := [.int (xs (i + 1))]) (rest := []) rfl hl.1 rfl (Nat.le_of_ble_eq_true rfl) dL_law_1129 ⟨by show _ ≤ 601024; omega, by show _ ≤ 7293034; omega⟩ (fun r10 sg10 H locs hm hW hS => ?_)
  obtain ⟨k1, b1, e1, e2, e3, e4, hR⟩ := lp_placeOf (x := (xs (i + 1))) hR0 hq hm
  subst e2
  have ek : k9 = k1 := Value.int.inj (Option.some.inj e1)
  rw [← ek] at e3 e4
  refine W.eq (g2 := F0 m 1132 ls [.int b1]) rfl ?_
  refine lv_istore (lv' := [(6, .int b1), (5, .int k9), (4, .int (nI i)), (3, .ref (ad 32 0)), (2, .ref (ad 14 0)), (1, .ref (ad 0 0)), (0, .ref b)]) hx hb dL_law_1132 hl (by decide) rfl (fun ls hl => ?_)
  refine lv_aload_n hx hb dL_law_1134 rfl (lv_at hl 4 rfl) ?_
  refine kx_cV (na := 0) F (q := 14) (n := 0) (c_X4_thrown l G s.heap.size ad nb sg10) gL_law_X4_thrown rfl (by decide +kernel) ⟨Nat.le_of_ble_eq_true rfl, Nat.le_of_ble_eq_true rfl⟩ hW hS ⟨by decide, rfl⟩ rfl rfl (As := []) (rest := []) rfl hl.1 rfl (Nat.le_of_ble_eq_true rfl) dL_law_1135 ⟨by show _ ≤ 601024; omega, by show _ ≤ 7293034; omega⟩ (fun r11 sg11 H locs hq11 hW hS => ?_)
  obtain ⟨rfl, e11⟩ := hq11
  rw [e11] at hW
  refine W.eq (g2 := F0 m 1138 ls [.int (sg10 14 0 22)]) rfl ?_
  rw [e3]
  refine lv_iload hx hb dL_law_1138 (lv_at hl 1 rfl) ?_
  refine lv_icmp_eq (tgt := 1145) hx hb dL_law_1140 (by decide) (fun c1 => ?_) (fun c1 => absurd rfl c1)
  refine lv_iload hx hb dL_law_1145 (lv_at hl 1 rfl) ?_
  refine lv_if_ne (tgt := 1162) hx hb dL_law_1147 (by decide) (fun c2 => ?_) (fun c2 => ?_)
  · refine lv_goto (tgt := 1604) hx hb dL_law_1162 (by decide) ?_
    exact W.widen (by omega) (by omega) (kk sg10 H locs ls hR hW hS (lv_sub hl [2, 3, 4, 5, 6] rfl))
  · have e5 := e4 c2
    refine lv_aload_n hx hb dL_law_1150 rfl (lv_at hl 3 rfl) ?_
    refine lv_iconst (v := 0) hx hb dL_law_1151 (by decide) ?_
    refine kx_lald F hW dL_law_1152 ?_
    refine lv_iload hx hb dL_law_1153 (lv_at hl 0 rfl) ?_
    refine lv_i2l (v := b1.toInt64) hx hb dL_law_1155 rfl ?_
    refine W.lcmp hx hb dL_law_1156 ?_
    refine lv_if_eq (tgt := 1162) hx hb dL_law_1157 (by decide) (fun c3 => ?_) (fun c3 => absurd (by rw [e5]; exact (lg_cmp_eq _ _).mpr rfl) c3)
    refine lv_goto (tgt := 1604) hx hb dL_law_1162 (by decide) ?_
    exact W.widen (by omega) (by omega) (kk sg10 H locs ls hR hW hS (lv_sub hl [2, 3, 4, 5, 6] rfl))

set_option maxHeartbeats 4000000 in
set_option maxRecDepth 100000 in
theorem lo_lies (F : kx_F p s m c cL_law 7 RL #[Value.ref b] wsL_law G s.heap.size) (hlf : l.stackTraces = false) (hX : va_X b L xs s s.heap) (hbl : b < s.heap.size) (hi : i + 4 ≤ L) (hL : L ≤ 2048) (hcl : cells + 60 ≤ 601024) (hsl : slots + 1000 ≤ 7293034) (hR : rl_PT nb sg sg) (hW : kx_Wd G s.heap.size ad nb sg H) (hS : va_S (kx_Ad s.heap.size) s.heap H locs) (hl : lv_has ls 7 [(4, .int (nI i)), (3, .ref (ad 32 0)), (2, .ref (ad 14 0)), (1, .ref (ad 0 0)), (0, .ref b)]) (kk : ∀ (sg1 : kx_S) (H1 : Heap) (locs1 : List Loc) (ls1 : Array Slot), rl_PT nb sg1 sg1 → kx_Wd G s.heap.size ad nb sg1 H1 → va_S (kx_Ad s.heap.size) s.heap H1 locs1 → lv_has ls1 7 [(4, .int (nI i)), (3, .ref (ad 32 0)), (2, .ref (ad 14 0)), (1, .ref (ad 0 0)), (0, .ref b)] → W p l e room_1 s m #[Value.ref b] below meth c H1 locs1 (cells + 60) (slots + 1000) Q (F0 m 1604 ls1 [])) : W p l e room_1 s m #[Value.ref b] below meth c H locs cells slots Q (F0 m 1165 ls []) := by
  have hx := F.1; have hb := F.2.1
  have hC := rl_CI hR.1 hR.2.1.1
  have hR0 := hR
  refine lv_aload_n hx hb dL_law_1165 rfl (lv_at hl 3 rfl) ?_
  refine lv_aload_n hx hb dL_law_1166 rfl (lv_at hl 4 rfl) ?_
  refine lv_iload hx hb dL_law_1167 (lv_at hl 0 rfl) ?_
  refine lv_iconst (v := 1) hx hb dL_law_1169 (by decide) ?_
  refine lv_iadd hx hb dL_law_1170 ?_
  rw [lo_n1 i]
  refine va_sld hx hb hX hbl (Nat.not_le.mpr hbl) hS (vp_in_nI (by omega) (by omega)) dL_law_1171 ?_
  rw [nI_clamp (n := i + 1) (by omega)]
  refine lv_aload_n hx hb dL_law_1172 rfl (lv_at hl 1 rfl) ?_
  refine kx_xSH (na := 3) F (c_L_lies l hlf G s.heap.size ad nb sg hC (xs (i + 1))) gL_law_L_lies rfl (by decide +kernel) ⟨Nat.le_of_ble_eq_true rfl, Nat.le_of_ble_eq_true rfl⟩ hW hS (As := [.ref (ad 0 0), .int (xs (i + 1)), .ref (ad 32 0)]) (rest := []) rfl hl.1 rfl (Nat.le_of_ble_eq_true rfl) dL_law_1173 ⟨by show _ ≤ 601024; omega, by show _ ≤ 7293034; omega⟩ (fun E9 ce9 q9 H locs hp9 hW hS h7 h8 h9 => hp9.elim) (fun r9 sg9 H locs hq hW hS => ?_)
  obtain ⟨hR9, k9, hk9⟩ := lq_lies (x := (xs (i + 1))) hR hq
  subst hk9
  refine W.eq (g2 := F0 m 1176 ls [.int k9]) rfl ?_
  refine lv_istore (lv' := [(5, .int k9), (4, .int (nI i)), (3, .ref (ad 32 0)), (2, .ref (ad 14 0)), (1, .ref (ad 0 0)), (0, .ref b)]) hx hb dL_law_1176 hl (by decide) rfl (fun ls hl => ?_)
  refine lv_aload_n hx hb dL_law_1178 rfl (lv_at hl 3 rfl) ?_
  refine lv_aload_n hx hb dL_law_1179 rfl (lv_at hl 5 rfl) ?_
  refine lv_iload hx hb dL_law_1180 (lv_at hl 1 rfl) ?_
  refine lv_iconst (v := 1) hx hb dL_law_1182 (by decide) ?_
  refine lv_iadd hx hb dL_law_1183 ?_
  rw [lo_n1 i]
  refine va_sld hx hb hX hbl (Nat.not_le.mpr hbl) hS (vp_in_nI (by omega) (by omega)) dL_law_1184 ?_
  rw [nI_clamp (n := i + 1) (by omega)]
  refine kx_cV (na := 1) F (q := 14) (n := 0) (c_X4_lies l G s.heap.size ad nb sg9 nb (rl_tmWF hR9.1) (xs (i + 1))) gL_law_X4_lies rfl (by decide +kernel) ⟨Nat.le_of_ble_eq_true rfl, Nat.le_of_ble_eq_true rfl⟩ hW hS ⟨by decide, rfl⟩ rfl rfl (As := [.int (xs (i + 1))]) (rest := []) rfl hl.1 rfl (Nat.le_of_ble_eq_true rfl) dL_law_1185 ⟨by show _ ≤ 601024; omega, by show _ ≤ 7293034; omega⟩ (fun r10 sg10 H locs hm hW hS => ?_)
  obtain ⟨k1, b1, e1, e2, e3, e4, hR⟩ := lp_lies (x := (xs (i + 1))) hR0 hq hm
  subst e2
  have ek : k9 = k1 := Value.int.inj (Option.some.inj e1)
  rw [← ek] at e3 e4
  refine W.eq (g2 := F0 m 1188 ls [.int b1]) rfl ?_
  refine lv_istore (lv' := [(6, .int b1), (5, .int k9), (4, .int (nI i)), (3, .ref (ad 32 0)), (2, .ref (ad 14 0)), (1, .ref (ad 0 0)), (0, .ref b)]) hx hb dL_law_1188 hl (by decide) rfl (fun ls hl => ?_)
  refine lv_aload_n hx hb dL_law_1190 rfl (lv_at hl 4 rfl) ?_
  refine kx_cV (na := 0) F (q := 14) (n := 0) (c_X4_thrown l G s.heap.size ad nb sg10) gL_law_X4_thrown rfl (by decide +kernel) ⟨Nat.le_of_ble_eq_true rfl, Nat.le_of_ble_eq_true rfl⟩ hW hS ⟨by decide, rfl⟩ rfl rfl (As := []) (rest := []) rfl hl.1 rfl (Nat.le_of_ble_eq_true rfl) dL_law_1191 ⟨by show _ ≤ 601024; omega, by show _ ≤ 7293034; omega⟩ (fun r11 sg11 H locs hq11 hW hS => ?_)
  obtain ⟨rfl, e11⟩ := hq11
  rw [e11] at hW
  refine W.eq (g2 := F0 m 1194 ls [.int (sg10 14 0 22)]) rfl ?_
  rw [e3]
  refine lv_iload hx hb dL_law_1194 (lv_at hl 1 rfl) ?_
  refine lv_icmp_eq (tgt := 1201) hx hb dL_law_1196 (by decide) (fun c1 => ?_) (fun c1 => absurd rfl c1)
  refine lv_iload hx hb dL_law_1201 (lv_at hl 1 rfl) ?_
  refine lv_if_ne (tgt := 1218) hx hb dL_law_1203 (by decide) (fun c2 => ?_) (fun c2 => ?_)
  · refine lv_goto (tgt := 1604) hx hb dL_law_1218 (by decide) ?_
    exact W.widen (by omega) (by omega) (kk sg10 H locs ls hR hW hS (lv_sub hl [2, 3, 4, 5, 6] rfl))
  · have e5 := e4 c2
    refine lv_aload_n hx hb dL_law_1206 rfl (lv_at hl 3 rfl) ?_
    refine lv_iconst (v := 0) hx hb dL_law_1207 (by decide) ?_
    refine kx_lald F hW dL_law_1208 ?_
    refine lv_iload hx hb dL_law_1209 (lv_at hl 0 rfl) ?_
    refine lv_i2l (v := b1.toInt64) hx hb dL_law_1211 rfl ?_
    refine W.lcmp hx hb dL_law_1212 ?_
    refine lv_if_eq (tgt := 1218) hx hb dL_law_1213 (by decide) (fun c3 => ?_) (fun c3 => absurd (by rw [e5]; exact (lg_cmp_eq _ _).mpr rfl) c3)
    refine lv_goto (tgt := 1604) hx hb dL_law_1218 (by decide) ?_
    exact W.widen (by omega) (by omega) (kk sg10 H locs ls hR hW hS (lv_sub hl [2, 3, 4, 5, 6] rfl))
end LOP
