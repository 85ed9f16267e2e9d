theorem lt_box {nb : Nat} {t t2 : kx_S} {x y : Int32} {r : Option Value} (h : mq_box nb t x y r t2) : lo_T t t2 := by
  unfold mq_box at h
  rcases h with ⟨-, -, h⟩ | ⟨-, -, -, h⟩ | ⟨-, -, -, h⟩
  · exact tm_Q_T h
  · exact tm_Q_T h
  · rw [h]; exact lo_T_up (lo_T_up (lo_T_up (lo_T_up lo_T_r (by decide)) (by decide)) (by decide)) (by decide)
theorem lm_box {nb : Nat} {t t2 : kx_S} {x y : Int32} {r : Option Value} (h : mq_box nb t x y r t2) : ∃ b : Int32, r = some (.int b) := by
  unfold mq_box at h
  rcases h with ⟨-, h, -⟩ | ⟨-, -, h, -⟩ | ⟨-, -, h, -⟩ <;> exact ⟨_, h⟩
theorem lc_box {nb : Nat} {s s1 : kx_S} {x y a : Int32} (h : cn_box nb s x y a s1) : lo_C s s1 := fun q m hq => h.2.2.2.2.2.2.2.2.2.2.2 q m (fun z => by omega) (fun z => by omega)
def lo_BP (nb : Nat) (ad : kx_A) (sg : kx_S) (x y : Int32) : Option Value → kx_A → Nat → kx_S → Prop := fun r ad' nb' sg' => (∃ (a : Int32) (sgc : kx_S), r = some (.int 0) ∧ nb' = nb + 1 ∧ (∀ k n, kx_live nb k n → ad' k n = ad k n) ∧ cn_box nb sg x y a sgc ∧ sg' = kx_up sgc 32 0 (upd (sgc 32 0) 0 a)) ∨ (∃ (k : Int32) (E : String), r = some (.int k) ∧ nb' = nb ∧ ad' = ad ∧ sg' = sg ∧ cx_box nb x y E ∧ ((E = kx_iae ∧ k = 1) ∨ (E = kx_ise ∧ k = 2)))
theorem lq_box {nb nb9 : Nat} {ad ad9 : kx_A} {s s9 : kx_S} {x y : Int32} {r9 : Option Value} (hs : rl_PT nb s s) (hq : lo_BP nb ad s x y r9 ad9 nb9 s9) : rl_PT nb s s9 ∧ (∃ k : Int32, r9 = some (.int k)) ∧ ∀ k n, kx_live nb k n → ad9 k n = ad k n := by
  rcases hq with ⟨a, sgc, h1, -, h3, h4, h5⟩ | ⟨k, E, h1, -, h3, h4, -⟩
  · exact ⟨by rw [h5]; exact rl_same ts_same_r (lo_same (lc_box h4)) hs, ⟨_, h1⟩, h3⟩
  · exact ⟨by rw [h4]; exact hs, ⟨_, h1⟩, fun k n _ => by rw [h3]⟩
theorem lp_box {nb nb9 : Nat} {ad ad9 : kx_A} {s s9 t2 : kx_S} {x y : Int32} {r9 r10 : Option Value} (hs : rl_PT nb s s) (hq : lo_BP nb ad s x y r9 ad9 nb9 s9) (hm : mq_box nb s9 x y r10 t2) : ∃ k b : Int32, r9 = some (.int k) ∧ r10 = some (.int b) ∧ t2 14 0 22 = k ∧ (k = 0 → t2 32 0 0 = b) ∧ rl_PT nb9 t2 t2 := by
  obtain ⟨b, hb⟩ := lm_box hm
  subst hb
  have h9 := (lq_box hs hq).1
  have hT := lt_box hm
  rcases hq with ⟨a, sgc, h1, h2, -, h4, h5⟩ | ⟨k, E, h1, h2, -, h4, h5, h6⟩
  · obtain ⟨e1, e2, e3⟩ := rn_box h9 h4 hm
    refine ⟨0, b, h1, rfl, e2, fun _ => ?_, ?_⟩
    · rw [hT 32 0 (Or.inr rfl), h5, kx_up_s, upd_s, e1]
    · rw [h2]; exact rl_same (lo_ts (by rw [← h5]; exact hT)) tm_same_r e3
  · have hx := rx_box h9 h5 hm
    have key : ¬ k = 0 ∧ tm_Q s9 t2 k := by
      rcases h6 with ⟨rfl, rfl⟩ | ⟨rfl, rfl⟩
      · rcases hx with ⟨e, hx⟩ | ⟨e, hx⟩
        · exact ⟨by decide, hx⟩
        · exact absurd e (by decide)
      · rcases hx with ⟨e, hx⟩ | ⟨e, hx⟩
        · exact absurd e (by decide)
        · exact ⟨by decide, hx⟩
    refine ⟨k, b, h1, rfl, key.2.2.2, fun z => absurd z key.1, ?_⟩
    rw [h2]
    exact rl_same (lo_tsr hT) (tm_Q_same key.2) (h4 ▸ h9)
section LOP
variable {p : Program} {l : Launch} {e : Env} {s : State} {m : MethodId} {below : List Frame} {meth : Method} {c : Code} {b L : Nat} {xs : Nat → Int32} {Q : State → Prop} {G : kx_G} {nb : Nat} {ad : kx_A} {sg : kx_S} {H : Heap} {locs : List Loc} {ls : Array Slot} {cells slots i : Nat}
set_option maxHeartbeats 4000000 in
set_option maxRecDepth 100000 in
theorem lo_box (F : kx_F p s m c cL_law 7 RL #[Value.ref b] wsL_law G s.heap.size) (hlf : l.stackTraces = false) (hX : va_X b L xs s s.heap) (hbl : b < s.heap.size) (hi : i + 4 ≤ L) (hL : L ≤ 2048) (hcl : cells + 60 ≤ 601024) (hsl : slots + 1000 ≤ 7293034) (hR : rl_PT nb sg sg) (hW : kx_Wd G s.heap.size ad nb sg H) (hS : va_S (kx_Ad s.heap.size) s.heap H locs) (hl : lv_has ls 7 [(4, .int (nI i)), (3, .ref (ad 32 0)), (2, .ref (ad 14 0)), (1, .ref (ad 0 0)), (0, .ref b)]) (kk : ∀ (nb1 : Nat) (ad1 : kx_A) (sg1 : kx_S) (H1 : Heap) (locs1 : List Loc) (ls1 : Array Slot), rl_PT nb1 sg1 sg1 → kx_Wd G s.heap.size ad1 nb1 sg1 H1 → va_S (kx_Ad s.heap.size) s.heap H1 locs1 → lv_has ls1 7 [(4, .int (nI i)), (3, .ref (ad1 32 0)), (2, .ref (ad1 14 0)), (1, .ref (ad1 0 0)), (0, .ref b)] → W p l e room_1 s m #[Value.ref b] below meth c H1 locs1 (cells + 60) (slots + 1000) Q (F0 m 1604 ls1 [])) : W p l e room_1 s m #[Value.ref b] below meth c H locs cells slots Q (F0 m 156 ls []) := by
  have hx := F.1; have hb := F.2.1
  have hC := rl_CI hR.1 hR.2.1.1
  have hR0 := hR
  refine lv_aload_n hx hb dL_law_156 rfl (lv_at hl 3 rfl) ?_
  refine lv_aload_n hx hb dL_law_157 rfl (lv_at hl 4 rfl) ?_
  refine lv_iload hx hb dL_law_158 (lv_at hl 0 rfl) ?_
  refine lv_iconst (v := 1) hx hb dL_law_160 (by decide) ?_
  refine lv_iadd hx hb dL_law_161 ?_
  rw [lo_n1 i]
  refine va_sld hx hb hX hbl (Nat.not_le.mpr hbl) hS (vp_in_nI (by omega) (by omega)) dL_law_162 ?_
  rw [nI_clamp (n := i + 1) (by omega)]
  refine lv_aload_n hx hb dL_law_163 rfl (lv_at hl 4 rfl) ?_
  refine lv_iload hx hb dL_law_164 (lv_at hl 0 rfl) ?_
  refine lv_iconst (v := 2) hx hb dL_law_166 (by decide) ?_
  refine lv_iadd hx hb dL_law_167 ?_
  rw [lo_n2 i]
  refine va_sld hx hb hX hbl (Nat.not_le.mpr hbl) hS (vp_in_nI (by omega) (by omega)) dL_law_168 ?_
  rw [nI_clamp (n := i + 2) (by omega)]
  refine lv_aload_n hx hb dL_law_169 rfl (lv_at hl 1 rfl) ?_
  refine kx_xSHg (na := 4) F (c_L_box l hlf G s.heap.size ad nb sg hC (xs (i + 1)) (xs (i + 2))) gL_law_L_box rfl (by decide +kernel) ⟨Nat.le_of_ble_eq_true rfl, Nat.le_of_ble_eq_true rfl⟩ hW hS (As := [.ref (ad 0 0), .int (xs (i + 1)), .int (xs (i + 2)), .ref (ad 32 0)]) (rest := []) rfl hl.1 rfl (Nat.le_of_ble_eq_true rfl) dL_law_170 ⟨by show _ ≤ 601024; omega, by show _ ≤ 7293034; omega⟩ (fun E9 ce9 q9 H locs hp9 hW hS h7 h8 h9 => hp9.elim) (fun r9 ad9 nb9 sg9 H locs hq hW hS => ?_)
  have hq : lo_BP nb ad sg (xs (i + 1)) (xs (i + 2)) r9 ad9 nb9 sg9 := hq
  obtain ⟨hR9, ⟨k9, hk9⟩, had⟩ := lq_box hR hq
  subst hk9
  have ha0 : ad9 0 0 = ad 0 0 := had 0 0 ⟨by decide, rfl⟩
  have ha14 : ad9 14 0 = ad 14 0 := had 14 0 ⟨by decide, rfl⟩
  have ha32 : ad9 32 0 = ad 32 0 := had 32 0 ⟨by decide, rfl⟩
  rw [← ha0, ← ha14, ← ha32] at hl
  refine W.eq (g2 := F0 m 173 ls [.int k9]) rfl ?_
  refine lv_istore (lv' := [(5, .int k9), (4, .int (nI i)), (3, .ref (ad9 32 0)), (2, .ref (ad9 14 0)), (1, .ref (ad9 0 0)), (0, .ref b)]) hx hb dL_law_173 hl (by decide) rfl (fun ls hl => ?_)
  refine lv_aload_n hx hb dL_law_175 rfl (lv_at hl 3 rfl) ?_
  refine lv_aload_n hx hb dL_law_176 rfl (lv_at hl 5 rfl) ?_
  refine lv_iload hx hb dL_law_177 (lv_at hl 1 rfl) ?_
  refine lv_iconst (v := 1) hx hb dL_law_179 (by decide) ?_
  refine lv_iadd hx hb dL_law_180 ?_
  rw [lo_n1 i]
  refine va_sld hx hb hX hbl (Nat.not_le.mpr hbl) hS (vp_in_nI (by omega) (by omega)) dL_law_181 ?_
  rw [nI_clamp (n := i + 1) (by omega)]
  refine lv_aload_n hx hb dL_law_182 rfl (lv_at hl 5 rfl) ?_
  refine lv_iload hx hb dL_law_183 (lv_at hl 1 rfl) ?_
  refine lv_iconst (v := 2) hx hb dL_law_185 (by decide) ?_
  refine lv_iadd hx hb dL_law_186 ?_
  rw [lo_n2 i]
  refine va_sld hx hb hX hbl (Nat.not_le.mpr hbl) hS (vp_in_nI (by omega) (by omega)) dL_law_187 ?_
  rw [nI_clamp (n := i + 2) (by omega)]
  refine kx_cV (na := 2) F (q := 14) (n := 0) (c_X4_box l G s.heap.size ad9 nb9 sg9 nb (rl_tmWF hR9.1) (xs (i + 1)) (xs (i + 2))) gL_law_X4_box rfl (by decide +kernel) ⟨Nat.le_of_ble_eq_true rfl, Nat.le_of_ble_eq_true rfl⟩ hW hS ⟨by decide, rfl⟩ rfl rfl (As := [.int (xs (i + 1)), .int (xs (i + 2))]) (rest := []) rfl hl.1 rfl (Nat.le_of_ble_eq_true rfl) dL_law_188 ⟨by show _ ≤ 601024; omega, by show _ ≤ 7293034; omega⟩ (fun r10 sg10 H locs hm hW hS => ?_)
  obtain ⟨k1, b1, e1, e2, e3, e4, hR⟩ := lp_box (x := xs (i + 1)) (y := xs (i + 2)) hR0 hq hm
  subst e2
  have ek : k9 = k1 := Value.int.inj (Option.some.inj e1)
  rw [← ek] at e3 e4
  refine W.eq (g2 := F0 m 191 ls [.int b1]) rfl ?_
  refine lv_istore (lv' := [(6, .int b1), (5, .int k9), (4, .int (nI i)), (3, .ref (ad9 32 0)), (2, .ref (ad9 14 0)), (1, .ref (ad9 0 0)), (0, .ref b)]) hx hb dL_law_191 hl (by decide) rfl (fun ls hl => ?_)
  refine lv_aload_n hx hb dL_law_193 rfl (lv_at hl 4 rfl) ?_
  refine kx_cV (na := 0) F (q := 14) (n := 0) (c_X4_thrown l G s.heap.size ad9 nb9 sg10) gL_law_X4_thrown rfl (by decide +kernel) ⟨Nat.le_of_ble_eq_true rfl, Nat.le_of_ble_eq_true rfl⟩ hW hS ⟨by decide, rfl⟩ rfl rfl (As := []) (rest := []) rfl hl.1 rfl (Nat.le_of_ble_eq_true rfl) dL_law_194 ⟨by show _ ≤ 601024; omega, by show _ ≤ 7293034; omega⟩ (fun r11 sg11 H locs hq11 hW hS => ?_)
  obtain ⟨rfl, e11⟩ := hq11
  rw [e11] at hW
  refine W.eq (g2 := F0 m 197 ls [.int (sg10 14 0 22)]) rfl ?_
  rw [e3]
  refine lv_iload hx hb dL_law_197 (lv_at hl 1 rfl) ?_
  refine lv_icmp_eq (tgt := 204) hx hb dL_law_199 (by decide) (fun c1 => ?_) (fun c1 => absurd rfl c1)
  refine lv_iload hx hb dL_law_204 (lv_at hl 1 rfl) ?_
  refine lv_if_ne (tgt := 221) hx hb dL_law_206 (by decide) (fun c2 => ?_) (fun c2 => ?_)
  · refine lv_goto (tgt := 1604) hx hb dL_law_221 (by decide) ?_
    exact W.widen (by omega) (by omega) (kk nb9 ad9 sg10 H locs ls hR hW hS (lv_sub hl [2, 3, 4, 5, 6] rfl))
  · have e5 := e4 c2
    refine lv_aload_n hx hb dL_law_209 rfl (lv_at hl 3 rfl) ?_
    refine lv_iconst (v := 0) hx hb dL_law_210 (by decide) ?_
    refine kx_lald F hW dL_law_211 ?_
    refine lv_iload hx hb dL_law_212 (lv_at hl 0 rfl) ?_
    refine lv_i2l (v := b1.toInt64) hx hb dL_law_214 rfl ?_
    refine W.lcmp hx hb dL_law_215 ?_
    refine lv_if_eq (tgt := 221) hx hb dL_law_216 (by decide) (fun c3 => ?_) (fun c3 => absurd (by rw [e5]; exact (lg_cmp_eq _ _).mpr rfl) c3)
    refine lv_goto (tgt := 1604) hx hb dL_law_221 (by decide) ?_
    exact W.widen (by omega) (by omega) (kk nb9 ad9 sg10 H locs ls hR hW hS (lv_sub hl [2, 3, 4, 5, 6] rfl))
end LOP
