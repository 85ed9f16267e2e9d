/-- the story of box i by the reference's rows -/
def tm_w (sg : kx_S) (i : Nat) : Nat → Int := fun k => (tw_trust (sg 24 0) (sg 29 0) (tw_mk (sg 23 0 (12 * i + k)))).toInt * 4096 + 2 ^ k
def tm_f (sg : kx_S) (i : Nat) : Nat → Nat → Bool := fun j k => decide (tw_mn (sg 21 0 (12 * i + j)) (sg 21 0 (12 * i + k)) ≤ sg 22 0 (12 * i + k) - sg 22 0 (12 * i + j))
def tm_s (sg : kx_S) (i : Nat) : Nat → Bool := fun k => decide (tw_mn 0 (sg 21 0 (12 * i + k)) ≤ sg 22 0 (12 * i + k))
def tm_S (sg : kx_S) (i : Nat) : Nat → Int := dp_S (tm_w sg i) (tm_f sg i) (tm_s sg i)
def tm_st (sg : kx_S) (i n : Nat) : Int32 := nI ((dp_best (tm_S sg i) n).toNat % 4096)
def tm_fr (sg s1 : kx_S) : Prop := ∀ q m, ¬ (q = 30 ∧ m = 0) → ¬ (q = 31 ∧ m = 0) → s1 q m = sg q m
theorem tm_fr_ex {sg s1 : kx_S} (h : tm_fr sg s1) : s1 = kx_up (kx_up sg 30 0 (s1 30 0)) 31 0 (s1 31 0) := by
  funext q m
  by_cases h1 : q = 31 ∧ m = 0
  · obtain ⟨rfl, rfl⟩ := h1; rw [kx_up_s]
  · by_cases h0 : q = 30 ∧ m = 0
    · obtain ⟨rfl, rfl⟩ := h0; rw [kx_up_q (by decide), kx_up_s]
    · rw [h q m h0 h1]
      simp only [kx_up, if_neg h1, if_neg h0]
theorem tm_S_eq (sg : kx_S) (i k : Nat) : tm_S sg i k = if dp_ah (tm_f sg i) (tm_s sg i) (tm_S sg i) k k = -1 then -1 else dp_ah (tm_f sg i) (tm_s sg i) (tm_S sg i) k k + tm_w sg i k := dp_S_eq _ _ _ k

theorem tw_gt {a b : Int32} (h : a < b) : ¬ b ≤ a := by rw [tw_le]; rw [tw_lt] at h; omega
theorem tw_ngt {a b : Int32} (h : ¬ a < b) : b ≤ a := by rw [tw_le]; rw [tw_lt] at h; omega

set_option maxHeartbeats 4000000 in
set_option maxRecDepth 100000 in
theorem c_X4_storyOf (l : Launch) (G : kx_G) (z0 : Nat) (ad : kx_A) (nb : Nat) (sg : kx_S) (i : Nat) (hi : i < 16) (n : Nat) (hn : sg 17 0 i = nI n) (h12 : n ≤ 12) (hwho : ∀ k, k < n → tw_who (sg 23 0 (12 * i + k))) (ht : ∀ w, w < 14 → 1 ≤ (sg 24 0 w).toInt ∧ (sg 24 0 w).toInt ≤ 9) : kx_M l yX4_storyOf wsX4_storyOf 2 43 0 0 G z0 ad nb sg [.ref (ad 14 0), .int (nI i)] (fun r sg' => r = some (.int (tm_st sg i n)) ∧ ∃ f g : Nat → Int32, sg' = kx_up (kx_up sg 30 0 f) 31 0 g) := by
  refine Met.ofW (cc := cX4_storyOf) (maxL := 10) (ret := (some .int)) (by decide) rfl ?_
  intro p e s m args below meth c s₁ B hml hv
  obtain ⟨rfl, hW, hV⟩ := hv
  have hts := atoms_spec (ws := wsX4_storyOf) B.pre
  have F : kx_F p s m c cX4_storyOf 10 RX4 _ wsX4_storyOf G z0 := ⟨B.exec, B.bytes, hml, findClass_of_methodNamed B.named, hts, hV⟩
  have hx := B.exec; have hb := B.bytes; have hr := B.returns; have hlocks := B.notSynchronized
  have hS : va_S (kx_Ad z0) s.heap s.heap [] := va_S.rf
  have L_16 : Cond.fieldLink RX4 16 (TX4 3).1 (TX4 3).2.1 (TX4 3).2.2.1 ∈ wsX4_storyOf := by decide +kernel
  have L_29 : Cond.fieldLink RX4 29 (TX4 8).1 (TX4 8).2.1 (TX4 8).2.2.1 ∈ wsX4_storyOf := by decide +kernel
  have L_32 : Cond.fieldLink RX4 32 (TX4 9).1 (TX4 9).2.1 (TX4 9).2.2.1 ∈ wsX4_storyOf := by decide +kernel
  have L_56 : Cond.fieldLink RX4 56 (TX4 20).1 (TX4 20).2.1 (TX4 20).2.2.1 ∈ wsX4_storyOf := by decide +kernel
  have L_59 : Cond.fieldLink RX4 59 (TX4 21).1 (TX4 21).2.1 (TX4 21).2.2.1 ∈ wsX4_storyOf := by decide +kernel
  have inX4 : ∀ w ∈ u_ws RX4 TX4 23, w ∈ wsX4_storyOf := by decide +kernel
  have hl := lv_entry ([.ref (ad 14 0), .int (nI i)]) (n := 10) (Nat.le_of_ble_eq_true rfl)
  rw [lg_entry_eq]
  generalize (lg_sl ([.ref (ad 14 0), .int (nI i)]) ++ List.replicate (10 - (lg_sl ([.ref (ad 14 0), .int (nI i)])).length) Slot.unset).toArray = ls at hl ⊢
  have hl : lv_has ls 10 [(0, .ref (ad 14 0)), (1, .int (nI i))] := hl
  have outer : ∀ (j k : Nat) (s1 : kx_S) (mt b : Int32), n = k + j → tm_fr sg s1 → (∀ k1, k1 < k → tw_ms (s1 30 0 k1) (s1 31 0 k1) k1 (tm_S sg i k1)) → tw_mb mt b (dp_best (tm_S sg i) k) → ∀ (H : Heap) (locs : List Loc) (ls : Array Slot), kx_Wd G z0 ad nb s1 H → va_S (kx_Ad z0) s.heap H locs → lv_has ls 10 [(4, .int (nI k)), (3, .int mt), (2, .int b), (0, .ref (ad 14 0)), (1, .int (nI i))] → W p l e (headSpec wsX4_storyOf { frames := 2, cells := 0, slots := 0, locals := 43 }).room s m ([.ref (ad 14 0), .int (nI i)] : List Value).toArray below meth c H locs 0 0 (MQ below (kx_Q G z0 ad nb (fun r sg' => r = some (.int (tm_st sg i n)) ∧ ∃ f g : Nat → Int32, sg' = kx_up (kx_up sg 30 0 f) 31 0 g)) ([.ref (ad 14 0), .int (nI i)] : List Value).toArray s 0 0 (kx_Ad z0)) (F0 m 7 ls []) := by
    intro j
    induction j with
    | zero =>
      intro k s1 mt b hk hfr hL hmb H locs ls hW hS hl
      have e17 : s1 17 0 = sg 17 0 := hfr 17 0 (by decide) (by decide)
      have e21 : s1 21 0 = sg 21 0 := hfr 21 0 (by decide) (by decide)
      have e22 : s1 22 0 = sg 22 0 := hfr 22 0 (by decide) (by decide)
      have e23 : s1 23 0 = sg 23 0 := hfr 23 0 (by decide) (by decide)
      have e24 : s1 24 0 = sg 24 0 := hfr 24 0 (by decide) (by decide)
      have e29 : s1 29 0 = sg 29 0 := hfr 29 0 (by decide) (by decide)
      refine lv_iload hx hb dX4_storyOf_7 (lv_at hl 0 rfl) ?_
      refine lv_aload_n hx hb dX4_storyOf_9 rfl (lv_at hl 3 rfl) ?_
      refine kx_g F inX4 hW 14 0 ⟨by decide, rfl⟩ rfl rfl 3 (by decide) L_16 (v := .ref (ad 17 0)) rfl dX4_storyOf_10 ?_
      refine lv_iload_n hx hb dX4_storyOf_13 rfl (lv_at hl 4 rfl) ?_
      refine kx_ald F hW 17 0 ⟨by decide, rfl⟩ rfl i (by omega) (by decide) (v := s1 17 0 i) rfl dX4_storyOf_14 ?_
      refine lv_icmp_ge (tgt := 316) hx hb dX4_storyOf_15 (by decide) (fun c_15 => ?_) (fun c_15 => ?_)
      · refine lv_iload_n hx hb dX4_storyOf_316 rfl (lv_at hl 2 rfl) ?_
        exact kx_ri F hr hlocks hW hS (by first | exact Nat.le_of_ble_eq_true rfl | omega) (by first | exact Nat.le_of_ble_eq_true rfl | omega) (⟨by rw [show k = n by omega] at hmb; rw [tw_mb_st hmb]; rfl, s1 30 0, s1 31 0, tm_fr_ex hfr⟩) dX4_storyOf_317
      · exact absurd (by rw [(congrFun e17 i).trans hn]; exact nI_le (by omega) (by omega)) c_15
    | succ j ih =>
      intro k s1 mt b hk hfr hL hmb H locs ls hW hS hl
      have e17 : s1 17 0 = sg 17 0 := hfr 17 0 (by decide) (by decide)
      have e21 : s1 21 0 = sg 21 0 := hfr 21 0 (by decide) (by decide)
      have e22 : s1 22 0 = sg 22 0 := hfr 22 0 (by decide) (by decide)
      have e23 : s1 23 0 = sg 23 0 := hfr 23 0 (by decide) (by decide)
      have e24 : s1 24 0 = sg 24 0 := hfr 24 0 (by decide) (by decide)
      have e29 : s1 29 0 = sg 29 0 := hfr 29 0 (by decide) (by decide)
      obtain ⟨t9, ht9⟩ : ∃ z, z = tw_trust (sg 24 0) (sg 29 0) (tw_mk (sg 23 0 (12 * i + k))) := ⟨_, rfl⟩
      have htb : 1 ≤ t9.toInt ∧ t9.toInt ≤ 50 := by
        rw [ht9]
        exact tw_trust_bd (tw_who14 (hwho k (by omega))) ht
      have hwk : tm_w sg i k = t9.toInt * 4096 + 2 ^ k := by rw [tm_w, ht9]
      have hk12 : k < 12 := by omega
      have inner : ∀ (jj j1 : Nat) (s1 : kx_S), k = j1 + jj → tm_fr sg s1 → (∀ k1, k1 < k → tw_ms (s1 30 0 k1) (s1 31 0 k1) k1 (tm_S sg i k1)) → tw_mc (s1 30 0 k) (s1 31 0 k) k (dp_ah (tm_f sg i) (tm_s sg i) (tm_S sg i) k j1) (tm_w sg i k) → ∀ (H : Heap) (locs : List Loc) (ls : Array Slot), kx_Wd G z0 ad nb s1 H → va_S (kx_Ad z0) s.heap H locs → lv_has ls 10 [(6, .int (nI j1)), (5, .int (nI (12 * i + k))), (4, .int (nI k)), (3, .int mt), (2, .int b), (0, .ref (ad 14 0)), (1, .int (nI i))] → W p l e (headSpec wsX4_storyOf { frames := 2, cells := 0, slots := 0, locals := 43 }).room s m ([.ref (ad 14 0), .int (nI i)] : List Value).toArray below meth c H locs 0 0 (MQ below (kx_Q G z0 ad nb (fun r sg' => r = some (.int (tm_st sg i n)) ∧ ∃ f g : Nat → Int32, sg' = kx_up (kx_up sg 30 0 f) 31 0 g)) ([.ref (ad 14 0), .int (nI i)] : List Value).toArray s 0 0 (kx_Ad z0)) (F0 m 91 ls []) := by
        clear hL hfr e17 e21 e22 e23 e24 e29 hW hS hl
        intro jj
        induction jj with
        | zero =>
          intro j1 s1 hj hfr hL hcur H locs ls hW hS hl
          have e17 : s1 17 0 = sg 17 0 := hfr 17 0 (by decide) (by decide)
          have e21 : s1 21 0 = sg 21 0 := hfr 21 0 (by decide) (by decide)
          have e22 : s1 22 0 = sg 22 0 := hfr 22 0 (by decide) (by decide)
          have e23 : s1 23 0 = sg 23 0 := hfr 23 0 (by decide) (by decide)
          have e24 : s1 24 0 = sg 24 0 := hfr 24 0 (by decide) (by decide)
          have e29 : s1 29 0 = sg 29 0 := hfr 29 0 (by decide) (by decide)
          rw [show j1 = k by omega] at hcur
          have hSk := tw_ms_of hcur (tm_S_eq sg i k)
          refine lv_iload hx hb dX4_storyOf_91 (lv_at hl 0 rfl) ?_
          refine lv_iload hx hb dX4_storyOf_93 (lv_at hl 2 rfl) ?_
          refine lv_icmp_ge (tgt := 261) hx hb dX4_storyOf_95 (by decide) (fun c_95 => ?_) (fun c_95 => ?_)
          · refine lv_aload_n hx hb dX4_storyOf_261 rfl (lv_at hl 5 rfl) ?_
            refine kx_g F inX4 hW 14 0 ⟨by decide, rfl⟩ rfl rfl 20 (by decide) L_56 (v := .ref (ad 30 0)) rfl dX4_storyOf_262 ?_
            refine lv_iload hx hb dX4_storyOf_265 (lv_at hl 2 rfl) ?_
            refine kx_ald F hW 30 0 ⟨by decide, rfl⟩ rfl k (by omega) (by decide) (v := s1 30 0 k) rfl dX4_storyOf_267 ?_
            refine lv_iload_n hx hb dX4_storyOf_268 rfl (lv_at hl 3 rfl) ?_
            refine lv_icmp_gt (tgt := 294) hx hb dX4_storyOf_269 (by decide) (fun c_269 => ?_) (fun c_269 => ?_)
            · refine lv_aload_n hx hb dX4_storyOf_294 rfl (lv_at hl 5 rfl) ?_
              refine kx_g F inX4 hW 14 0 ⟨by decide, rfl⟩ rfl rfl 20 (by decide) L_56 (v := .ref (ad 30 0)) rfl dX4_storyOf_295 ?_
              refine lv_iload hx hb dX4_storyOf_298 (lv_at hl 2 rfl) ?_
              refine kx_ald F hW 30 0 ⟨by decide, rfl⟩ rfl k (by omega) (by decide) (v := s1 30 0 k) rfl dX4_storyOf_300 ?_
              refine lv_istore_n (lv' := [(3, .int (s1 30 0 k)), (6, .int (nI j1)), (5, .int (nI (12 * i + k))), (4, .int (nI k)), (2, .int b), (0, .ref (ad 14 0)), (1, .int (nI i))]) hx hb dX4_storyOf_301 rfl hl (by decide) rfl (fun ls hl => ?_)
              refine lv_aload_n hx hb dX4_storyOf_302 rfl (lv_at hl 5 rfl) ?_
              refine kx_g F inX4 hW 14 0 ⟨by decide, rfl⟩ rfl rfl 21 (by decide) L_59 (v := .ref (ad 31 0)) rfl dX4_storyOf_303 ?_
              refine lv_iload hx hb dX4_storyOf_306 (lv_at hl 3 rfl) ?_
              refine kx_ald F hW 31 0 ⟨by decide, rfl⟩ rfl k (by omega) (by decide) (v := s1 31 0 k) rfl dX4_storyOf_308 ?_
              refine lv_istore_n (lv' := [(2, .int (s1 31 0 k)), (3, .int (s1 30 0 k)), (6, .int (nI j1)), (5, .int (nI (12 * i + k))), (4, .int (nI k)), (0, .ref (ad 14 0)), (1, .int (nI i))]) hx hb dX4_storyOf_309 rfl hl (by decide) rfl (fun ls hl => ?_)
              refine lv_iinc (v := nI (k + 1)) (lv' := [(4, .int (nI (k + 1))), (2, .int (s1 31 0 k)), (3, .int (s1 30 0 k)), (6, .int (nI j1)), (5, .int (nI (12 * i + k))), (0, .ref (ad 14 0)), (1, .int (nI i))]) hx hb dX4_storyOf_310 hl (k := 4) rfl (nI_1 k) (by decide) rfl (fun ls hl => ?_)
              refine lv_goto (tgt := 7) hx hb dX4_storyOf_313 (by decide) ?_
              exact ih (k + 1) s1 _ _ (by omega) hfr (fun k1 h1 => by
                by_cases e1 : k1 = k
                · subst e1; exact hSk
                · exact hL k1 (by omega)) (tw_mb_up hk12 hSk hmb (Or.inl c_269)) H locs ls hW hS (lv_sub hl [0, 2, 1, 5, 6] rfl)
            · refine lv_aload_n hx hb dX4_storyOf_272 rfl (lv_at hl 5 rfl) ?_
              refine kx_g F inX4 hW 14 0 ⟨by decide, rfl⟩ rfl rfl 20 (by decide) L_56 (v := .ref (ad 30 0)) rfl dX4_storyOf_273 ?_
              refine lv_iload hx hb dX4_storyOf_276 (lv_at hl 2 rfl) ?_
              refine kx_ald F hW 30 0 ⟨by decide, rfl⟩ rfl k (by omega) (by decide) (v := s1 30 0 k) rfl dX4_storyOf_278 ?_
              refine lv_iload_n hx hb dX4_storyOf_279 rfl (lv_at hl 3 rfl) ?_
              refine lv_icmp_ne (tgt := 310) hx hb dX4_storyOf_280 (by decide) (fun c_280 => ?_) (fun c_280 => ?_)
              · refine lv_iinc (v := nI (k + 1)) (lv' := [(4, .int (nI (k + 1))), (6, .int (nI j1)), (5, .int (nI (12 * i + k))), (3, .int mt), (2, .int b), (0, .ref (ad 14 0)), (1, .int (nI i))]) hx hb dX4_storyOf_310 hl (k := 2) rfl (nI_1 k) (by decide) rfl (fun ls hl => ?_)
                refine lv_goto (tgt := 7) hx hb dX4_storyOf_313 (by decide) ?_
                exact ih (k + 1) s1 _ _ (by omega) hfr (fun k1 h1 => by
                  by_cases e1 : k1 = k
                  · subst e1; exact hSk
                  · exact hL k1 (by omega)) (tw_mb_no hk12 hSk hmb c_269 (Or.inl c_280)) H locs ls hW hS (lv_sub hl [0, 3, 4, 5, 6] rfl)
              · refine lv_aload_n hx hb dX4_storyOf_283 rfl (lv_at hl 5 rfl) ?_
                refine kx_g F inX4 hW 14 0 ⟨by decide, rfl⟩ rfl rfl 21 (by decide) L_59 (v := .ref (ad 31 0)) rfl dX4_storyOf_284 ?_
                refine lv_iload hx hb dX4_storyOf_287 (lv_at hl 2 rfl) ?_
                refine kx_ald F hW 31 0 ⟨by decide, rfl⟩ rfl k (by omega) (by decide) (v := s1 31 0 k) rfl dX4_storyOf_289 ?_
                refine lv_iload_n hx hb dX4_storyOf_290 rfl (lv_at hl 4 rfl) ?_
                refine lv_icmp_le (tgt := 310) hx hb dX4_storyOf_291 (by decide) (fun c_291 => ?_) (fun c_291 => ?_)
                · refine lv_iinc (v := nI (k + 1)) (lv' := [(4, .int (nI (k + 1))), (6, .int (nI j1)), (5, .int (nI (12 * i + k))), (3, .int mt), (2, .int b), (0, .ref (ad 14 0)), (1, .int (nI i))]) hx hb dX4_storyOf_310 hl (k := 2) rfl (nI_1 k) (by decide) rfl (fun ls hl => ?_)
                  refine lv_goto (tgt := 7) hx hb dX4_storyOf_313 (by decide) ?_
                  exact ih (k + 1) s1 _ _ (by omega) hfr (fun k1 h1 => by
                    by_cases e1 : k1 = k
                    · subst e1; exact hSk
                    · exact hL k1 (by omega)) (tw_mb_no hk12 hSk hmb c_269 (Or.inr c_291)) H locs ls hW hS (lv_sub hl [0, 3, 4, 5, 6] rfl)
                · refine lv_aload_n hx hb dX4_storyOf_294 rfl (lv_at hl 5 rfl) ?_
                  refine kx_g F inX4 hW 14 0 ⟨by decide, rfl⟩ rfl rfl 20 (by decide) L_56 (v := .ref (ad 30 0)) rfl dX4_storyOf_295 ?_
                  refine lv_iload hx hb dX4_storyOf_298 (lv_at hl 2 rfl) ?_
                  refine kx_ald F hW 30 0 ⟨by decide, rfl⟩ rfl k (by omega) (by decide) (v := s1 30 0 k) rfl dX4_storyOf_300 ?_
                  refine lv_istore_n (lv' := [(3, .int (s1 30 0 k)), (6, .int (nI j1)), (5, .int (nI (12 * i + k))), (4, .int (nI k)), (2, .int b), (0, .ref (ad 14 0)), (1, .int (nI i))]) hx hb dX4_storyOf_301 rfl hl (by decide) rfl (fun ls hl => ?_)
                  refine lv_aload_n hx hb dX4_storyOf_302 rfl (lv_at hl 5 rfl) ?_
                  refine kx_g F inX4 hW 14 0 ⟨by decide, rfl⟩ rfl rfl 21 (by decide) L_59 (v := .ref (ad 31 0)) rfl dX4_storyOf_303 ?_
                  refine lv_iload hx hb dX4_storyOf_306 (lv_at hl 3 rfl) ?_
                  refine kx_ald F hW 31 0 ⟨by decide, rfl⟩ rfl k (by omega) (by decide) (v := s1 31 0 k) rfl dX4_storyOf_308 ?_
                  refine lv_istore_n (lv' := [(2, .int (s1 31 0 k)), (3, .int (s1 30 0 k)), (6, .int (nI j1)), (5, .int (nI (12 * i + k))), (4, .int (nI k)), (0, .ref (ad 14 0)), (1, .int (nI i))]) hx hb dX4_storyOf_309 rfl hl (by decide) rfl (fun ls hl => ?_)
                  refine lv_iinc (v := nI (k + 1)) (lv' := [(4, .int (nI (k + 1))), (2, .int (s1 31 0 k)), (3, .int (s1 30 0 k)), (6, .int (nI j1)), (5, .int (nI (12 * i + k))), (0, .ref (ad 14 0)), (1, .int (nI i))]) hx hb dX4_storyOf_310 hl (k := 4) rfl (nI_1 k) (by decide) rfl (fun ls hl => ?_)
                  refine lv_goto (tgt := 7) hx hb dX4_storyOf_313 (by decide) ?_
                  exact ih (k + 1) s1 _ _ (by omega) hfr (fun k1 h1 => by
                    by_cases e1 : k1 = k
                    · subst e1; exact hSk
                    · exact hL k1 (by omega)) (tw_mb_up hk12 hSk hmb (Or.inr ⟨c_280, tw_nge c_291⟩)) H locs ls hW hS (lv_sub hl [0, 2, 1, 5, 6] rfl)
          · exact absurd (nI_le (by omega) (by omega)) c_95
        | succ jj ih2 =>
          intro j1 s1 hj hfr hL hcur H locs ls hW hS hl
          have e17 : s1 17 0 = sg 17 0 := hfr 17 0 (by decide) (by decide)
          have e21 : s1 21 0 = sg 21 0 := hfr 21 0 (by decide) (by decide)
          have e22 : s1 22 0 = sg 22 0 := hfr 22 0 (by decide) (by decide)
          have e23 : s1 23 0 = sg 23 0 := hfr 23 0 (by decide) (by decide)
          have e24 : s1 24 0 = sg 24 0 := hfr 24 0 (by decide) (by decide)
          have e29 : s1 29 0 = sg 29 0 := hfr 29 0 (by decide) (by decide)
          have hSj := hL j1 (by omega)
          have hw9 : tw_who (s1 23 0 (12 * i + k)) := by rw [e23]; exact hwho k (by omega)
          refine lv_iload hx hb dX4_storyOf_91 (lv_at hl 0 rfl) ?_
          refine lv_iload hx hb dX4_storyOf_93 (lv_at hl 2 rfl) ?_
          refine lv_icmp_ge (tgt := 261) hx hb dX4_storyOf_95 (by decide) (fun c_95 => ?_) (fun c_95 => ?_)
          · exact absurd c_95 (nI_ge (by omega) (by omega))
          · refine lv_bipush (v := 12) hx hb dX4_storyOf_98 (by decide) ?_
            refine lv_iload_n hx hb dX4_storyOf_100 rfl (lv_at hl 6 rfl) ?_
            refine lv_imul hx hb dX4_storyOf_101 ?_
            refine lv_iload hx hb dX4_storyOf_102 (lv_at hl 0 rfl) ?_
            refine lv_iadd hx hb dX4_storyOf_104 ?_
            rw [tw_ix i j1]
            refine lv_istore (lv' := [(7, .int (nI (12 * i + j1))), (6, .int (nI j1)), (5, .int (nI (12 * i + k))), (4, .int (nI k)), (3, .int mt), (2, .int b), (0, .ref (ad 14 0)), (1, .int (nI i))]) hx hb dX4_storyOf_105 hl (by decide) rfl (fun ls hl => ?_)
            refine lv_aload_n hx hb dX4_storyOf_107 rfl (lv_at hl 6 rfl) ?_
            refine kx_g F inX4 hW 14 0 ⟨by decide, rfl⟩ rfl rfl 20 (by decide) L_56 (v := .ref (ad 30 0)) rfl dX4_storyOf_108 ?_
            refine lv_iload hx hb dX4_storyOf_111 (lv_at hl 1 rfl) ?_
            refine kx_ald F hW 30 0 ⟨by decide, rfl⟩ rfl j1 (by omega) (by decide) (v := s1 30 0 j1) rfl dX4_storyOf_113 ?_
            refine lv_aload_n hx hb dX4_storyOf_114 rfl (lv_at hl 6 rfl) ?_
            refine lv_iload hx hb dX4_storyOf_115 (lv_at hl 2 rfl) ?_
            refine kx_cV (na := 1) F (q := 14) (n := 0) (c_X4_trustOf l G z0 ad nb s1 (12 * i + k) (by omega) hw9) gX4_storyOf_X4_trustOf rfl (by decide +kernel) ⟨Nat.le_of_ble_eq_true rfl, Nat.le_of_ble_eq_true rfl⟩ hW hS ⟨by decide, rfl⟩ rfl rfl (As := [.int (nI (12 * i + k))]) (rest := [.int (s1 30 0 j1)]) rfl hl.1 rfl (Nat.le_of_ble_eq_true rfl) dX4_storyOf_117 ⟨by first | exact Nat.le_of_ble_eq_true rfl | omega, by first | exact Nat.le_of_ble_eq_true rfl | omega⟩ (fun r9 sg9 H locs hq hW hS => ?_)
            have hq : r9 = some (.int t9) ∧ sg9 = s1 := ⟨hq.1.trans (congrArg (fun z => some (Value.int z)) (show tw_trust (s1 24 0) (s1 29 0) (tw_mk (s1 23 0 (12 * i + k))) = t9 from by rw [e24, e29, e23, ht9])), hq.2⟩
            obtain ⟨rfl, e9⟩ := hq
            rw [e9] at hW
            refine W.eq (g2 := F0 m 120 ls [.int t9, .int (s1 30 0 j1)]) rfl ?_
            refine lv_iadd hx hb dX4_storyOf_120 ?_
            refine lv_istore (lv' := [(8, .int ((s1 30 0 j1) + t9)), (7, .int (nI (12 * i + j1))), (6, .int (nI j1)), (5, .int (nI (12 * i + k))), (4, .int (nI k)), (3, .int mt), (2, .int b), (0, .ref (ad 14 0)), (1, .int (nI i))]) hx hb dX4_storyOf_121 hl (by decide) rfl (fun ls hl => ?_)
            refine lv_aload_n hx hb dX4_storyOf_123 rfl (lv_at hl 7 rfl) ?_
            refine kx_g F inX4 hW 14 0 ⟨by decide, rfl⟩ rfl rfl 20 (by decide) L_56 (v := .ref (ad 30 0)) rfl dX4_storyOf_124 ?_
            refine lv_iload hx hb dX4_storyOf_127 (lv_at hl 2 rfl) ?_
            refine kx_ald F hW 30 0 ⟨by decide, rfl⟩ rfl j1 (by omega) (by decide) (v := s1 30 0 j1) rfl dX4_storyOf_129 ?_
            refine lv_iconst (v := (-1)) hx hb dX4_storyOf_130 (by decide) ?_
            refine lv_icmp_eq (tgt := 173) hx hb dX4_storyOf_131 (by decide) (fun c_131 => ?_) (fun c_131 => ?_)
            · refine lv_iconst (v := 0) hx hb dX4_storyOf_173 (by decide) ?_
              refine lv_istore (lv' := [(9, .int 0), (8, .int ((s1 30 0 j1) + t9)), (7, .int (nI (12 * i + j1))), (6, .int (nI j1)), (5, .int (nI (12 * i + k))), (4, .int (nI k)), (3, .int mt), (2, .int b), (0, .ref (ad 14 0)), (1, .int (nI i))]) hx hb dX4_storyOf_174 hl (by decide) rfl (fun ls hl => ?_)
              refine lv_iload hx hb dX4_storyOf_176 (lv_at hl 0 rfl) ?_
              refine lv_if_eq (tgt := 255) hx hb dX4_storyOf_178 (by decide) (fun c_178 => ?_) (fun c_178 => ?_)
              · refine lv_iinc (v := nI (j1 + 1)) (lv' := [(6, .int (nI (j1 + 1))), (9, .int 0), (8, .int ((s1 30 0 j1) + t9)), (7, .int (nI (12 * i + j1))), (5, .int (nI (12 * i + k))), (4, .int (nI k)), (3, .int mt), (2, .int b), (0, .ref (ad 14 0)), (1, .int (nI i))]) hx hb dX4_storyOf_255 hl (k := 3) rfl (nI_1 j1) (by decide) rfl (fun ls hl => ?_)
                refine lv_goto (tgt := 91) hx hb dX4_storyOf_258 (by decide) ?_
                have hm1 : tm_S sg i j1 = -1 := tw_ms_m1 (by rw [c_131] at hSj; exact hSj)
                have hlo := dp_ah_lo (fo := tm_f sg i) (st := tm_s sg i) (S := tm_S sg i) (k := k) j1
                exact ih2 (j1 + 1) s1 (by omega) hfr hL (by
                  rw [show dp_ah (tm_f sg i) (tm_s sg i) (tm_S sg i) k (j1 + 1) = dp_ah (tm_f sg i) (tm_s sg i) (tm_S sg i) k j1 by rw [dp_ah, hm1]; split <;> omega]
                  exact hcur) H locs ls hW hS (lv_sub hl [0, 4, 5, 6, 7, 8, 9] rfl)
              · exact absurd rfl c_178
            · refine lv_aload_n hx hb dX4_storyOf_134 rfl (lv_at hl 7 rfl) ?_
              refine kx_g F inX4 hW 14 0 ⟨by decide, rfl⟩ rfl rfl 9 (by decide) L_32 (v := .ref (ad 22 0)) rfl dX4_storyOf_135 ?_
              refine lv_iload hx hb dX4_storyOf_138 (lv_at hl 3 rfl) ?_
              refine kx_ald F hW 22 0 ⟨by decide, rfl⟩ rfl (12 * i + k) (by omega) (by decide) (v := sg 22 0 (12 * i + k)) (by exact congrFun e22 _) dX4_storyOf_140 ?_
              refine lv_aload_n hx hb dX4_storyOf_141 rfl (lv_at hl 7 rfl) ?_
              refine kx_g F inX4 hW 14 0 ⟨by decide, rfl⟩ rfl rfl 9 (by decide) L_32 (v := .ref (ad 22 0)) rfl dX4_storyOf_142 ?_
              refine lv_iload hx hb dX4_storyOf_145 (lv_at hl 1 rfl) ?_
              refine kx_ald F hW 22 0 ⟨by decide, rfl⟩ rfl (12 * i + j1) (by omega) (by decide) (v := sg 22 0 (12 * i + j1)) (by exact congrFun e22 _) dX4_storyOf_147 ?_
              refine lv_isub hx hb dX4_storyOf_148 ?_
              refine lv_aload_n hx hb dX4_storyOf_149 rfl (lv_at hl 7 rfl) ?_
              refine kx_g F inX4 hW 14 0 ⟨by decide, rfl⟩ rfl rfl 8 (by decide) L_29 (v := .ref (ad 21 0)) rfl dX4_storyOf_150 ?_
              refine lv_iload hx hb dX4_storyOf_153 (lv_at hl 1 rfl) ?_
              refine kx_ald F hW 21 0 ⟨by decide, rfl⟩ rfl (12 * i + j1) (by omega) (by decide) (v := sg 21 0 (12 * i + j1)) (by exact congrFun e21 _) dX4_storyOf_155 ?_
              refine lv_aload_n hx hb dX4_storyOf_156 rfl (lv_at hl 7 rfl) ?_
              refine kx_g F inX4 hW 14 0 ⟨by decide, rfl⟩ rfl rfl 8 (by decide) L_29 (v := .ref (ad 21 0)) rfl dX4_storyOf_157 ?_
              refine lv_iload hx hb dX4_storyOf_160 (lv_at hl 3 rfl) ?_
              refine kx_ald F hW 21 0 ⟨by decide, rfl⟩ rfl (12 * i + k) (by omega) (by decide) (v := sg 21 0 (12 * i + k)) (by exact congrFun e21 _) dX4_storyOf_162 ?_
              refine kx_cS (na := 2) F (c_X4_minutes l G z0 ad nb s1 (sg 21 0 (12 * i + j1)) (sg 21 0 (12 * i + k))) gX4_storyOf_X4_minutes rfl (by decide +kernel) ⟨Nat.le_of_ble_eq_true rfl, Nat.le_of_ble_eq_true rfl⟩ hW hS (As := [.int (sg 21 0 (12 * i + j1)), .int (sg 21 0 (12 * i + k))]) (rest := [.int ((sg 22 0 (12 * i + k)) - (sg 22 0 (12 * i + j1)))]) rfl hl.1 rfl (Nat.le_of_ble_eq_true rfl) dX4_storyOf_163 ⟨by first | exact Nat.le_of_ble_eq_true rfl | omega, by first | exact Nat.le_of_ble_eq_true rfl | omega⟩ (fun r9 sg9 H locs hq hW hS => ?_)
              obtain ⟨rfl, e9⟩ := hq
              rw [e9] at hW
              refine W.eq (g2 := F0 m 166 ls [.int (tw_mn (sg 21 0 (12 * i + j1)) (sg 21 0 (12 * i + k))), .int ((sg 22 0 (12 * i + k)) - (sg 22 0 (12 * i + j1)))]) rfl ?_
              refine lv_icmp_lt (tgt := 173) hx hb dX4_storyOf_166 (by decide) (fun c_166 => ?_) (fun c_166 => ?_)
              · refine lv_iconst (v := 0) hx hb dX4_storyOf_173 (by decide) ?_
                refine lv_istore (lv' := [(9, .int 0), (8, .int ((s1 30 0 j1) + t9)), (7, .int (nI (12 * i + j1))), (6, .int (nI j1)), (5, .int (nI (12 * i + k))), (4, .int (nI k)), (3, .int mt), (2, .int b), (0, .ref (ad 14 0)), (1, .int (nI i))]) hx hb dX4_storyOf_174 hl (by decide) rfl (fun ls hl => ?_)
                refine lv_iload hx hb dX4_storyOf_176 (lv_at hl 0 rfl) ?_
                refine lv_if_eq (tgt := 255) hx hb dX4_storyOf_178 (by decide) (fun c_178 => ?_) (fun c_178 => ?_)
                · refine lv_iinc (v := nI (j1 + 1)) (lv' := [(6, .int (nI (j1 + 1))), (9, .int 0), (8, .int ((s1 30 0 j1) + t9)), (7, .int (nI (12 * i + j1))), (5, .int (nI (12 * i + k))), (4, .int (nI k)), (3, .int mt), (2, .int b), (0, .ref (ad 14 0)), (1, .int (nI i))]) hx hb dX4_storyOf_255 hl (k := 3) rfl (nI_1 j1) (by decide) rfl (fun ls hl => ?_)
                  refine lv_goto (tgt := 91) hx hb dX4_storyOf_258 (by decide) ?_
                  have hfo : tm_f sg i j1 k = false := decide_eq_false (tw_gt c_166)
                  exact ih2 (j1 + 1) s1 (by omega) hfr hL (by
                    rw [show dp_ah (tm_f sg i) (tm_s sg i) (tm_S sg i) k (j1 + 1) = dp_ah (tm_f sg i) (tm_s sg i) (tm_S sg i) k j1 by rw [dp_ah, if_neg (by rw [hfo]; decide)]]
                    exact hcur) H locs ls hW hS (lv_sub hl [0, 4, 5, 6, 7, 8, 9] rfl)
                · exact absurd rfl c_178
              · refine lv_iconst (v := 1) hx hb dX4_storyOf_169 (by decide) ?_
                refine lv_goto (tgt := 174) hx hb dX4_storyOf_170 (by decide) ?_
                refine lv_istore (lv' := [(9, .int 1), (8, .int ((s1 30 0 j1) + t9)), (7, .int (nI (12 * i + j1))), (6, .int (nI j1)), (5, .int (nI (12 * i + k))), (4, .int (nI k)), (3, .int mt), (2, .int b), (0, .ref (ad 14 0)), (1, .int (nI i))]) hx hb dX4_storyOf_174 hl (by decide) rfl (fun ls hl => ?_)
                refine lv_iload hx hb dX4_storyOf_176 (lv_at hl 0 rfl) ?_
                refine lv_if_eq (tgt := 255) hx hb dX4_storyOf_178 (by decide) (fun c_178 => ?_) (fun c_178 => ?_)
                · exact absurd c_178 (by decide)
                · refine lv_iload hx hb dX4_storyOf_181 (lv_at hl 1 rfl) ?_
                  refine lv_aload_n hx hb dX4_storyOf_183 rfl (lv_at hl 8 rfl) ?_
                  refine kx_g F inX4 hW 14 0 ⟨by decide, rfl⟩ rfl rfl 20 (by decide) L_56 (v := .ref (ad 30 0)) rfl dX4_storyOf_184 ?_
                  refine lv_iload hx hb dX4_storyOf_187 (lv_at hl 5 rfl) ?_
                  refine kx_ald F hW 30 0 ⟨by decide, rfl⟩ rfl k (by omega) (by decide) (v := s1 30 0 k) rfl dX4_storyOf_189 ?_
                  refine lv_icmp_gt (tgt := 227) hx hb dX4_storyOf_190 (by decide) (fun c_190 => ?_) (fun c_190 => ?_)
                  · refine lv_aload_n hx hb dX4_storyOf_227 rfl (lv_at hl 8 rfl) ?_
                    refine kx_g F inX4 hW 14 0 ⟨by decide, rfl⟩ rfl rfl 20 (by decide) L_56 (v := .ref (ad 30 0)) rfl dX4_storyOf_228 ?_
                    refine lv_iload hx hb dX4_storyOf_231 (lv_at hl 5 rfl) ?_
                    refine lv_iload hx hb dX4_storyOf_233 (lv_at hl 1 rfl) ?_
                    refine kx_ast F hW hS 30 0 ⟨by decide, rfl⟩ rfl k (by omega) (by decide) (x := ((s1 30 0 j1) + t9)) rfl dX4_storyOf_235 (fun H locs hW hS => ?_)
                    have hW : kx_Wd G z0 ad nb (kx_up s1 30 0 (upd (s1 30 0) k ((s1 30 0 j1) + t9))) H := hW
                    refine lv_aload_n hx hb dX4_storyOf_236 rfl (lv_at hl 8 rfl) ?_
                    refine kx_g F inX4 hW 14 0 ⟨by decide, rfl⟩ rfl rfl 21 (by decide) L_59 (v := .ref (ad 31 0)) rfl dX4_storyOf_237 ?_
                    refine lv_iload hx hb dX4_storyOf_240 (lv_at hl 5 rfl) ?_
                    refine lv_aload_n hx hb dX4_storyOf_242 rfl (lv_at hl 8 rfl) ?_
                    refine kx_g F inX4 hW 14 0 ⟨by decide, rfl⟩ rfl rfl 21 (by decide) L_59 (v := .ref (ad 31 0)) rfl dX4_storyOf_243 ?_
                    refine lv_iload hx hb dX4_storyOf_246 (lv_at hl 3 rfl) ?_
                    refine kx_ald F hW 31 0 ⟨by decide, rfl⟩ rfl j1 (by omega) (by decide) (v := s1 31 0 j1) (by first | rfl | (simp only [kx_up_s]; done) | (simp only [kx_up_s, upd_s]; done) | (simp only [kx_up_s]; rfl) | (simp [kx_up, upd]; done)) dX4_storyOf_248 ?_
                    refine lv_iconst (v := 1) hx hb dX4_storyOf_249 (by decide) ?_
                    refine lv_iload hx hb dX4_storyOf_250 (lv_at hl 5 rfl) ?_
                    refine lv_ishl hx hb dX4_storyOf_252 ?_
                    refine lv_ior hx hb dX4_storyOf_253 ?_
                    refine kx_ast F hW hS 31 0 ⟨by decide, rfl⟩ rfl k (by omega) (by decide) (x := ((s1 31 0 j1) ||| ((1 : Int32) <<< ((nI k) &&& 31)))) rfl dX4_storyOf_254 (fun H locs hW hS => ?_)
                    have er9 : (kx_up s1 30 0 (upd (s1 30 0) k ((s1 30 0 j1) + t9))) 31 0 = s1 31 0 := by first | rfl | (simp only [kx_up_s]; done) | (simp [kx_up]; done)
                    rw [er9] at hW
                    have hW : kx_Wd G z0 ad nb (kx_up (kx_up s1 30 0 (upd (s1 30 0) k ((s1 30 0 j1) + t9))) 31 0 (upd (s1 31 0) k ((s1 31 0 j1) ||| ((1 : Int32) <<< ((nI k) &&& 31))))) H := hW
                    refine lv_iinc (v := nI (j1 + 1)) (lv' := [(6, .int (nI (j1 + 1))), (9, .int 1), (8, .int ((s1 30 0 j1) + t9)), (7, .int (nI (12 * i + j1))), (5, .int (nI (12 * i + k))), (4, .int (nI k)), (3, .int mt), (2, .int b), (0, .ref (ad 14 0)), (1, .int (nI i))]) hx hb dX4_storyOf_255 hl (k := 3) rfl (nI_1 j1) (by decide) rfl (fun ls hl => ?_)
                    refine lv_goto (tgt := 91) hx hb dX4_storyOf_258 (by decide) ?_
                    have hfo : tm_f sg i j1 k = true := decide_eq_true (tw_ngt c_166)
                    have hda : dp_ah (tm_f sg i) (tm_s sg i) (tm_S sg i) k (j1 + 1) = max (dp_ah (tm_f sg i) (tm_s sg i) (tm_S sg i) k j1) (tm_S sg i j1) := by rw [dp_ah, if_pos hfo]
                    have hnew := tw_mc_up (k := k) (by omega : j1 < k) hk12 htb hwk hSj c_131 hcur (Or.inl c_190)
                    exact ih2 (j1 + 1) _ (by omega) (fun q m h0 h1 => by rw [← hfr q m h0 h1]; simp [kx_up, h0, h1]) (fun k1 h1 => by
                      have h2 := hL k1 h1
                      simpa [kx_up, upd, Nat.ne_of_lt h1] using h2) (by
                      rw [hda]
                      simpa [kx_up, upd] using hnew) H locs ls hW hS (lv_sub hl [0, 4, 5, 6, 7, 8, 9] rfl)
                  · refine lv_iload hx hb dX4_storyOf_193 (lv_at hl 1 rfl) ?_
                    refine lv_aload_n hx hb dX4_storyOf_195 rfl (lv_at hl 8 rfl) ?_
                    refine kx_g F inX4 hW 14 0 ⟨by decide, rfl⟩ rfl rfl 20 (by decide) L_56 (v := .ref (ad 30 0)) rfl dX4_storyOf_196 ?_
                    refine lv_iload hx hb dX4_storyOf_199 (lv_at hl 5 rfl) ?_
                    refine kx_ald F hW 30 0 ⟨by decide, rfl⟩ rfl k (by omega) (by decide) (v := s1 30 0 k) rfl dX4_storyOf_201 ?_
                    refine lv_icmp_ne (tgt := 255) hx hb dX4_storyOf_202 (by decide) (fun c_202 => ?_) (fun c_202 => ?_)
                    · refine lv_iinc (v := nI (j1 + 1)) (lv' := [(6, .int (nI (j1 + 1))), (9, .int 1), (8, .int ((s1 30 0 j1) + t9)), (7, .int (nI (12 * i + j1))), (5, .int (nI (12 * i + k))), (4, .int (nI k)), (3, .int mt), (2, .int b), (0, .ref (ad 14 0)), (1, .int (nI i))]) hx hb dX4_storyOf_255 hl (k := 3) rfl (nI_1 j1) (by decide) rfl (fun ls hl => ?_)
                      refine lv_goto (tgt := 91) hx hb dX4_storyOf_258 (by decide) ?_
                      have hfo : tm_f sg i j1 k = true := decide_eq_true (tw_ngt c_166)
                      have hda : dp_ah (tm_f sg i) (tm_s sg i) (tm_S sg i) k (j1 + 1) = max (dp_ah (tm_f sg i) (tm_s sg i) (tm_S sg i) k j1) (tm_S sg i j1) := by rw [dp_ah, if_pos hfo]
                      exact ih2 (j1 + 1) s1 (by omega) hfr hL (by
                        rw [hda]
                        exact tw_mc_no (k := k) (by omega : j1 < k) hk12 htb hwk hSj c_131 hcur c_190 (Or.inl c_202)) H locs ls hW hS (lv_sub hl [0, 4, 5, 6, 7, 8, 9] rfl)
                    · refine lv_aload_n hx hb dX4_storyOf_205 rfl (lv_at hl 8 rfl) ?_
                      refine kx_g F inX4 hW 14 0 ⟨by decide, rfl⟩ rfl rfl 21 (by decide) L_59 (v := .ref (ad 31 0)) rfl dX4_storyOf_206 ?_
                      refine lv_iload hx hb dX4_storyOf_209 (lv_at hl 3 rfl) ?_
                      refine kx_ald F hW 31 0 ⟨by decide, rfl⟩ rfl j1 (by omega) (by decide) (v := s1 31 0 j1) rfl dX4_storyOf_211 ?_
                      refine lv_iconst (v := 1) hx hb dX4_storyOf_212 (by decide) ?_
                      refine lv_iload hx hb dX4_storyOf_213 (lv_at hl 5 rfl) ?_
                      refine lv_ishl hx hb dX4_storyOf_215 ?_
                      refine lv_ior hx hb dX4_storyOf_216 ?_
                      refine lv_aload_n hx hb dX4_storyOf_217 rfl (lv_at hl 8 rfl) ?_
                      refine kx_g F inX4 hW 14 0 ⟨by decide, rfl⟩ rfl rfl 21 (by decide) L_59 (v := .ref (ad 31 0)) rfl dX4_storyOf_218 ?_
                      refine lv_iload hx hb dX4_storyOf_221 (lv_at hl 5 rfl) ?_
                      refine kx_ald F hW 31 0 ⟨by decide, rfl⟩ rfl k (by omega) (by decide) (v := s1 31 0 k) rfl dX4_storyOf_223 ?_
                      refine lv_icmp_le (tgt := 255) hx hb dX4_storyOf_224 (by decide) (fun c_224 => ?_) (fun c_224 => ?_)
                      · refine lv_iinc (v := nI (j1 + 1)) (lv' := [(6, .int (nI (j1 + 1))), (9, .int 1), (8, .int ((s1 30 0 j1) + t9)), (7, .int (nI (12 * i + j1))), (5, .int (nI (12 * i + k))), (4, .int (nI k)), (3, .int mt), (2, .int b), (0, .ref (ad 14 0)), (1, .int (nI i))]) hx hb dX4_storyOf_255 hl (k := 3) rfl (nI_1 j1) (by decide) rfl (fun ls hl => ?_)
                        refine lv_goto (tgt := 91) hx hb dX4_storyOf_258 (by decide) ?_
                        have hfo : tm_f sg i j1 k = true := decide_eq_true (tw_ngt c_166)
                        have hda : dp_ah (tm_f sg i) (tm_s sg i) (tm_S sg i) k (j1 + 1) = max (dp_ah (tm_f sg i) (tm_s sg i) (tm_S sg i) k j1) (tm_S sg i j1) := by rw [dp_ah, if_pos hfo]
                        exact ih2 (j1 + 1) s1 (by omega) hfr hL (by
                          rw [hda]
                          exact tw_mc_no (k := k) (by omega : j1 < k) hk12 htb hwk hSj c_131 hcur c_190 (Or.inr c_224)) H locs ls hW hS (lv_sub hl [0, 4, 5, 6, 7, 8, 9] rfl)
                      · refine lv_aload_n hx hb dX4_storyOf_227 rfl (lv_at hl 8 rfl) ?_
                        refine kx_g F inX4 hW 14 0 ⟨by decide, rfl⟩ rfl rfl 20 (by decide) L_56 (v := .ref (ad 30 0)) rfl dX4_storyOf_228 ?_
                        refine lv_iload hx hb dX4_storyOf_231 (lv_at hl 5 rfl) ?_
                        refine lv_iload hx hb dX4_storyOf_233 (lv_at hl 1 rfl) ?_
                        refine kx_ast F hW hS 30 0 ⟨by decide, rfl⟩ rfl k (by omega) (by decide) (x := ((s1 30 0 j1) + t9)) rfl dX4_storyOf_235 (fun H locs hW hS => ?_)
                        have hW : kx_Wd G z0 ad nb (kx_up s1 30 0 (upd (s1 30 0) k ((s1 30 0 j1) + t9))) H := hW
                        refine lv_aload_n hx hb dX4_storyOf_236 rfl (lv_at hl 8 rfl) ?_
                        refine kx_g F inX4 hW 14 0 ⟨by decide, rfl⟩ rfl rfl 21 (by decide) L_59 (v := .ref (ad 31 0)) rfl dX4_storyOf_237 ?_
                        refine lv_iload hx hb dX4_storyOf_240 (lv_at hl 5 rfl) ?_
                        refine lv_aload_n hx hb dX4_storyOf_242 rfl (lv_at hl 8 rfl) ?_
                        refine kx_g F inX4 hW 14 0 ⟨by decide, rfl⟩ rfl rfl 21 (by decide) L_59 (v := .ref (ad 31 0)) rfl dX4_storyOf_243 ?_
                        refine lv_iload hx hb dX4_storyOf_246 (lv_at hl 3 rfl) ?_
                        refine kx_ald F hW 31 0 ⟨by decide, rfl⟩ rfl j1 (by omega) (by decide) (v := s1 31 0 j1) (by first | rfl | (simp only [kx_up_s]; done) | (simp only [kx_up_s, upd_s]; done) | (simp only [kx_up_s]; rfl) | (simp [kx_up, upd]; done)) dX4_storyOf_248 ?_
                        refine lv_iconst (v := 1) hx hb dX4_storyOf_249 (by decide) ?_
                        refine lv_iload hx hb dX4_storyOf_250 (lv_at hl 5 rfl) ?_
                        refine lv_ishl hx hb dX4_storyOf_252 ?_
                        refine lv_ior hx hb dX4_storyOf_253 ?_
                        refine kx_ast F hW hS 31 0 ⟨by decide, rfl⟩ rfl k (by omega) (by decide) (x := ((s1 31 0 j1) ||| ((1 : Int32) <<< ((nI k) &&& 31)))) rfl dX4_storyOf_254 (fun H locs hW hS => ?_)
                        have er9 : (kx_up s1 30 0 (upd (s1 30 0) k ((s1 30 0 j1) + t9))) 31 0 = s1 31 0 := by first | rfl | (simp only [kx_up_s]; done) | (simp [kx_up]; done)
                        rw [er9] at hW
                        have hW : kx_Wd G z0 ad nb (kx_up (kx_up s1 30 0 (upd (s1 30 0) k ((s1 30 0 j1) + t9))) 31 0 (upd (s1 31 0) k ((s1 31 0 j1) ||| ((1 : Int32) <<< ((nI k) &&& 31))))) H := hW
                        refine lv_iinc (v := nI (j1 + 1)) (lv' := [(6, .int (nI (j1 + 1))), (9, .int 1), (8, .int ((s1 30 0 j1) + t9)), (7, .int (nI (12 * i + j1))), (5, .int (nI (12 * i + k))), (4, .int (nI k)), (3, .int mt), (2, .int b), (0, .ref (ad 14 0)), (1, .int (nI i))]) hx hb dX4_storyOf_255 hl (k := 3) rfl (nI_1 j1) (by decide) rfl (fun ls hl => ?_)
                        refine lv_goto (tgt := 91) hx hb dX4_storyOf_258 (by decide) ?_
                        have hfo : tm_f sg i j1 k = true := decide_eq_true (tw_ngt c_166)
                        have hda : dp_ah (tm_f sg i) (tm_s sg i) (tm_S sg i) k (j1 + 1) = max (dp_ah (tm_f sg i) (tm_s sg i) (tm_S sg i) k j1) (tm_S sg i j1) := by rw [dp_ah, if_pos hfo]
                        have hnew := tw_mc_up (k := k) (by omega : j1 < k) hk12 htb hwk hSj c_131 hcur (Or.inr ⟨c_202, tw_nge c_224⟩)
                        exact ih2 (j1 + 1) _ (by omega) (fun q m h0 h1 => by rw [← hfr q m h0 h1]; simp [kx_up, h0, h1]) (fun k1 h1 => by
                          have h2 := hL k1 h1
                          simpa [kx_up, upd, Nat.ne_of_lt h1] using h2) (by
                          rw [hda]
                          simpa [kx_up, upd] using hnew) H locs ls hW hS (lv_sub hl [0, 4, 5, 6, 7, 8, 9] rfl)
      have hw9 : tw_who (s1 23 0 (12 * i + k)) := by rw [e23]; exact hwho k (by omega)
      refine lv_iload hx hb dX4_storyOf_7 (lv_at hl 0 rfl) ?_
      refine lv_aload_n hx hb dX4_storyOf_9 rfl (lv_at hl 3 rfl) ?_
      refine kx_g F inX4 hW 14 0 ⟨by decide, rfl⟩ rfl rfl 3 (by decide) L_16 (v := .ref (ad 17 0)) rfl dX4_storyOf_10 ?_
      refine lv_iload_n hx hb dX4_storyOf_13 rfl (lv_at hl 4 rfl) ?_
      refine kx_ald F hW 17 0 ⟨by decide, rfl⟩ rfl i (by omega) (by decide) (v := s1 17 0 i) rfl dX4_storyOf_14 ?_
      refine lv_icmp_ge (tgt := 316) hx hb dX4_storyOf_15 (by decide) (fun c_15 => ?_) (fun c_15 => ?_)
      · exact absurd (by rw [(congrFun e17 i).trans hn] at c_15; exact c_15) (show ¬ nI n ≤ nI k from nI_ge (by omega) (by omega))
      · refine lv_bipush (v := 12) hx hb dX4_storyOf_18 (by decide) ?_
        refine lv_iload_n hx hb dX4_storyOf_20 rfl (lv_at hl 4 rfl) ?_
        refine lv_imul hx hb dX4_storyOf_21 ?_
        refine lv_iload hx hb dX4_storyOf_22 (lv_at hl 0 rfl) ?_
        refine lv_iadd hx hb dX4_storyOf_24 ?_
        rw [tw_ix i k]
        refine lv_istore (lv' := [(5, .int (nI (12 * i + k))), (4, .int (nI k)), (3, .int mt), (2, .int b), (0, .ref (ad 14 0)), (1, .int (nI i))]) hx hb dX4_storyOf_25 hl (by decide) rfl (fun ls hl => ?_)
        refine lv_aload_n hx hb dX4_storyOf_27 rfl (lv_at hl 4 rfl) ?_
        refine kx_g F inX4 hW 14 0 ⟨by decide, rfl⟩ rfl rfl 20 (by decide) L_56 (v := .ref (ad 30 0)) rfl dX4_storyOf_28 ?_
        refine lv_iload hx hb dX4_storyOf_31 (lv_at hl 1 rfl) ?_
        refine lv_iconst (v := (-1)) hx hb dX4_storyOf_33 (by decide) ?_
        refine kx_ast F hW hS 30 0 ⟨by decide, rfl⟩ rfl k (by omega) (by decide) (x := (-1)) rfl dX4_storyOf_34 (fun H locs hW hS => ?_)
        have hW : kx_Wd G z0 ad nb (kx_up s1 30 0 (upd (s1 30 0) k (-1))) H := hW
        refine lv_aload_n hx hb dX4_storyOf_35 rfl (lv_at hl 4 rfl) ?_
        refine kx_g F inX4 hW 14 0 ⟨by decide, rfl⟩ rfl rfl 21 (by decide) L_59 (v := .ref (ad 31 0)) rfl dX4_storyOf_36 ?_
        refine lv_iload hx hb dX4_storyOf_39 (lv_at hl 1 rfl) ?_
        refine lv_iconst (v := 0) hx hb dX4_storyOf_41 (by decide) ?_
        refine kx_ast F hW hS 31 0 ⟨by decide, rfl⟩ rfl k (by omega) (by decide) (x := 0) rfl dX4_storyOf_42 (fun H locs hW hS => ?_)
        have er9 : (kx_up s1 30 0 (upd (s1 30 0) k (-1))) 31 0 = s1 31 0 := by first | rfl | (simp only [kx_up_s]; done) | (simp [kx_up]; done)
        rw [er9] at hW
        have hW : kx_Wd G z0 ad nb (kx_up (kx_up s1 30 0 (upd (s1 30 0) k (-1))) 31 0 (upd (s1 31 0) k 0)) H := hW
        refine lv_aload_n hx hb dX4_storyOf_43 rfl (lv_at hl 4 rfl) ?_
        refine kx_g F inX4 hW 14 0 ⟨by decide, rfl⟩ rfl rfl 9 (by decide) L_32 (v := .ref (ad 22 0)) rfl dX4_storyOf_44 ?_
        refine lv_iload hx hb dX4_storyOf_47 (lv_at hl 0 rfl) ?_
        refine kx_ald F hW 22 0 ⟨by decide, rfl⟩ rfl (12 * i + k) (by omega) (by decide) (v := sg 22 0 (12 * i + k)) (by exact congrFun e22 _) dX4_storyOf_49 ?_
        refine lv_iconst (v := 0) hx hb dX4_storyOf_50 (by decide) ?_
        refine lv_aload_n hx hb dX4_storyOf_51 rfl (lv_at hl 4 rfl) ?_
        refine kx_g F inX4 hW 14 0 ⟨by decide, rfl⟩ rfl rfl 8 (by decide) L_29 (v := .ref (ad 21 0)) rfl dX4_storyOf_52 ?_
        refine lv_iload hx hb dX4_storyOf_55 (lv_at hl 0 rfl) ?_
        refine kx_ald F hW 21 0 ⟨by decide, rfl⟩ rfl (12 * i + k) (by omega) (by decide) (v := sg 21 0 (12 * i + k)) (by exact congrFun e21 _) dX4_storyOf_57 ?_
        refine kx_cS (na := 2) F (c_X4_minutes l G z0 ad nb (kx_up (kx_up s1 30 0 (upd (s1 30 0) k (-1))) 31 0 (upd (s1 31 0) k 0)) 0 (sg 21 0 (12 * i + k))) gX4_storyOf_X4_minutes rfl (by decide +kernel) ⟨Nat.le_of_ble_eq_true rfl, Nat.le_of_ble_eq_true rfl⟩ hW hS (As := [.int 0, .int (sg 21 0 (12 * i + k))]) (rest := [.int (sg 22 0 (12 * i + k))]) rfl hl.1 rfl (Nat.le_of_ble_eq_true rfl) dX4_storyOf_58 ⟨by first | exact Nat.le_of_ble_eq_true rfl | omega, by first | exact Nat.le_of_ble_eq_true rfl | omega⟩ (fun r9 sg9 H locs hq hW hS => ?_)
        obtain ⟨rfl, e9⟩ := hq
        rw [e9] at hW
        refine W.eq (g2 := F0 m 61 ls [.int (tw_mn 0 (sg 21 0 (12 * i + k))), .int (sg 22 0 (12 * i + k))]) rfl ?_
        refine lv_icmp_lt (tgt := 88) hx hb dX4_storyOf_61 (by decide) (fun c_61 => ?_) (fun c_61 => ?_)
        · refine lv_iconst (v := 0) hx hb dX4_storyOf_88 (by decide) ?_
          refine lv_istore (lv' := [(6, .int 0), (5, .int (nI (12 * i + k))), (4, .int (nI k)), (3, .int mt), (2, .int b), (0, .ref (ad 14 0)), (1, .int (nI i))]) hx hb dX4_storyOf_89 hl (by decide) rfl (fun ls hl => ?_)
          have hst : tm_s sg i k = false := decide_eq_false (tw_gt c_61)
          have hda : dp_ah (tm_f sg i) (tm_s sg i) (tm_S sg i) k 0 = -1 := by rw [dp_ah, if_neg (by rw [hst]; decide)]
          have hnew := tw_mc_m1 (k := k) (w := tm_w sg i k)
          exact inner k 0 _ (by omega) (fun q m h0 h1 => by rw [← hfr q m h0 h1]; simp [kx_up, h0, h1]) (fun k1 h1 => by
            have h2 := hL k1 h1
            simpa [kx_up, upd, Nat.ne_of_lt h1] using h2) (by
            rw [hda]
            simpa [kx_up, upd] using hnew) H locs ls hW hS (lv_sub hl [0, 1, 2, 3, 4, 5, 6] rfl)
        · refine lv_aload_n hx hb dX4_storyOf_64 rfl (lv_at hl 4 rfl) ?_
          refine kx_g F inX4 hW 14 0 ⟨by decide, rfl⟩ rfl rfl 20 (by decide) L_56 (v := .ref (ad 30 0)) rfl dX4_storyOf_65 ?_
          refine lv_iload hx hb dX4_storyOf_68 (lv_at hl 1 rfl) ?_
          refine lv_aload_n hx hb dX4_storyOf_70 rfl (lv_at hl 4 rfl) ?_
          refine lv_iload hx hb dX4_storyOf_71 (lv_at hl 0 rfl) ?_
          refine kx_cV (na := 1) F (q := 14) (n := 0) (c_X4_trustOf l G z0 ad nb (kx_up (kx_up s1 30 0 (upd (s1 30 0) k (-1))) 31 0 (upd (s1 31 0) k 0)) (12 * i + k) (by omega) hw9) gX4_storyOf_X4_trustOf rfl (by decide +kernel) ⟨Nat.le_of_ble_eq_true rfl, Nat.le_of_ble_eq_true rfl⟩ hW hS ⟨by decide, rfl⟩ rfl rfl (As := [.int (nI (12 * i + k))]) (rest := [.int (nI k), .ref (ad 30 0)]) rfl hl.1 rfl (Nat.le_of_ble_eq_true rfl) dX4_storyOf_73 ⟨by first | exact Nat.le_of_ble_eq_true rfl | omega, by first | exact Nat.le_of_ble_eq_true rfl | omega⟩ (fun r9 sg9 H locs hq hW hS => ?_)
          have hq : r9 = some (.int t9) ∧ sg9 = (kx_up (kx_up s1 30 0 (upd (s1 30 0) k (-1))) 31 0 (upd (s1 31 0) k 0)) := ⟨hq.1.trans (congrArg (fun z => some (Value.int z)) (show tw_trust (s1 24 0) (s1 29 0) (tw_mk (s1 23 0 (12 * i + k))) = t9 from by rw [e24, e29, e23, ht9])), hq.2⟩
          obtain ⟨rfl, e9⟩ := hq
          rw [e9] at hW
          refine W.eq (g2 := F0 m 76 ls [.int t9, .int (nI k), .ref (ad 30 0)]) rfl ?_
          refine kx_ast F hW hS 30 0 ⟨by decide, rfl⟩ rfl k (by omega) (by decide) (x := t9) rfl dX4_storyOf_76 (fun H locs hW hS => ?_)
          have er9 : (kx_up (kx_up s1 30 0 (upd (s1 30 0) k (-1))) 31 0 (upd (s1 31 0) k 0)) 30 0 = upd (s1 30 0) k (-1) := by first | rfl | (simp only [kx_up_s]; done) | (simp [kx_up]; done)
          rw [er9] at hW
          have hW : kx_Wd G z0 ad nb (kx_up (kx_up (kx_up s1 30 0 (upd (s1 30 0) k (-1))) 31 0 (upd (s1 31 0) k 0)) 30 0 (upd (upd (s1 30 0) k (-1)) k t9)) H := hW
          refine lv_aload_n hx hb dX4_storyOf_77 rfl (lv_at hl 4 rfl) ?_
          refine kx_g F inX4 hW 14 0 ⟨by decide, rfl⟩ rfl rfl 21 (by decide) L_59 (v := .ref (ad 31 0)) rfl dX4_storyOf_78 ?_
          refine lv_iload hx hb dX4_storyOf_81 (lv_at hl 1 rfl) ?_
          refine lv_iconst (v := 1) hx hb dX4_storyOf_83 (by decide) ?_
          refine lv_iload hx hb dX4_storyOf_84 (lv_at hl 1 rfl) ?_
          refine lv_ishl hx hb dX4_storyOf_86 ?_
          refine kx_ast F hW hS 31 0 ⟨by decide, rfl⟩ rfl k (by omega) (by decide) (x := ((1 : Int32) <<< ((nI k) &&& 31))) rfl dX4_storyOf_87 (fun H locs hW hS => ?_)
          have er9 : (kx_up (kx_up (kx_up s1 30 0 (upd (s1 30 0) k (-1))) 31 0 (upd (s1 31 0) k 0)) 30 0 (upd (upd (s1 30 0) k (-1)) k t9)) 31 0 = upd (s1 31 0) k 0 := by first | rfl | (simp only [kx_up_s]; done) | (simp [kx_up]; done)
          rw [er9] at hW
          have hW : kx_Wd G z0 ad nb (kx_up (kx_up (kx_up (kx_up s1 30 0 (upd (s1 30 0) k (-1))) 31 0 (upd (s1 31 0) k 0)) 30 0 (upd (upd (s1 30 0) k (-1)) k t9)) 31 0 (upd (upd (s1 31 0) k 0) k ((1 : Int32) <<< ((nI k) &&& 31)))) H := hW
          refine lv_iconst (v := 0) hx hb dX4_storyOf_88 (by decide) ?_
          refine lv_istore (lv' := [(6, .int 0), (5, .int (nI (12 * i + k))), (4, .int (nI k)), (3, .int mt), (2, .int b), (0, .ref (ad 14 0)), (1, .int (nI i))]) hx hb dX4_storyOf_89 hl (by decide) rfl (fun ls hl => ?_)
          have hst : tm_s sg i k = true := decide_eq_true (tw_ngt c_61)
          have hda : dp_ah (tm_f sg i) (tm_s sg i) (tm_S sg i) k 0 = 0 := by rw [dp_ah, if_pos hst]
          have hnew := tw_mc_0 hk12 htb hwk
          exact inner k 0 _ (by omega) (fun q m h0 h1 => by rw [← hfr q m h0 h1]; simp [kx_up, h0, h1]) (fun k1 h1 => by
            have h2 := hL k1 h1
            simpa [kx_up, upd, Nat.ne_of_lt h1] using h2) (by
            rw [hda]
            simpa [kx_up, upd] using hnew) H locs ls hW hS (lv_sub hl [0, 1, 2, 3, 4, 5, 6] rfl)
  refine lv_iconst (v := 0) hx hb dX4_storyOf_0 (by decide) ?_
  refine lv_istore_n (lv' := [(2, .int 0), (0, .ref (ad 14 0)), (1, .int (nI i))]) hx hb dX4_storyOf_1 rfl hl (by decide) rfl (fun ls hl => ?_)
  refine lv_iconst (v := 0) hx hb dX4_storyOf_2 (by decide) ?_
  refine lv_istore_n (lv' := [(3, .int 0), (2, .int 0), (0, .ref (ad 14 0)), (1, .int (nI i))]) hx hb dX4_storyOf_3 rfl hl (by decide) rfl (fun ls hl => ?_)
  refine lv_iconst (v := 0) hx hb dX4_storyOf_4 (by decide) ?_
  refine lv_istore (lv' := [(4, .int 0), (3, .int 0), (2, .int 0), (0, .ref (ad 14 0)), (1, .int (nI i))]) hx hb dX4_storyOf_5 hl (by decide) rfl (fun ls hl => ?_)
  exact outer n 0 sg 0 0 (by omega) (fun _ _ _ _ => rfl) (fun k1 h1 => absurd h1 (Nat.not_lt_zero _)) tw_mb_0 _ _ ls hW hS (lv_sub hl [0, 1, 2, 3, 4] rfl)
