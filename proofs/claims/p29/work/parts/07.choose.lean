theorem tw_trust_5 {k : Nat} (hk : k ≤ 14) (h : tw_in (nI k) 0 13 = true) : ¬ nI k = 14 := by
  intro e
  rw [e] at h
  exact absurd h (by decide)
theorem tw_trust_6 {k : Nat} (hk : k ≤ 14) (h : tw_in (nI k) 0 13 = false) : nI k = 14 := by
  have h2 := (tw_in_iff' _ _ _).mp h
  rw [nI_toInt (by omega), show ((0 : Int32)).toInt = 0 from rfl, show ((13 : Int32)).toInt = 13 from rfl] at h2
  rw [show k = 14 by omega]
  rfl

set_option maxHeartbeats 4000000 in
set_option maxRecDepth 100000 in
/-- the trust of who makes scans -/
theorem c_X3_trustOf (l : Launch) (G : kx_G) (z0 : Nat) (ad : kx_A) (nb : Nat) (sg : kx_S) (k : Nat) (hk : k ≤ 14) : kx_M l yX3_trustOf wsX3_trustOf 1 22 0 0 G z0 ad nb sg [.ref (ad 0 0), .int (nI k)] (fun r sg' => r = some (.int (tw_trust (sg 3 0) (fun d => sg 8 d 1) k)) ∧ sg' = sg) := by
  refine Met.ofW (cc := cX3_trustOf) (maxL := 2) (ret := (some .int)) (by decide) rfl ?_
  intro p e s m args below meth c s₁ B hml hv
  obtain ⟨rfl, hW, hV⟩ := hv
  have hts := atoms_spec (ws := wsX3_trustOf) B.pre
  have F : kx_F p s m c cX3_trustOf 2 RX3 _ wsX3_trustOf G z0 := ⟨B.exec, B.bytes, hml, findClass_of_methodNamed B.named, hts, hV⟩
  have hx := B.exec; have hb := B.bytes; have hr := B.returns; have hlocks := B.notSynchronized
  have hS : va_S (kx_Ad z0) s.heap s.heap [] := va_S.rf
  have L_130 : Cond.fieldLink RX3 130 (TX1 1).1 (TX1 1).2.1 (TX1 1).2.2.1 ∈ wsX3_trustOf := by decide +kernel
  have L_17 : Cond.fieldLink RX3 17 (TX3 1).1 (TX3 1).2.1 (TX3 1).2.2.1 ∈ wsX3_trustOf := by decide +kernel
  have L_21 : Cond.fieldLink RX3 21 (TX3 2).1 (TX3 2).2.1 (TX3 2).2.2.1 ∈ wsX3_trustOf := by decide +kernel
  have inX1 : ∀ w ∈ u_ws RX1 TX1 5, w ∈ wsX3_trustOf := by decide +kernel
  have inX3 : ∀ w ∈ u_ws RX3 TX3 9, w ∈ wsX3_trustOf := by decide +kernel
  have hl := lv_entry ([.ref (ad 0 0), .int (nI k)]) (n := 2) (Nat.le_of_ble_eq_true rfl)
  rw [lg_entry_eq]
  generalize (lg_sl ([.ref (ad 0 0), .int (nI k)]) ++ List.replicate (2 - (lg_sl ([.ref (ad 0 0), .int (nI k)])).length) Slot.unset).toArray = ls at hl ⊢
  have hl : lv_has ls 2 [(0, .ref (ad 0 0)), (1, .int (nI k))] := hl
  refine lv_iload_n hx hb dX3_trustOf_0 rfl (lv_at hl 1 rfl) ?_
  refine lv_iconst (v := 0) hx hb dX3_trustOf_1 (by decide) ?_
  refine lv_bipush (v := 13) hx hb dX3_trustOf_2 (by decide) ?_
  refine kx_cS (na := 3) F (c_X3_isWithin l G z0 ad nb sg (nI k) 0 13) gX3_trustOf_X3_isWithin rfl (by decide +kernel) ⟨Nat.le_of_ble_eq_true rfl, Nat.le_of_ble_eq_true rfl⟩ hW hS (As := [.int (nI k), .int 0, .int 13]) (rest := []) rfl hl.1 rfl (Nat.le_of_ble_eq_true rfl) dX3_trustOf_4 ⟨by first | exact Nat.le_of_ble_eq_true rfl | omega, by first | exact Nat.le_of_ble_eq_true rfl | omega⟩ (fun r9 sg9 H locs hq hW hS => ?_)
  obtain ⟨rfl, e9⟩ := hq
  rw [e9] at hW
  refine W.eq (g2 := F0 m 7 ls [.int (tw_b (tw_in (nI k) 0 13))]) rfl ?_
  refine lv_if_ne (tgt := 13) hx hb dX3_trustOf_7 (by decide) (fun c_7 => ?_) (fun c_7 => ?_)
  · have c_3 : ¬ nI k = 14 := tw_trust_5 hk (tw_b_1 c_7)
    refine lv_iload_n hx hb dX3_trustOf_13 rfl (lv_at hl 1 rfl) ?_
    refine lv_iconst (v := 4) hx hb dX3_trustOf_14 (by decide) ?_
    refine lv_icmp_lt (tgt := 34) hx hb dX3_trustOf_15 (by decide) (fun c_15 => ?_) (fun c_15 => ?_)
    · refine lv_aload_n hx hb dX3_trustOf_34 rfl (lv_at hl 0 rfl) ?_
      refine kx_g F inX3 hW 0 0 ⟨by decide, rfl⟩ rfl rfl 2 (by decide) L_21 (v := .ref (ad 3 0)) rfl dX3_trustOf_35 ?_
      refine lv_iload_n hx hb dX3_trustOf_38 rfl (lv_at hl 1 rfl) ?_
      refine kx_ald F hW 3 0 ⟨by decide, rfl⟩ rfl k (by have := tw_trust_0 c_3; omega) (by decide) (v := sg 3 0 k) rfl dX3_trustOf_39 ?_
      exact kx_ri F hr hlocks hW hS (by first | exact Nat.le_of_ble_eq_true rfl | omega) (by first | exact Nat.le_of_ble_eq_true rfl | omega) (⟨congrArg (fun z => some (Value.int z)) (by rw [tw_trust, if_neg (tw_trust_0 c_3), if_neg (fun h => absurd (tw_trust_3 hk c_15) (by omega))]), rfl⟩) dX3_trustOf_40
    · refine lv_aload_n hx hb dX3_trustOf_18 rfl (lv_at hl 0 rfl) ?_
      refine kx_g F inX3 hW 0 0 ⟨by decide, rfl⟩ rfl rfl 1 (by decide) L_17 (v := .ref (ad 2 0)) rfl dX3_trustOf_19 ?_
      refine lv_iload_n hx hb dX3_trustOf_22 rfl (lv_at hl 1 rfl) ?_
      refine lv_iconst (v := 4) hx hb dX3_trustOf_23 (by decide) ?_
      refine lv_isub hx hb dX3_trustOf_24 ?_
      have h14 := tw_trust_0 c_3
      have h4 := tw_trust_4 hk c_15
      rw [show nI k - 4 = nI (k - 4) from pk_sub (b := 4) h4]
      refine kx_aaldD F hW (k - 4) (by omega) dX3_trustOf_25 ?_
      refine kx_g F inX1 hW 8 (k - 4) (show k - 4 < 10 by omega) rfl rfl 1 (by decide) L_130 (v := .int ((sg 8 (k - 4)) 1)) rfl dX3_trustOf_26 ?_
      refine lv_if_eq (tgt := 34) hx hb dX3_trustOf_29 (by decide) (fun c_29 => ?_) (fun c_29 => ?_)
      · refine lv_aload_n hx hb dX3_trustOf_34 rfl (lv_at hl 0 rfl) ?_
        refine kx_g F inX3 hW 0 0 ⟨by decide, rfl⟩ rfl rfl 2 (by decide) L_21 (v := .ref (ad 3 0)) rfl dX3_trustOf_35 ?_
        refine lv_iload_n hx hb dX3_trustOf_38 rfl (lv_at hl 1 rfl) ?_
        refine kx_ald F hW 3 0 ⟨by decide, rfl⟩ rfl k (by have := tw_trust_0 c_3; omega) (by decide) (v := sg 3 0 k) rfl dX3_trustOf_39 ?_
        exact kx_ri F hr hlocks hW hS (by first | exact Nat.le_of_ble_eq_true rfl | omega) (by first | exact Nat.le_of_ble_eq_true rfl | omega) (⟨congrArg (fun z => some (Value.int z)) (by rw [tw_trust, if_neg (tw_trust_0 c_3), if_neg (fun h => h.2 c_29)]), rfl⟩) dX3_trustOf_40
      · refine lv_iconst (v := 1) hx hb dX3_trustOf_32 (by decide) ?_
        exact kx_ri F hr hlocks hW hS (by first | exact Nat.le_of_ble_eq_true rfl | omega) (by first | exact Nat.le_of_ble_eq_true rfl | omega) (⟨congrArg (fun z => some (Value.int z)) (by rw [tw_trust, if_neg (tw_trust_0 c_3), if_pos ⟨h4, c_29⟩]), rfl⟩) dX3_trustOf_33
  · have c_3 : nI k = 14 := tw_trust_6 hk (tw_b_0 c_7)
    refine lv_bipush (v := 50) hx hb dX3_trustOf_10 (by decide) ?_
    exact kx_ri F hr hlocks hW hS (by first | exact Nat.le_of_ble_eq_true rfl | omega) (by first | exact Nat.le_of_ble_eq_true rfl | omega) (⟨congrArg (fun z => some (Value.int z)) ((tw_trust_1 hk c_3).symm), rfl⟩) dX3_trustOf_12

set_option maxHeartbeats 4000000 in
set_option maxRecDepth 100000 in
/-- the worth of each scan -/
theorem c_X3_weighScans (l : Launch) (G : kx_G) (z0 : Nat) (ad : kx_A) (nb : Nat) (sg : kx_S) (i : Nat) (hi : i < nb) (n : Nat) (hn : sg 9 i 6 = nI n) (h12 : n ≤ 12) (hm : ∀ k, k < n → ∃ j : Nat, j ≤ 14 ∧ sg 12 i k = nI j) : kx_M l yX3_weighScans wsX3_weighScans 2 43 0 0 G z0 ad nb sg [.ref (ad 0 0), .ref (ad 9 i)] (fun r sg' => r = none ∧ ∃ f : Nat → Int32, sg' = kx_up sg 6 0 f ∧ ∀ k, k < n → f k = tw_w (sg 3 0) (fun d => sg 8 d 1) (sg 12 i) k) := by
  refine Met.ofW (cc := cX3_weighScans) (maxL := 3) (ret := none) (by decide) rfl ?_
  intro p e s m args below meth c s₁ B hml hv
  obtain ⟨rfl, hW, hV⟩ := hv
  have hts := atoms_spec (ws := wsX3_weighScans) B.pre
  have F : kx_F p s m c cX3_weighScans 3 RX3 _ wsX3_weighScans G z0 := ⟨B.exec, B.bytes, hml, findClass_of_methodNamed B.named, hts, hV⟩
  have hx := B.exec; have hb := B.bytes; have hr := B.returns; have hlocks := B.notSynchronized
  have hS : va_S (kx_Ad z0) s.heap s.heap [] := va_S.rf
  have L_171 : Cond.fieldLink RX3 171 (TX0 6).1 (TX0 6).2.1 (TX0 6).2.2.1 ∈ wsX3_weighScans := by decide +kernel
  have L_232 : Cond.fieldLink RX3 232 (TX0 4).1 (TX0 4).2.1 (TX0 4).2.2.1 ∈ wsX3_weighScans := by decide +kernel
  have L_32 : Cond.fieldLink RX3 32 (TX3 4).1 (TX3 4).2.1 (TX3 4).2.2.1 ∈ wsX3_weighScans := by decide +kernel
  have inX0 : ∀ w ∈ u_ws RX0 TX0 11, w ∈ wsX3_weighScans := by decide +kernel
  have inX3 : ∀ w ∈ u_ws RX3 TX3 9, w ∈ wsX3_weighScans := by decide +kernel
  have hl := lv_entry ([.ref (ad 0 0), .ref (ad 9 i)]) (n := 3) (Nat.le_of_ble_eq_true rfl)
  rw [lg_entry_eq]
  generalize (lg_sl ([.ref (ad 0 0), .ref (ad 9 i)]) ++ List.replicate (3 - (lg_sl ([.ref (ad 0 0), .ref (ad 9 i)])).length) Slot.unset).toArray = ls at hl ⊢
  have hl : lv_has ls 3 [(0, .ref (ad 0 0)), (1, .ref (ad 9 i))] := hl
  have loop : ∀ (j k : Nat) (f : Nat → Int32), n = k + j → (∀ k1, k1 < k → f k1 = tw_w (sg 3 0) (fun d => sg 8 d 1) (sg 12 i) k1) → ∀ (H : Heap) (locs : List Loc) (ls : Array Slot), kx_Wd G z0 ad nb (kx_up sg 6 0 f) H → va_S (kx_Ad z0) s.heap H locs → lv_has ls 3 [(2, .int (nI k)), (0, .ref (ad 0 0)), (1, .ref (ad 9 i))] → W p l e (headSpec wsX3_weighScans { frames := 2, cells := 0, slots := 0, locals := 43 }).room s m ([.ref (ad 0 0), .ref (ad 9 i)] : List Value).toArray below meth c H locs 0 0 (MQ below (kx_Q G z0 ad nb (fun r sg' => r = none ∧ ∃ f : Nat → Int32, sg' = kx_up sg 6 0 f ∧ ∀ k, k < n → f k = tw_w (sg 3 0) (fun d => sg 8 d 1) (sg 12 i) k)) ([.ref (ad 0 0), .ref (ad 9 i)] : List Value).toArray s 0 0 (kx_Ad z0)) (F0 m 2 ls []) := by
    intro j
    induction j with
    | zero =>
      intro k f hk hL H locs ls hW hS hl
      refine lv_iload_n hx hb dX3_weighScans_2 rfl (lv_at hl 0 rfl) ?_
      refine lv_aload_n hx hb dX3_weighScans_3 rfl (lv_at hl 2 rfl) ?_
      refine kx_g F inX0 hW 9 i hi rfl rfl 6 (by decide) L_171 (v := .int (nI n)) (by exact congrArg (fun z => some (Value.int z)) hn) dX3_weighScans_4 ?_
      refine lv_icmp_ge (tgt := 40) hx hb dX3_weighScans_7 (by decide) (fun c_7 => ?_) (fun c_7 => ?_)
      · exact kx_rv F hr hlocks hW hS (by first | exact Nat.le_of_ble_eq_true rfl | omega) (by first | exact Nat.le_of_ble_eq_true rfl | omega) (⟨rfl, f, rfl, fun k1 h1 => hL k1 (by omega)⟩) dX3_weighScans_40
      · exact absurd (nI_le (by omega) (by omega)) c_7
    | succ j ih =>
      intro k f hk hL H locs ls hW hS hl
      refine lv_iload_n hx hb dX3_weighScans_2 rfl (lv_at hl 0 rfl) ?_
      refine lv_aload_n hx hb dX3_weighScans_3 rfl (lv_at hl 2 rfl) ?_
      refine kx_g F inX0 hW 9 i hi rfl rfl 6 (by decide) L_171 (v := .int (nI n)) (by exact congrArg (fun z => some (Value.int z)) hn) dX3_weighScans_4 ?_
      refine lv_icmp_ge (tgt := 40) hx hb dX3_weighScans_7 (by decide) (fun c_7 => ?_) (fun c_7 => ?_)
      · exact absurd c_7 (nI_ge (by omega) (by omega))
      · refine lv_aload_n hx hb dX3_weighScans_10 rfl (lv_at hl 1 rfl) ?_
        refine kx_g F inX3 hW 0 0 ⟨by decide, rfl⟩ rfl rfl 4 (by decide) L_32 (v := .ref (ad 6 0)) rfl dX3_weighScans_11 ?_
        refine lv_iload_n hx hb dX3_weighScans_14 rfl (lv_at hl 0 rfl) ?_
        refine lv_aload_n hx hb dX3_weighScans_15 rfl (lv_at hl 1 rfl) ?_
        refine lv_aload_n hx hb dX3_weighScans_16 rfl (lv_at hl 2 rfl) ?_
        refine kx_g F inX0 hW 9 i hi rfl rfl 4 (by decide) L_232 (v := .ref (ad 12 i)) rfl dX3_weighScans_17 ?_
        refine lv_iload_n hx hb dX3_weighScans_20 rfl (lv_at hl 0 rfl) ?_
        refine kx_ald F hW 12 i hi rfl k (by omega) (by decide) (v := sg 12 i k) (by first | rfl | (simp only [kx_up_s]; done) | (simp only [kx_up_s, upd_s]; done) | (simp only [kx_up_s]; rfl) | (simp [kx_up, upd]; done)) dX3_weighScans_21 ?_
        obtain ⟨m9, hm9, em9⟩ := hm k (by omega)
        rw [em9]
        refine kx_cV (na := 1) F (q := 0) (n := 0) (c_X3_trustOf l G z0 ad nb (kx_up sg 6 0 f) m9 hm9) gX3_weighScans_X3_trustOf rfl (by decide +kernel) ⟨Nat.le_of_ble_eq_true rfl, Nat.le_of_ble_eq_true rfl⟩ hW hS ⟨by decide, rfl⟩ rfl rfl (As := [.int (nI m9)]) (rest := [.int (nI k), .ref (ad 6 0)]) rfl hl.1 rfl (Nat.le_of_ble_eq_true rfl) dX3_weighScans_22 ⟨by first | exact Nat.le_of_ble_eq_true rfl | omega, by first | exact Nat.le_of_ble_eq_true rfl | omega⟩ (fun r9 sg9 H locs hq hW hS => ?_)
        obtain ⟨rfl, e9⟩ := hq
        rw [e9] at hW
        refine W.eq (g2 := F0 m 25 ls [.int (tw_trust (sg 3 0) (fun d => (kx_up sg 6 0 f) 8 d 1) m9), .int (nI k), .ref (ad 6 0)]) rfl ?_
        refine lv_sipush (v := 4096) hx hb dX3_weighScans_25 (by decide) ?_
        refine lv_imul hx hb dX3_weighScans_28 ?_
        refine lv_iconst (v := 1) hx hb dX3_weighScans_29 (by decide) ?_
        refine lv_iload_n hx hb dX3_weighScans_30 rfl (lv_at hl 0 rfl) ?_
        refine lv_ishl hx hb dX3_weighScans_31 ?_
        refine lv_iadd hx hb dX3_weighScans_32 ?_
        refine kx_ast F hW hS 6 0 ⟨by decide, rfl⟩ rfl k (by omega) (by decide) (x := (((tw_trust (sg 3 0) (fun d => (kx_up sg 6 0 f) 8 d 1) m9) * 4096) + ((1 : Int32) <<< ((nI k) &&& 31)))) rfl dX3_weighScans_33 (fun H locs hW hS => ?_)
        have er9 : (kx_up sg 6 0 f) 6 0 = f := by first | rfl | (simp only [kx_up_s]; done) | (simp [kx_up]; done)
        rw [er9] at hW
        rw [kx_up_up] at hW
        have hW : kx_Wd G z0 ad nb (kx_up sg 6 0 (upd f k (((tw_trust (sg 3 0) (fun d => (kx_up sg 6 0 f) 8 d 1) m9) * 4096) + ((1 : Int32) <<< ((nI k) &&& 31))))) H := hW
        refine lv_iinc (v := nI (k + 1)) (lv' := [(2, .int (nI (k + 1))), (0, .ref (ad 0 0)), (1, .ref (ad 9 i))]) hx hb dX3_weighScans_34 hl (k := 0) rfl (nI_1 k) (by decide) rfl (fun ls hl => ?_)
        refine lv_goto (tgt := 2) hx hb dX3_weighScans_37 (by decide) ?_
        exact ih (k + 1) _ (by omega) (fun k1 h1 => by
          by_cases e1 : k1 = k
          · subst e1
            rw [upd_s, tw_w, em9, nI_clamp (by omega)]
            rfl
          · rw [upd_n e1]
            exact hL k1 (by omega)) H locs ls hW hS (lv_sub hl [0, 1, 2] rfl)
  refine lv_iconst (v := 0) hx hb dX3_weighScans_0 (by decide) ?_
  refine lv_istore_n (lv' := [(2, .int 0), (0, .ref (ad 0 0)), (1, .ref (ad 9 i))]) hx hb dX3_weighScans_1 rfl hl (by decide) rfl (fun ls hl => ?_)
  exact loop n 0 (sg 6 0) (by omega) (fun k1 h1 => absurd h1 (Nat.not_lt_zero _)) _ _ ls (by rw [kx_up_id]; exact hW) hS (lv_sub hl [0, 1, 2] rfl)

set_option maxHeartbeats 4000000 in
set_option maxRecDepth 100000 in
/-- the story that counts, scan by scan -/
theorem c_X0_chooseStory (l : Launch) (G : kx_G) (z0 : Nat) (ad : kx_A) (nb : Nat) (sg : kx_S) (i : Nat) (hi : i < nb) (n : Nat) (hn : sg 9 i 6 = nI n) (h12 : n ≤ 12) (hw : ∀ k, k < n → 0 < (sg 6 0 k).toInt ∧ (sg 6 0 k).toInt ≤ 300000) : kx_M l yX0_chooseStory wsX0_chooseStory 1 23 0 0 G z0 ad nb sg [.ref (ad 9 i), .ref (ad 6 0), .ref (ad 7 0)] (fun r sg' => r = none ∧ ∃ f : Nat → Int32, sg' = kx_up (kx_up sg 7 0 f) 9 i (upd (sg 9 i) 7 (nI ((dp_best (dp_S (fun k => (sg 6 0 k).toInt) (fun j k => tw_tru (sg 13 i k) (nI j)) (fun k => tw_tru (sg 13 i k) 12)) n).toNat % 4096)))) := by
  refine Met.ofW (cc := cX0_chooseStory) (maxL := 7) (ret := none) (by decide) rfl ?_
  intro p e s m args below meth c s₁ B hml hv
  obtain ⟨rfl, hW, hV⟩ := hv
  have hts := atoms_spec (ws := wsX0_chooseStory) B.pre
  have F : kx_F p s m c cX0_chooseStory 7 RX0 _ wsX0_chooseStory G z0 := ⟨B.exec, B.bytes, hml, findClass_of_methodNamed B.named, hts, hV⟩
  have hx := B.exec; have hb := B.bytes; have hr := B.returns; have hlocks := B.notSynchronized
  have hS : va_S (kx_Ad z0) s.heap s.heap [] := va_S.rf
  have L_24 : Cond.fieldLink RX0 24 (TX0 6).1 (TX0 6).2.1 (TX0 6).2.2.1 ∈ wsX0_chooseStory := by decide +kernel
  have L_28 : Cond.fieldLink RX0 28 (TX0 7).1 (TX0 7).2.1 (TX0 7).2.2.1 ∈ wsX0_chooseStory := by decide +kernel
  have inX0 : ∀ w ∈ u_ws RX0 TX0 11, w ∈ wsX0_chooseStory := by decide +kernel
  have hl := lv_entry ([.ref (ad 9 i), .ref (ad 6 0), .ref (ad 7 0)]) (n := 7) (Nat.le_of_ble_eq_true rfl)
  rw [lg_entry_eq]
  generalize (lg_sl ([.ref (ad 9 i), .ref (ad 6 0), .ref (ad 7 0)]) ++ List.replicate (7 - (lg_sl ([.ref (ad 9 i), .ref (ad 6 0), .ref (ad 7 0)])).length) Slot.unset).toArray = ls at hl ⊢
  have hl : lv_has ls 7 [(0, .ref (ad 9 i)), (1, .ref (ad 6 0)), (2, .ref (ad 7 0))] := hl
  have hSb : ∀ k, k < n → -1 ≤ (dp_S (fun k => (sg 6 0 k).toInt) (fun j k => tw_tru (sg 13 i k) (nI j)) (fun k => tw_tru (sg 13 i k) 12)) k ∧ (dp_S (fun k => (sg 6 0 k).toInt) (fun j k => tw_tru (sg 13 i k) (nI j)) (fun k => tw_tru (sg 13 i k) 12)) k ≤ 3600000 := fun k hk => by
    have h9 := dp_S_bd (w := (fun k => (sg 6 0 k).toInt)) (fo := (fun j k => tw_tru (sg 13 i k) (nI j))) (st := (fun k => tw_tru (sg 13 i k) 12)) (B := 300000) (by decide) n hw k hk
    have h8 : ((k : Int) + 1) * 300000 ≤ 3600000 := by omega
    exact ⟨h9.1, Int.le_trans h9.2 h8⟩
  have outer : ∀ (j k : Nat) (f : Nat → Int32) (g : Int32), n = k + j → (∀ k1, k1 < k → (f k1).toInt = (dp_S (fun k => (sg 6 0 k).toInt) (fun j k => tw_tru (sg 13 i k) (nI j)) (fun k => tw_tru (sg 13 i k) 12)) k1) → g.toInt = dp_best (dp_S (fun k => (sg 6 0 k).toInt) (fun j k => tw_tru (sg 13 i k) (nI j)) (fun k => tw_tru (sg 13 i k) 12)) k → ∀ (H : Heap) (locs : List Loc) (ls : Array Slot), kx_Wd G z0 ad nb (kx_up sg 7 0 f) H → va_S (kx_Ad z0) s.heap H locs → lv_has ls 7 [(4, .int (nI k)), (3, .int g), (0, .ref (ad 9 i)), (1, .ref (ad 6 0)), (2, .ref (ad 7 0))] → W p l e (headSpec wsX0_chooseStory { frames := 1, cells := 0, slots := 0, locals := 23 }).room s m ([.ref (ad 9 i), .ref (ad 6 0), .ref (ad 7 0)] : List Value).toArray below meth c H locs 0 0 (MQ below (kx_Q G z0 ad nb (fun r sg' => r = none ∧ ∃ f : Nat → Int32, sg' = kx_up (kx_up sg 7 0 f) 9 i (upd (sg 9 i) 7 (nI ((dp_best (dp_S (fun k => (sg 6 0 k).toInt) (fun j k => tw_tru (sg 13 i k) (nI j)) (fun k => tw_tru (sg 13 i k) 12)) n).toNat % 4096))))) ([.ref (ad 9 i), .ref (ad 6 0), .ref (ad 7 0)] : List Value).toArray s 0 0 (kx_Ad z0)) (F0 m 5 ls []) := by
    intro j
    induction j with
    | zero =>
      intro k f g hk hL hg H locs ls hW hS hl
      refine lv_iload hx hb dX0_chooseStory_5 (lv_at hl 0 rfl) ?_
      refine lv_aload_n hx hb dX0_chooseStory_7 rfl (lv_at hl 2 rfl) ?_
      refine kx_g F inX0 hW 9 i hi rfl rfl 6 (by decide) L_24 (v := .int (nI n)) (by exact congrArg (fun z => some (Value.int z)) hn) dX0_chooseStory_8 ?_
      refine lv_icmp_ge (tgt := 105) hx hb dX0_chooseStory_11 (by decide) (fun c_11 => ?_) (fun c_11 => ?_)
      · refine lv_aload_n hx hb dX0_chooseStory_105 rfl (lv_at hl 2 rfl) ?_
        refine lv_iload_n hx hb dX0_chooseStory_106 rfl (lv_at hl 1 rfl) ?_
        refine lv_sipush (v := 4096) hx hb dX0_chooseStory_107 (by decide) ?_
        refine lv_irem hx hb dX0_chooseStory_110 (by decide) ?_
        have hb9 := dp_best_bd (S := (dp_S (fun k => (sg 6 0 k).toInt) (fun j k => tw_tru (sg 13 i k) (nI j)) (fun k => tw_tru (sg 13 i k) 12))) (M := 3600000) (by decide) n (fun k1 h1 => (hSb k1 h1).2)
        rw [show k = n by omega] at hg
        rw [tw_rem hg hb9.1]
        refine kx_p F inX0 tyX0 tyX0_ok nmX0 hW hS 9 i hi rfl rfl 7 (by decide) L_28 rfl (v := .int (nI ((dp_best (dp_S (fun k => (sg 6 0 k).toInt) (fun j k => tw_tru (sg 13 i k) (nI j)) (fun k => tw_tru (sg 13 i k) 12)) n).toNat % 4096))) rfl rfl (Nat.le_of_ble_eq_true rfl) (upd ((kx_up sg 7 0 f) 9 i) 7 (nI ((dp_best (dp_S (fun k => (sg 6 0 k).toInt) (fun j k => tw_tru (sg 13 i k) (nI j)) (fun k => tw_tru (sg 13 i k) 12)) n).toNat % 4096))) rfl dX0_chooseStory_111 (fun H locs hW hS => ?_)
        have er9 : (kx_up sg 7 0 f) 9 i = sg 9 i := by first | rfl | (simp only [kx_up_s]; done) | (simp [kx_up]; done)
        rw [er9] at hW
        have hW : kx_Wd G z0 ad nb (kx_up (kx_up sg 7 0 f) 9 i (upd (sg 9 i) 7 (nI ((dp_best (dp_S (fun k => (sg 6 0 k).toInt) (fun j k => tw_tru (sg 13 i k) (nI j)) (fun k => tw_tru (sg 13 i k) 12)) n).toNat % 4096)))) H := hW
        exact kx_rv F hr hlocks hW hS (by first | exact Nat.le_of_ble_eq_true rfl | omega) (by first | exact Nat.le_of_ble_eq_true rfl | omega) (⟨rfl, f, rfl⟩) dX0_chooseStory_114
      · exact absurd (nI_le (by omega) (by omega)) c_11
    | succ j ih =>
      intro k f g hk hL hg H locs ls hW hS hl
      have inner : ∀ (jj j1 : Nat) (a : Int32), k = j1 + jj → a.toInt = dp_ah (fun j k => tw_tru (sg 13 i k) (nI j)) (fun k => tw_tru (sg 13 i k) 12) (dp_S (fun k => (sg 6 0 k).toInt) (fun j k => tw_tru (sg 13 i k) (nI j)) (fun k => tw_tru (sg 13 i k) 12)) k j1 → ∀ (H : Heap) (locs : List Loc) (ls : Array Slot), kx_Wd G z0 ad nb (kx_up sg 7 0 f) H → va_S (kx_Ad z0) s.heap H locs → lv_has ls 7 [(6, .int (nI j1)), (5, .int a), (4, .int (nI k)), (3, .int g), (0, .ref (ad 9 i)), (1, .ref (ad 6 0)), (2, .ref (ad 7 0))] → W p l e (headSpec wsX0_chooseStory { frames := 1, cells := 0, slots := 0, locals := 23 }).room s m ([.ref (ad 9 i), .ref (ad 6 0), .ref (ad 7 0)] : List Value).toArray below meth c H locs 0 0 (MQ below (kx_Q G z0 ad nb (fun r sg' => r = none ∧ ∃ f : Nat → Int32, sg' = kx_up (kx_up sg 7 0 f) 9 i (upd (sg 9 i) 7 (nI ((dp_best (dp_S (fun k => (sg 6 0 k).toInt) (fun j k => tw_tru (sg 13 i k) (nI j)) (fun k => tw_tru (sg 13 i k) 12)) n).toNat % 4096))))) ([.ref (ad 9 i), .ref (ad 6 0), .ref (ad 7 0)] : List Value).toArray s 0 0 (kx_Ad z0)) (F0 m 34 ls []) := by
        intro jj
        induction jj with
        | zero =>
          intro j1 a hj ha H locs ls hW hS hl
          rw [show j1 = k by omega] at ha
          have hlo := dp_ah_lo (fo := (fun j k => tw_tru (sg 13 i k) (nI j))) (st := (fun k => tw_tru (sg 13 i k) 12)) (S := (dp_S (fun k => (sg 6 0 k).toInt) (fun j k => tw_tru (sg 13 i k) (nI j)) (fun k => tw_tru (sg 13 i k) 12))) (k := k) k
          have hbk := hSb k (by omega)
          have hbe := dp_best_bd (S := (dp_S (fun k => (sg 6 0 k).toInt) (fun j k => tw_tru (sg 13 i k) (nI j)) (fun k => tw_tru (sg 13 i k) 12))) (M := 3600000) (by decide) k (fun k1 h1 => (hSb k1 (by omega)).2)
          have hS1 : (dp_S (fun k => (sg 6 0 k).toInt) (fun j k => tw_tru (sg 13 i k) (nI j)) (fun k => tw_tru (sg 13 i k) 12)) k = if dp_ah (fun j k => tw_tru (sg 13 i k) (nI j)) (fun k => tw_tru (sg 13 i k) 12) (dp_S (fun k => (sg 6 0 k).toInt) (fun j k => tw_tru (sg 13 i k) (nI j)) (fun k => tw_tru (sg 13 i k) 12)) k k = -1 then -1 else dp_ah (fun j k => tw_tru (sg 13 i k) (nI j)) (fun k => tw_tru (sg 13 i k) 12) (dp_S (fun k => (sg 6 0 k).toInt) (fun j k => tw_tru (sg 13 i k) (nI j)) (fun k => tw_tru (sg 13 i k) 12)) k k + (sg 6 0 k).toInt := dp_S_eq (fun k => (sg 6 0 k).toInt) (fun j k => tw_tru (sg 13 i k) (nI j)) (fun k => tw_tru (sg 13 i k) 12) k
          have hhi := dp_ah_hi (fo := (fun j k => tw_tru (sg 13 i k) (nI j))) (st := (fun k => tw_tru (sg 13 i k) 12)) (S := (dp_S (fun k => (sg 6 0 k).toInt) (fun j k => tw_tru (sg 13 i k) (nI j)) (fun k => tw_tru (sg 13 i k) 12))) (k := k) (M := 3600000) (by decide) k (fun i1 h1 => (hSb i1 (by omega)).2)
          have hwk := hw k (by omega)
          refine lv_iload hx hb dX0_chooseStory_34 (lv_at hl 0 rfl) ?_
          refine lv_iload hx hb dX0_chooseStory_36 (lv_at hl 2 rfl) ?_
          refine lv_icmp_ge (tgt := 69) hx hb dX0_chooseStory_38 (by decide) (fun c_38 => ?_) (fun c_38 => ?_)
          · refine lv_aload_n hx hb dX0_chooseStory_69 rfl (lv_at hl 6 rfl) ?_
            refine lv_iload hx hb dX0_chooseStory_70 (lv_at hl 2 rfl) ?_
            refine lv_iload hx hb dX0_chooseStory_72 (lv_at hl 1 rfl) ?_
            refine lv_iconst (v := (-1)) hx hb dX0_chooseStory_74 (by decide) ?_
            refine lv_icmp_ne (tgt := 82) hx hb dX0_chooseStory_75 (by decide) (fun c_75 => ?_) (fun c_75 => ?_)
            · refine lv_iload hx hb dX0_chooseStory_82 (lv_at hl 1 rfl) ?_
              refine lv_aload_n hx hb dX0_chooseStory_84 rfl (lv_at hl 5 rfl) ?_
              refine lv_iload hx hb dX0_chooseStory_85 (lv_at hl 2 rfl) ?_
              refine kx_ald F hW 6 0 ⟨by decide, rfl⟩ rfl k (by omega) (by decide) (v := sg 6 0 k) (by first | rfl | (simp only [kx_up_s]; done) | (simp only [kx_up_s, upd_s]; done) | (simp only [kx_up_s]; rfl) | (simp [kx_up, upd]; done)) dX0_chooseStory_87 ?_
              refine lv_iadd hx hb dX0_chooseStory_88 ?_
              have hne : ¬ dp_ah (fun j k => tw_tru (sg 13 i k) (nI j)) (fun k => tw_tru (sg 13 i k) 12) (dp_S (fun k => (sg 6 0 k).toInt) (fun j k => tw_tru (sg 13 i k) (nI j)) (fun k => tw_tru (sg 13 i k) 12)) k k = -1 := fun h => c_75 (Int32.toInt_inj.mp (ha.trans h))
              have hv9 : ((a + (sg 6 0 k))).toInt = (dp_S (fun k => (sg 6 0 k).toInt) (fun j k => tw_tru (sg 13 i k) (nI j)) (fun k => tw_tru (sg 13 i k) 12)) k := by
                rw [if_neg hne] at hS1
                rw [tw_addI (by rw [ha]; omega) (by rw [ha]; omega), ha, hS1]
              refine kx_ast F hW hS 7 0 ⟨by decide, rfl⟩ rfl k (by omega) (by decide) (x := (a + (sg 6 0 k))) rfl dX0_chooseStory_89 (fun H locs hW hS => ?_)
              have er9 : (kx_up sg 7 0 f) 7 0 = f := by first | rfl | (simp only [kx_up_s]; done) | (simp [kx_up]; done)
              rw [er9] at hW
              rw [kx_up_up] at hW
              have hW : kx_Wd G z0 ad nb (kx_up sg 7 0 (upd f k (a + (sg 6 0 k)))) H := hW
              refine lv_iload_n hx hb dX0_chooseStory_90 rfl (lv_at hl 3 rfl) ?_
              refine lv_aload_n hx hb dX0_chooseStory_91 rfl (lv_at hl 6 rfl) ?_
              refine lv_iload hx hb dX0_chooseStory_92 (lv_at hl 2 rfl) ?_
              refine kx_ald F hW 7 0 ⟨by decide, rfl⟩ rfl k (by omega) (by decide) (v := (a + (sg 6 0 k))) (by first | rfl | (simp only [kx_up_s]; done) | (simp only [kx_up_s, upd_s]; done) | (simp only [kx_up_s]; rfl) | (simp [kx_up, upd]; done)) dX0_chooseStory_94 ?_
              refine va_mmax hx hb (F.2.2.1.trans hl.1.symm) F.2.2.2.1 (hts (.methodLink RX0 58 Lib.Math.max.name) (by decide +kernel)) (hts (.static Lib.Math.max.name) (by decide +kernel)) (hts (.initialized "java/lang/Math") (by decide +kernel)) (hts (.code Lib.Math.max.name Lib.Math.max.code 2 (some .int)) (by decide +kernel)) (Nat.le_of_ble_eq_true rfl) (Nat.le_of_ble_eq_true rfl) (by first | exact Nat.zero_le _ | exact Nat.le_of_ble_eq_true rfl | omega) (by first | exact Nat.zero_le _ | exact Nat.le_of_ble_eq_true rfl | omega) dX0_chooseStory_95 ?_
              refine lv_istore_n (lv' := [(3, .int (if g < (a + (sg 6 0 k)) then (a + (sg 6 0 k)) else g)), (6, .int (nI j1)), (5, .int a), (4, .int (nI k)), (0, .ref (ad 9 i)), (1, .ref (ad 6 0)), (2, .ref (ad 7 0))]) hx hb dX0_chooseStory_98 rfl hl (by decide) rfl (fun ls hl => ?_)
              refine lv_iinc (v := nI (k + 1)) (lv' := [(4, .int (nI (k + 1))), (3, .int (if g < (a + (sg 6 0 k)) then (a + (sg 6 0 k)) else g)), (6, .int (nI j1)), (5, .int a), (0, .ref (ad 9 i)), (1, .ref (ad 6 0)), (2, .ref (ad 7 0))]) hx hb dX0_chooseStory_99 hl (k := 3) rfl (nI_1 k) (by decide) rfl (fun ls hl => ?_)
              refine lv_goto (tgt := 5) hx hb dX0_chooseStory_102 (by decide) ?_
              exact ih (k + 1) _ _ (by omega) (fun k1 h1 => by
                by_cases e1 : k1 = k
                · subst e1; rw [upd_s]; exact hv9
                · rw [upd_n e1]; exact hL k1 (by omega)) (by
                rw [tw_max, hg, hv9, dp_best]) H locs ls hW hS (lv_sub hl [0, 1, 4, 5, 6] rfl)
            · refine lv_iconst (v := (-1)) hx hb dX0_chooseStory_78 (by decide) ?_
              refine lv_goto (tgt := 89) hx hb dX0_chooseStory_79 (by decide) ?_
              have hv9 : ((-1 : Int32)).toInt = (dp_S (fun k => (sg 6 0 k).toInt) (fun j k => tw_tru (sg 13 i k) (nI j)) (fun k => tw_tru (sg 13 i k) 12)) k := by
                rw [hS1, if_pos (by rw [← ha, c_75]; rfl)]
                rfl
              refine kx_ast F hW hS 7 0 ⟨by decide, rfl⟩ rfl k (by omega) (by decide) (x := (-1)) rfl dX0_chooseStory_89 (fun H locs hW hS => ?_)
              have er9 : (kx_up sg 7 0 f) 7 0 = f := by first | rfl | (simp only [kx_up_s]; done) | (simp [kx_up]; done)
              rw [er9] at hW
              rw [kx_up_up] at hW
              have hW : kx_Wd G z0 ad nb (kx_up sg 7 0 (upd f k (-1))) H := hW
              refine lv_iload_n hx hb dX0_chooseStory_90 rfl (lv_at hl 3 rfl) ?_
              refine lv_aload_n hx hb dX0_chooseStory_91 rfl (lv_at hl 6 rfl) ?_
              refine lv_iload hx hb dX0_chooseStory_92 (lv_at hl 2 rfl) ?_
              refine kx_ald F hW 7 0 ⟨by decide, rfl⟩ rfl k (by omega) (by decide) (v := (-1)) (by first | rfl | (simp only [kx_up_s]; done) | (simp only [kx_up_s, upd_s]; done) | (simp only [kx_up_s]; rfl) | (simp [kx_up, upd]; done)) dX0_chooseStory_94 ?_
              refine va_mmax hx hb (F.2.2.1.trans hl.1.symm) F.2.2.2.1 (hts (.methodLink RX0 58 Lib.Math.max.name) (by decide +kernel)) (hts (.static Lib.Math.max.name) (by decide +kernel)) (hts (.initialized "java/lang/Math") (by decide +kernel)) (hts (.code Lib.Math.max.name Lib.Math.max.code 2 (some .int)) (by decide +kernel)) (Nat.le_of_ble_eq_true rfl) (Nat.le_of_ble_eq_true rfl) (by first | exact Nat.zero_le _ | exact Nat.le_of_ble_eq_true rfl | omega) (by first | exact Nat.zero_le _ | exact Nat.le_of_ble_eq_true rfl | omega) dX0_chooseStory_95 ?_
              refine lv_istore_n (lv' := [(3, .int (if g < (-1) then (-1) else g)), (6, .int (nI j1)), (5, .int a), (4, .int (nI k)), (0, .ref (ad 9 i)), (1, .ref (ad 6 0)), (2, .ref (ad 7 0))]) hx hb dX0_chooseStory_98 rfl hl (by decide) rfl (fun ls hl => ?_)
              refine lv_iinc (v := nI (k + 1)) (lv' := [(4, .int (nI (k + 1))), (3, .int (if g < (-1) then (-1) else g)), (6, .int (nI j1)), (5, .int a), (0, .ref (ad 9 i)), (1, .ref (ad 6 0)), (2, .ref (ad 7 0))]) hx hb dX0_chooseStory_99 hl (k := 3) rfl (nI_1 k) (by decide) rfl (fun ls hl => ?_)
              refine lv_goto (tgt := 5) hx hb dX0_chooseStory_102 (by decide) ?_
              exact ih (k + 1) _ _ (by omega) (fun k1 h1 => by
                by_cases e1 : k1 = k
                · subst e1; rw [upd_s]; exact hv9
                · rw [upd_n e1]; exact hL k1 (by omega)) (by
                rw [tw_max, hg, hv9, dp_best]) H locs ls hW hS (lv_sub hl [0, 1, 4, 5, 6] rfl)
          · exact absurd (nI_le (by omega) (by omega)) c_38
        | succ jj ih2 =>
          intro j1 a hj ha H locs ls hW hS hl
          refine lv_iload hx hb dX0_chooseStory_34 (lv_at hl 0 rfl) ?_
          refine lv_iload hx hb dX0_chooseStory_36 (lv_at hl 2 rfl) ?_
          refine lv_icmp_ge (tgt := 69) hx hb dX0_chooseStory_38 (by decide) (fun c_38 => ?_) (fun c_38 => ?_)
          · exact absurd c_38 (nI_ge (by omega) (by omega))
          · refine lv_aload_n hx hb dX0_chooseStory_41 rfl (lv_at hl 4 rfl) ?_
            refine lv_iload hx hb dX0_chooseStory_42 (lv_at hl 0 rfl) ?_
            refine lv_iload hx hb dX0_chooseStory_44 (lv_at hl 2 rfl) ?_
            refine kx_cV (na := 2) F (q := 9) (n := i) (c_X0_canFollow l G z0 ad nb (kx_up sg 7 0 f) i hi (nI j1) k (by omega)) gX0_chooseStory_X0_canFollow rfl (by decide +kernel) ⟨Nat.le_of_ble_eq_true rfl, Nat.le_of_ble_eq_true rfl⟩ hW hS hi rfl rfl (As := [.int (nI j1), .int (nI k)]) (rest := []) rfl hl.1 rfl (Nat.le_of_ble_eq_true rfl) dX0_chooseStory_46 ⟨by first | exact Nat.le_of_ble_eq_true rfl | omega, by first | exact Nat.le_of_ble_eq_true rfl | omega⟩ (fun r9 sg9 H locs hq hW hS => ?_)
            obtain ⟨rfl, e9⟩ := hq
            rw [e9] at hW
            refine W.eq (g2 := F0 m 49 ls [.int (tw_b (tw_tru ((kx_up sg 7 0 f) 13 i k) (if (nI j1) = -1 then 12 else (nI j1))))]) rfl ?_
            refine lv_if_eq (tgt := 63) hx hb dX0_chooseStory_49 (by decide) (fun c_49 => ?_) (fun c_49 => ?_)
            · refine lv_iinc (v := nI (j1 + 1)) (lv' := [(6, .int (nI (j1 + 1))), (5, .int a), (4, .int (nI k)), (3, .int g), (0, .ref (ad 9 i)), (1, .ref (ad 6 0)), (2, .ref (ad 7 0))]) hx hb dX0_chooseStory_63 hl (k := 0) rfl (nI_1 j1) (by decide) rfl (fun ls hl => ?_)
              refine lv_goto (tgt := 34) hx hb dX0_chooseStory_66 (by decide) ?_
              exact ih2 (j1 + 1) a (by omega) (by
                have h9 := tw_b_0 c_49
                rw [if_neg (tw_m1ne j1 (by omega))] at h9
                rw [ha, dp_ah, if_neg (by rw [show tw_tru (sg 13 i k) (nI j1) = false from h9]; decide)]) H locs ls hW hS (lv_sub hl [0, 1, 2, 3, 4, 5, 6] rfl)
            · refine lv_iload hx hb dX0_chooseStory_52 (lv_at hl 1 rfl) ?_
              refine lv_aload_n hx hb dX0_chooseStory_54 rfl (lv_at hl 6 rfl) ?_
              refine lv_iload hx hb dX0_chooseStory_55 (lv_at hl 0 rfl) ?_
              refine kx_ald F hW 7 0 ⟨by decide, rfl⟩ rfl j1 (by omega) (by decide) (v := f j1) (by first | rfl | (simp only [kx_up_s]; done) | (simp only [kx_up_s, upd_s]; done) | (simp only [kx_up_s]; rfl) | (simp [kx_up, upd]; done)) dX0_chooseStory_57 ?_
              refine va_mmax hx hb (F.2.2.1.trans hl.1.symm) F.2.2.2.1 (hts (.methodLink RX0 58 Lib.Math.max.name) (by decide +kernel)) (hts (.static Lib.Math.max.name) (by decide +kernel)) (hts (.initialized "java/lang/Math") (by decide +kernel)) (hts (.code Lib.Math.max.name Lib.Math.max.code 2 (some .int)) (by decide +kernel)) (Nat.le_of_ble_eq_true rfl) (Nat.le_of_ble_eq_true rfl) (by first | exact Nat.zero_le _ | exact Nat.le_of_ble_eq_true rfl | omega) (by first | exact Nat.zero_le _ | exact Nat.le_of_ble_eq_true rfl | omega) dX0_chooseStory_58 ?_
              refine lv_istore (lv' := [(5, .int (if a < (f j1) then (f j1) else a)), (6, .int (nI j1)), (4, .int (nI k)), (3, .int g), (0, .ref (ad 9 i)), (1, .ref (ad 6 0)), (2, .ref (ad 7 0))]) hx hb dX0_chooseStory_61 hl (by decide) rfl (fun ls hl => ?_)
              refine lv_iinc (v := nI (j1 + 1)) (lv' := [(6, .int (nI (j1 + 1))), (5, .int (if a < (f j1) then (f j1) else a)), (4, .int (nI k)), (3, .int g), (0, .ref (ad 9 i)), (1, .ref (ad 6 0)), (2, .ref (ad 7 0))]) hx hb dX0_chooseStory_63 hl (k := 1) rfl (nI_1 j1) (by decide) rfl (fun ls hl => ?_)
              refine lv_goto (tgt := 34) hx hb dX0_chooseStory_66 (by decide) ?_
              exact ih2 (j1 + 1) _ (by omega) (by
                have h9 := tw_b_1 c_49
                rw [if_neg (tw_m1ne j1 (by omega))] at h9
                rw [tw_max, ha, hL j1 (by omega), dp_ah, if_pos (show tw_tru (sg 13 i k) (nI j1) = true from h9)]) H locs ls hW hS (lv_sub hl [0, 1, 2, 3, 4, 5, 6] rfl)
      refine lv_iload hx hb dX0_chooseStory_5 (lv_at hl 0 rfl) ?_
      refine lv_aload_n hx hb dX0_chooseStory_7 rfl (lv_at hl 2 rfl) ?_
      refine kx_g F inX0 hW 9 i hi rfl rfl 6 (by decide) L_24 (v := .int (nI n)) (by exact congrArg (fun z => some (Value.int z)) hn) dX0_chooseStory_8 ?_
      refine lv_icmp_ge (tgt := 105) hx hb dX0_chooseStory_11 (by decide) (fun c_11 => ?_) (fun c_11 => ?_)
      · exact absurd c_11 (nI_ge (by omega) (by omega))
      · refine lv_aload_n hx hb dX0_chooseStory_14 rfl (lv_at hl 2 rfl) ?_
        refine lv_iconst (v := (-1)) hx hb dX0_chooseStory_15 (by decide) ?_
        refine lv_iload hx hb dX0_chooseStory_16 (lv_at hl 0 rfl) ?_
        refine kx_cV (na := 2) F (q := 9) (n := i) (c_X0_canFollow l G z0 ad nb (kx_up sg 7 0 f) i hi (-1) k (by omega)) gX0_chooseStory_X0_canFollow rfl (by decide +kernel) ⟨Nat.le_of_ble_eq_true rfl, Nat.le_of_ble_eq_true rfl⟩ hW hS hi rfl rfl (As := [.int (-1), .int (nI k)]) (rest := []) rfl hl.1 rfl (Nat.le_of_ble_eq_true rfl) dX0_chooseStory_18 ⟨by first | exact Nat.le_of_ble_eq_true rfl | omega, by first | exact Nat.le_of_ble_eq_true rfl | omega⟩ (fun r9 sg9 H locs hq hW hS => ?_)
        obtain ⟨rfl, e9⟩ := hq
        rw [e9] at hW
        refine W.eq (g2 := F0 m 21 ls [.int (tw_b (tw_tru ((kx_up sg 7 0 f) 13 i k) (if (-1) = -1 then 12 else (-1))))]) rfl ?_
        refine lv_if_eq (tgt := 28) hx hb dX0_chooseStory_21 (by decide) (fun c_21 => ?_) (fun c_21 => ?_)
        · refine lv_iconst (v := (-1)) hx hb dX0_chooseStory_28 (by decide) ?_
          refine lv_istore (lv' := [(5, .int (-1)), (4, .int (nI k)), (3, .int g), (0, .ref (ad 9 i)), (1, .ref (ad 6 0)), (2, .ref (ad 7 0))]) hx hb dX0_chooseStory_29 hl (by decide) rfl (fun ls hl => ?_)
          refine lv_iconst (v := 0) hx hb dX0_chooseStory_31 (by decide) ?_
          refine lv_istore (lv' := [(6, .int 0), (5, .int (-1)), (4, .int (nI k)), (3, .int g), (0, .ref (ad 9 i)), (1, .ref (ad 6 0)), (2, .ref (ad 7 0))]) hx hb dX0_chooseStory_32 hl (by decide) rfl (fun ls hl => ?_)
          have h9 := tw_b_0 c_21
          rw [if_pos rfl] at h9
          exact inner k 0 _ (by omega) (by
            rw [dp_ah, if_neg (by rw [show tw_tru (sg 13 i k) 12 = false from h9]; decide)]
            rfl) H locs ls hW hS (lv_sub hl [0, 1, 2, 3, 4, 5, 6] rfl)
        · refine lv_iconst (v := 0) hx hb dX0_chooseStory_24 (by decide) ?_
          refine lv_goto (tgt := 29) hx hb dX0_chooseStory_25 (by decide) ?_
          refine lv_istore (lv' := [(5, .int 0), (4, .int (nI k)), (3, .int g), (0, .ref (ad 9 i)), (1, .ref (ad 6 0)), (2, .ref (ad 7 0))]) hx hb dX0_chooseStory_29 hl (by decide) rfl (fun ls hl => ?_)
          refine lv_iconst (v := 0) hx hb dX0_chooseStory_31 (by decide) ?_
          refine lv_istore (lv' := [(6, .int 0), (5, .int 0), (4, .int (nI k)), (3, .int g), (0, .ref (ad 9 i)), (1, .ref (ad 6 0)), (2, .ref (ad 7 0))]) hx hb dX0_chooseStory_32 hl (by decide) rfl (fun ls hl => ?_)
          have h9 := tw_b_1 c_21
          rw [if_pos rfl] at h9
          exact inner k 0 _ (by omega) (by
            rw [dp_ah, if_pos (show tw_tru (sg 13 i k) 12 = true from h9)]
            rfl) H locs ls hW hS (lv_sub hl [0, 1, 2, 3, 4, 5, 6] rfl)
  refine lv_iconst (v := 0) hx hb dX0_chooseStory_0 (by decide) ?_
  refine lv_istore_n (lv' := [(3, .int 0), (0, .ref (ad 9 i)), (1, .ref (ad 6 0)), (2, .ref (ad 7 0))]) hx hb dX0_chooseStory_1 rfl hl (by decide) rfl (fun ls hl => ?_)
  refine lv_iconst (v := 0) hx hb dX0_chooseStory_2 (by decide) ?_
  refine lv_istore (lv' := [(4, .int 0), (3, .int 0), (0, .ref (ad 9 i)), (1, .ref (ad 6 0)), (2, .ref (ad 7 0))]) hx hb dX0_chooseStory_3 hl (by decide) rfl (fun ls hl => ?_)
  exact outer n 0 (sg 7 0) 0 (by omega) (fun k1 h1 => absurd h1 (Nat.not_lt_zero _)) rfl _ _ ls (by rw [kx_up_id]; exact hW) hS (lv_sub hl [0, 1, 2, 3, 4] rfl)
