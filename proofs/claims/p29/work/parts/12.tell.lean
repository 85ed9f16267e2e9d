theorem tw_WF_trust {nb : Nat} {sg : kx_S} {c : Nat} {y : Int32} (h : tw_WF nb sg) (hy : tw_in y 1 9 = true) : tw_WF nb (kx_up sg 3 0 (upd (sg 3 0) c y)) := by
  refine ⟨fun i hi => h.1 i hi, fun w hw => ?_⟩
  show 1 ≤ (upd (sg 3 0) c y w).toInt ∧ (upd (sg 3 0) c y w).toInt ≤ 9
  by_cases e : w = c
  · subst e
    rw [upd_s]
    exact (tw_in_iff y 1 9).mp hy
  · rw [upd_n e]
    exact h.2 w hw
theorem tw_01_fit {x : Int32} (h : tw_01 x) : fits .boolean (.int x) = true := by rcases h with h | h <;> rw [h] <;> rfl
def tw_code (b d kp : Int32) : Int32 := ((37 * b + 11 * d) + 101 * kp) - ((37 * b + 11 * d) + 101 * kp) / 1000 * 1000

set_option maxHeartbeats 1000000 in
set_option maxRecDepth 100000 in
theorem c_X3_setTrust (l : Launch) (hlf : l.stackTraces = false) (G : kx_G) (z0 : Nat) (ad : kx_A) (nb : Nat) (sg : kx_S) (hC : tw_CI nb sg) (x y : Int32) : kx_MX l yX3_setTrust wsX3_setTrust 7 111 2 12 G z0 ad nb sg [.ref (ad 0 0), .int x, .int y] (fun r sg' => ∃ c : Nat, c < 14 ∧ x = nI c ∧ tw_in y 1 9 = true ∧ r = some (.int (sg 3 0 c)) ∧ tw_SA nb (kx_up sg 3 0 (upd (sg 3 0) c y)) sg') (fun E => (E = kx_ioe ∧ (∀ c, c < 14 → ¬ x = nI c)) ∨ (E = kx_iae ∧ (∃ c : Nat, c < 14 ∧ x = nI c) ∧ tw_in y 1 9 = false)) := by
  refine vx_ofW (cc := cX3_setTrust) (maxL := 4) (ret := (some .int)) (by decide) rfl ?_
  intro p e s m args below meth c s₁ B hml htab hv
  obtain ⟨rfl, hW, hV⟩ := hv
  have hts := atoms_spec (ws := wsX3_setTrust) B.pre
  have F : kx_F p s m c cX3_setTrust 4 RX3 _ wsX3_setTrust G z0 := ⟨B.exec, B.bytes, hml, findClass_of_methodNamed B.named, hts, hV⟩
  have hx := B.exec; have hb := B.bytes; have hr := B.returns; have hlocks := B.notSynchronized
  have hS : va_S (kx_Ad z0) s.heap s.heap [] := va_S.rf
  obtain ⟨hnb, hwf, hbl, hjm, hkp, hnn⟩ := hC
  have L_21 : Cond.fieldLink RX3 21 (TX3 2).1 (TX3 2).2.1 (TX3 2).2.2.1 ∈ wsX3_setTrust := by decide +kernel
  have inX3 : ∀ w ∈ u_ws RX3 TX3 9, w ∈ wsX3_setTrust := by decide +kernel
  have hl := lv_entry ([.ref (ad 0 0), .int x, .int y]) (n := 4) (Nat.le_of_ble_eq_true rfl)
  rw [lg_entry_eq]
  generalize (lg_sl ([.ref (ad 0 0), .int x, .int y]) ++ List.replicate (4 - (lg_sl ([.ref (ad 0 0), .int x, .int y])).length) Slot.unset).toArray = ls at hl ⊢
  have hl : lv_has ls 4 [(0, .ref (ad 0 0)), (1, .int x), (2, .int y)] := hl
  refine lv_iload_n hx hb dX3_setTrust_0 rfl (lv_at hl 1 rfl) ?_
  refine kx_xS (na := 1) F (c_X3_checkWho l hlf G z0 ad nb sg x) gX3_setTrust_X3_checkWho rfl (by decide +kernel) ⟨Nat.le_of_ble_eq_true rfl, Nat.le_of_ble_eq_true rfl⟩ hW hS (As := [.int x]) (rest := []) rfl hl.1 rfl (Nat.le_of_ble_eq_true rfl) dX3_setTrust_1 ⟨by first | exact Nat.le_of_ble_eq_true rfl | omega, by first | exact Nat.le_of_ble_eq_true rfl | omega⟩ (fun E9 ce9 q9 H locs hp9 hW hS h7 h8 h9 => ?_) (fun r9 sg9 H locs hq hW hS => ?_)
  · exact kx_out htab hlocks hW hS (by first | exact Nat.le_of_ble_eq_true rfl | omega) (by first | exact Nat.le_of_ble_eq_true rfl | omega) (Or.inl hp9) h7 h8 h9
  obtain ⟨rfl, e9, c1, hc1, rfl⟩ := hq
  rw [e9] at hW
  refine W.eq (g2 := F0 m 4 ls []) rfl ?_
  refine lv_iload_n hx hb dX3_setTrust_4 rfl (lv_at hl 2 rfl) ?_
  refine lv_iconst (v := 1) hx hb dX3_setTrust_5 (by decide) ?_
  refine lv_bipush (v := 9) hx hb dX3_setTrust_6 (by decide) ?_
  refine kx_cS (na := 3) F (c_X3_isWithin l G z0 ad nb sg y 1 9) gX3_setTrust_X3_isWithin rfl (by decide +kernel) ⟨Nat.le_of_ble_eq_true rfl, Nat.le_of_ble_eq_true rfl⟩ hW hS (As := [.int y, .int 1, .int 9]) (rest := []) rfl hl.1 rfl (Nat.le_of_ble_eq_true rfl) dX3_setTrust_8 ⟨by first | exact Nat.le_of_ble_eq_true rfl | omega, by first | exact Nat.le_of_ble_eq_true rfl | omega⟩ (fun r9 sg9 H locs hq hW hS => ?_)
  obtain ⟨rfl, e9⟩ := hq
  rw [e9] at hW
  refine W.eq (g2 := F0 m 11 ls [.int (tw_b (tw_in y 1 9))]) rfl ?_
  refine lv_if_ne (tgt := 24) hx hb dX3_setTrust_11 (by decide) (fun c_11 => ?_) (fun c_11 => ?_)
  · refine lv_aload_n hx hb dX3_setTrust_24 rfl (lv_at hl 0 rfl) ?_
    refine kx_g F inX3 hW 0 0 ⟨by decide, rfl⟩ rfl rfl 2 (by decide) L_21 (v := .ref (ad 3 0)) rfl dX3_setTrust_25 ?_
    refine lv_iload_n hx hb dX3_setTrust_28 rfl (lv_at hl 1 rfl) ?_
    refine kx_ald F hW 3 0 ⟨by decide, rfl⟩ rfl c1 hc1 (by decide) (v := sg 3 0 c1) rfl dX3_setTrust_29 ?_
    refine lv_istore_n (lv' := [(3, .int (sg 3 0 c1)), (0, .ref (ad 0 0)), (1, .int (nI c1)), (2, .int y)]) hx hb dX3_setTrust_30 rfl hl (by decide) rfl (fun ls hl => ?_)
    refine lv_aload_n hx hb dX3_setTrust_31 rfl (lv_at hl 1 rfl) ?_
    refine kx_g F inX3 hW 0 0 ⟨by decide, rfl⟩ rfl rfl 2 (by decide) L_21 (v := .ref (ad 3 0)) rfl dX3_setTrust_32 ?_
    refine lv_iload_n hx hb dX3_setTrust_35 rfl (lv_at hl 2 rfl) ?_
    refine lv_iload_n hx hb dX3_setTrust_36 rfl (lv_at hl 3 rfl) ?_
    refine kx_ast F hW hS 3 0 ⟨by decide, rfl⟩ rfl c1 hc1 (by decide) (x := y) rfl dX3_setTrust_37 (fun H locs hW hS => ?_)
    have hW : kx_Wd G z0 ad nb (kx_up sg 3 0 (upd (sg 3 0) c1 y)) H := hW
    refine lv_aload_n hx hb dX3_setTrust_38 rfl (lv_at hl 1 rfl) ?_
    refine kx_cV (na := 0) F (q := 0) (n := 0) (c_X3_settleAll l G z0 ad nb (kx_up sg 3 0 (upd (sg 3 0) c1 y)) hnb (tw_WF_trust hwf (tw_b_1 c_11))) gX3_setTrust_X3_settleAll rfl (by decide +kernel) ⟨Nat.le_of_ble_eq_true rfl, Nat.le_of_ble_eq_true rfl⟩ hW hS ⟨by decide, rfl⟩ rfl rfl (As := []) (rest := []) rfl hl.1 rfl (Nat.le_of_ble_eq_true rfl) dX3_setTrust_39 ⟨by first | exact Nat.le_of_ble_eq_true rfl | omega, by first | exact Nat.le_of_ble_eq_true rfl | omega⟩ (fun r9 sg9 H locs hq hW hS => ?_)
    obtain ⟨rfl, hsa9⟩ := hq
    have hW : kx_Wd G z0 ad nb (sg9) H := by first | exact hW | (simp only [kx_up_s, kx_up_up] at hW; exact hW) | (simp only [kx_up_s, kx_up_up, upd_s] at hW; exact hW)
    refine W.eq (g2 := F0 m 42 ls []) rfl ?_
    refine lv_iload_n hx hb dX3_setTrust_42 rfl (lv_at hl 0 rfl) ?_
    refine vx_ret ?_
    exact kx_ri F hr hlocks hW hS (by first | exact Nat.le_of_ble_eq_true rfl | omega) (by first | exact Nat.le_of_ble_eq_true rfl | omega) (⟨c1, hc1, rfl, tw_b_1 c_11, rfl, hsa9⟩) dX3_setTrust_43
  · exact kx_thr F hlf htab hlocks (cls := "java/lang/IllegalArgumentException") (text := "trust is out of range") (ik := 53) (is := 72) (ic := 57) (by decide +kernel) (by decide +kernel) (by decide +kernel) (by decide +kernel) (by decide +kernel) (by decide +kernel) (by decide +kernel) hW hS hl.1 dX3_setTrust_14 dX3_setTrust_17 dX3_setTrust_18 dX3_setTrust_20 dX3_setTrust_23 (Nat.le_of_ble_eq_true rfl) (Nat.le_of_ble_eq_true rfl) (by first | exact Nat.le_of_ble_eq_true rfl | omega) (by first | exact Nat.le_of_ble_eq_true rfl | omega) (by first | exact Nat.le_of_ble_eq_true rfl | omega) (by first | exact Nat.le_of_ble_eq_true rfl | omega) (Or.inr ⟨rfl, ⟨c1, hc1, rfl⟩, tw_b_0 c_11⟩)

set_option maxHeartbeats 1000000 in
set_option maxRecDepth 100000 in
theorem c_X3_pass (l : Launch) (hlf : l.stackTraces = false) (G : kx_G) (z0 : Nat) (ad : kx_A) (nb : Nat) (sg : kx_S) (x : Int32) : kx_MX l yX3_pass wsX3_pass 6 90 1 6 G z0 ad nb sg [.ref (ad 0 0), .int x] (fun r sg' => tw_in x 1 2000 = true ∧ sg 0 0 7 + x ≤ 100000 ∧ r = some (.int (sg 0 0 7 + x)) ∧ sg' = kx_up sg 0 0 (upd (sg 0 0) 7 (sg 0 0 7 + x))) (fun E => (E = kx_iae ∧ tw_in x 1 2000 = false) ∨ (E = kx_ise ∧ tw_in x 1 2000 = true ∧ ¬ sg 0 0 7 + x ≤ 100000)) := by
  refine vx_ofW (cc := cX3_pass) (maxL := 2) (ret := (some .int)) (by decide) rfl ?_
  intro p e s m args below meth c s₁ B hml htab hv
  obtain ⟨rfl, hW, hV⟩ := hv
  have hts := atoms_spec (ws := wsX3_pass) B.pre
  have F : kx_F p s m c cX3_pass 2 RX3 _ wsX3_pass G z0 := ⟨B.exec, B.bytes, hml, findClass_of_methodNamed B.named, hts, hV⟩
  have hx := B.exec; have hb := B.bytes; have hr := B.returns; have hlocks := B.notSynchronized
  have hS : va_S (kx_Ad z0) s.heap s.heap [] := va_S.rf
  have L_42 : Cond.fieldLink RX3 42 (TX3 7).1 (TX3 7).2.1 (TX3 7).2.2.1 ∈ wsX3_pass := by decide +kernel
  have inX3 : ∀ w ∈ u_ws RX3 TX3 9, w ∈ wsX3_pass := by decide +kernel
  have hl := lv_entry ([.ref (ad 0 0), .int x]) (n := 2) (Nat.le_of_ble_eq_true rfl)
  rw [lg_entry_eq]
  generalize (lg_sl ([.ref (ad 0 0), .int x]) ++ List.replicate (2 - (lg_sl ([.ref (ad 0 0), .int x])).length) Slot.unset).toArray = ls at hl ⊢
  have hl : lv_has ls 2 [(0, .ref (ad 0 0)), (1, .int x)] := hl
  refine lv_iload_n hx hb dX3_pass_0 rfl (lv_at hl 1 rfl) ?_
  refine lv_iconst (v := 1) hx hb dX3_pass_1 (by decide) ?_
  refine lv_sipush (v := 2000) hx hb dX3_pass_2 (by decide) ?_
  refine kx_cS (na := 3) F (c_X3_isWithin l G z0 ad nb sg x 1 2000) gX3_pass_X3_isWithin rfl (by decide +kernel) ⟨Nat.le_of_ble_eq_true rfl, Nat.le_of_ble_eq_true rfl⟩ hW hS (As := [.int x, .int 1, .int 2000]) (rest := []) rfl hl.1 rfl (Nat.le_of_ble_eq_true rfl) dX3_pass_5 ⟨by first | exact Nat.le_of_ble_eq_true rfl | omega, by first | exact Nat.le_of_ble_eq_true rfl | omega⟩ (fun r9 sg9 H locs hq hW hS => ?_)
  obtain ⟨rfl, e9⟩ := hq
  rw [e9] at hW
  refine W.eq (g2 := F0 m 8 ls [.int (tw_b (tw_in x 1 2000))]) rfl ?_
  refine lv_if_ne (tgt := 21) hx hb dX3_pass_8 (by decide) (fun c_8 => ?_) (fun c_8 => ?_)
  · refine lv_aload_n hx hb dX3_pass_21 rfl (lv_at hl 0 rfl) ?_
    refine kx_g F inX3 hW 0 0 ⟨by decide, rfl⟩ rfl rfl 7 (by decide) L_42 (v := .int (sg 0 0 7)) rfl dX3_pass_22 ?_
    refine lv_iload_n hx hb dX3_pass_25 rfl (lv_at hl 1 rfl) ?_
    refine lv_iadd hx hb dX3_pass_26 ?_
    refine lv_ldc (v := 100000) hx hb F.2.2.2.1 (hts (.constant RX3 79 100000) (by decide +kernel)) dX3_pass_27 ?_
    refine lv_icmp_le (tgt := 42) hx hb dX3_pass_29 (by decide) (fun c_29 => ?_) (fun c_29 => ?_)
    · refine lv_aload_n hx hb dX3_pass_42 rfl (lv_at hl 0 rfl) ?_
      refine lv_dup hx hb dX3_pass_43 rfl ?_
      refine kx_g F inX3 hW 0 0 ⟨by decide, rfl⟩ rfl rfl 7 (by decide) L_42 (v := .int (sg 0 0 7)) rfl dX3_pass_44 ?_
      refine lv_iload_n hx hb dX3_pass_47 rfl (lv_at hl 1 rfl) ?_
      refine lv_iadd hx hb dX3_pass_48 ?_
      refine kx_p F inX3 tyX3 tyX3_ok nmX3 hW hS 0 0 ⟨by decide, rfl⟩ rfl rfl 7 (by decide) L_42 rfl (v := .int ((sg 0 0 7) + x)) rfl rfl (Nat.le_of_ble_eq_true rfl) (upd (sg 0 0) 7 ((sg 0 0 7) + x)) rfl dX3_pass_49 (fun H locs hW hS => ?_)
      have hW : kx_Wd G z0 ad nb (kx_up sg 0 0 (upd (sg 0 0) 7 ((sg 0 0 7) + x))) H := hW
      refine lv_aload_n hx hb dX3_pass_52 rfl (lv_at hl 0 rfl) ?_
      refine kx_g F inX3 hW 0 0 ⟨by decide, rfl⟩ rfl rfl 7 (by decide) L_42 (v := .int ((sg 0 0 7) + x)) (by first | rfl | (simp only [kx_up_s]; done) | (simp only [kx_up_s, upd_s]; done) | (simp only [kx_up_s]; rfl) | (simp [kx_up, upd]; done)) dX3_pass_53 ?_
      refine vx_ret ?_
      exact kx_ri F hr hlocks hW hS (by first | exact Nat.le_of_ble_eq_true rfl | omega) (by first | exact Nat.le_of_ble_eq_true rfl | omega) (⟨tw_b_1 c_8, c_29, rfl, rfl⟩) dX3_pass_56
    · exact kx_thr F hlf htab hlocks (cls := "java/lang/IllegalStateException") (text := "the time would be above 100000") (ik := 60) (is := 80) (ic := 64) (by decide +kernel) (by decide +kernel) (by decide +kernel) (by decide +kernel) (by decide +kernel) (by decide +kernel) (by decide +kernel) hW hS hl.1 dX3_pass_32 dX3_pass_35 dX3_pass_36 dX3_pass_38 dX3_pass_41 (Nat.le_of_ble_eq_true rfl) (Nat.le_of_ble_eq_true rfl) (by first | exact Nat.le_of_ble_eq_true rfl | omega) (by first | exact Nat.le_of_ble_eq_true rfl | omega) (by first | exact Nat.le_of_ble_eq_true rfl | omega) (by first | exact Nat.le_of_ble_eq_true rfl | omega) (Or.inr ⟨rfl, tw_b_1 c_8, c_29⟩)
  · exact kx_thr F hlf htab hlocks (cls := "java/lang/IllegalArgumentException") (text := "minutes is out of range") (ik := 53) (is := 77) (ic := 57) (by decide +kernel) (by decide +kernel) (by decide +kernel) (by decide +kernel) (by decide +kernel) (by decide +kernel) (by decide +kernel) hW hS hl.1 dX3_pass_11 dX3_pass_14 dX3_pass_15 dX3_pass_17 dX3_pass_20 (Nat.le_of_ble_eq_true rfl) (Nat.le_of_ble_eq_true rfl) (by first | exact Nat.le_of_ble_eq_true rfl | omega) (by first | exact Nat.le_of_ble_eq_true rfl | omega) (by first | exact Nat.le_of_ble_eq_true rfl | omega) (by first | exact Nat.le_of_ble_eq_true rfl | omega) (Or.inl ⟨rfl, tw_b_0 c_8⟩)

set_option maxHeartbeats 1000000 in
set_option maxRecDepth 100000 in
theorem c_X3_scan (l : Launch) (hlf : l.stackTraces = false) (G : kx_G) (z0 : Nat) (ad : kx_A) (nb : Nat) (sg : kx_S) (hC : tw_CI nb sg) (x y z : Int32) : kx_MX l yX3_scan wsX3_scan 7 137 4 24 G z0 ad nb sg [.ref (ad 0 0), .int x, .int y, .int z] (fun r sg' => ∃ k c : Nat, k < nb ∧ x = nI k ∧ c < 4 ∧ y = nI c ∧ tw_in z 0 2 = true ∧ tw_n sg k < 12 ∧ r = some (.int (nI (tw_n sg k))) ∧ tw_AS sg k (tw_n sg k) (tw_pt (nI c) z) c sg') (fun E => (E = kx_ioe ∧ ((∀ k, k < nb → ¬ x = nI k) ∨ (∀ c, c < 4 → ¬ y = nI c))) ∨ (E = kx_iae ∧ (∃ k : Nat, k < nb ∧ x = nI k) ∧ (∃ c : Nat, c < 4 ∧ y = nI c) ∧ tw_in z 0 2 = false) ∨ (E = kx_ise ∧ ∃ k c : Nat, k < nb ∧ x = nI k ∧ c < 4 ∧ y = nI c ∧ tw_in z 0 2 = true ∧ tw_n sg k = 12)) := by
  refine vx_ofW (cc := cX3_scan) (maxL := 5) (ret := (some .int)) (by decide) rfl ?_
  intro p e s m args below meth c s₁ B hml htab hv
  obtain ⟨rfl, hW, hV⟩ := hv
  have hts := atoms_spec (ws := wsX3_scan) B.pre
  have F : kx_F p s m c cX3_scan 5 RX3 _ wsX3_scan G z0 := ⟨B.exec, B.bytes, hml, findClass_of_methodNamed B.named, hts, hV⟩
  have hx := B.exec; have hb := B.bytes; have hr := B.returns; have hlocks := B.notSynchronized
  have hS : va_S (kx_Ad z0) s.heap s.heap [] := va_S.rf
  obtain ⟨hnb, hwf, hbl, hjm, hkp, hnn⟩ := hC
  have hl := lv_entry ([.ref (ad 0 0), .int x, .int y, .int z]) (n := 5) (Nat.le_of_ble_eq_true rfl)
  rw [lg_entry_eq]
  generalize (lg_sl ([.ref (ad 0 0), .int x, .int y, .int z]) ++ List.replicate (5 - (lg_sl ([.ref (ad 0 0), .int x, .int y, .int z])).length) Slot.unset).toArray = ls at hl ⊢
  have hl : lv_has ls 5 [(0, .ref (ad 0 0)), (1, .int x), (2, .int y), (3, .int z)] := hl
  refine lv_aload_n hx hb dX3_scan_0 rfl (lv_at hl 0 rfl) ?_
  refine lv_iload_n hx hb dX3_scan_1 rfl (lv_at hl 1 rfl) ?_
  refine kx_xV (na := 1) F (q := 0) (n := 0) (c_X3_boxAt l hlf G z0 ad nb sg hnb x) gX3_scan_X3_boxAt rfl (by decide +kernel) ⟨Nat.le_of_ble_eq_true rfl, Nat.le_of_ble_eq_true rfl⟩ hW hS ⟨by decide, rfl⟩ rfl rfl (As := [.int x]) (rest := []) rfl hl.1 rfl (Nat.le_of_ble_eq_true rfl) dX3_scan_2 ⟨by first | exact Nat.le_of_ble_eq_true rfl | omega, by first | exact Nat.le_of_ble_eq_true rfl | omega⟩ (fun E9 ce9 q9 H locs hp9 hW hS h7 h8 h9 => ?_) (fun r9 sg9 H locs hq hW hS => ?_)
  · exact kx_out htab hlocks hW hS (by first | exact Nat.le_of_ble_eq_true rfl | omega) (by first | exact Nat.le_of_ble_eq_true rfl | omega) (Or.inl ⟨hp9.1, Or.inl hp9.2⟩) h7 h8 h9
  obtain ⟨k, hk, rfl, rfl, e9⟩ := hq
  rw [e9] at hW
  refine W.eq (g2 := F0 m 5 ls [.ref (ad 9 k)]) rfl ?_
  obtain ⟨n9, hn9, h129, hm9⟩ := hwf.1 k hk
  have en9 := tw_n_eq hn9 h129
  refine lv_astore (lv' := [(4, .ref (ad 9 k)), (0, .ref (ad 0 0)), (1, .int (nI k)), (2, .int y), (3, .int z)]) hx hb dX3_scan_5 hl (by decide) rfl (fun ls hl => ?_)
  refine lv_iload_n hx hb dX3_scan_7 rfl (lv_at hl 3 rfl) ?_
  refine kx_xS (na := 1) F (c_X3_checkCourier l hlf G z0 ad nb sg y) gX3_scan_X3_checkCourier rfl (by decide +kernel) ⟨Nat.le_of_ble_eq_true rfl, Nat.le_of_ble_eq_true rfl⟩ hW hS (As := [.int y]) (rest := []) rfl hl.1 rfl (Nat.le_of_ble_eq_true rfl) dX3_scan_8 ⟨by first | exact Nat.le_of_ble_eq_true rfl | omega, by first | exact Nat.le_of_ble_eq_true rfl | omega⟩ (fun E9 ce9 q9 H locs hp9 hW hS h7 h8 h9 => ?_) (fun r9 sg9 H locs hq hW hS => ?_)
  · exact kx_out htab hlocks hW hS (by first | exact Nat.le_of_ble_eq_true rfl | omega) (by first | exact Nat.le_of_ble_eq_true rfl | omega) (Or.inl ⟨hp9.1, Or.inr hp9.2⟩) h7 h8 h9
  obtain ⟨rfl, e9, c1, hc1, rfl⟩ := hq
  rw [e9] at hW
  refine W.eq (g2 := F0 m 11 ls []) rfl ?_
  refine lv_iload_n hx hb dX3_scan_11 rfl (lv_at hl 4 rfl) ?_
  refine lv_iconst (v := 0) hx hb dX3_scan_12 (by decide) ?_
  refine lv_iconst (v := 2) hx hb dX3_scan_13 (by decide) ?_
  refine kx_cS (na := 3) F (c_X3_isWithin l G z0 ad nb sg z 0 2) gX3_scan_X3_isWithin rfl (by decide +kernel) ⟨Nat.le_of_ble_eq_true rfl, Nat.le_of_ble_eq_true rfl⟩ hW hS (As := [.int z, .int 0, .int 2]) (rest := []) rfl hl.1 rfl (Nat.le_of_ble_eq_true rfl) dX3_scan_14 ⟨by first | exact Nat.le_of_ble_eq_true rfl | omega, by first | exact Nat.le_of_ble_eq_true rfl | omega⟩ (fun r9 sg9 H locs hq hW hS => ?_)
  obtain ⟨rfl, e9⟩ := hq
  rw [e9] at hW
  refine W.eq (g2 := F0 m 17 ls [.int (tw_b (tw_in z 0 2))]) rfl ?_
  refine lv_if_ne (tgt := 30) hx hb dX3_scan_17 (by decide) (fun c_17 => ?_) (fun c_17 => ?_)
  · refine lv_aload hx hb dX3_scan_30 (lv_at hl 0 rfl) ?_
    refine kx_xS (na := 1) F (c_X3_checkRoomForScan l hlf G z0 ad nb sg k hk n9 hn9 h129) gX3_scan_X3_checkRoomForScan rfl (by decide +kernel) ⟨Nat.le_of_ble_eq_true rfl, Nat.le_of_ble_eq_true rfl⟩ hW hS (As := [.ref (ad 9 k)]) (rest := []) rfl hl.1 rfl (Nat.le_of_ble_eq_true rfl) dX3_scan_32 ⟨by first | exact Nat.le_of_ble_eq_true rfl | omega, by first | exact Nat.le_of_ble_eq_true rfl | omega⟩ (fun E9 ce9 q9 H locs hp9 hW hS h7 h8 h9 => ?_) (fun r9 sg9 H locs hq hW hS => ?_)
    · exact kx_out htab hlocks hW hS (by first | exact Nat.le_of_ble_eq_true rfl | omega) (by first | exact Nat.le_of_ble_eq_true rfl | omega) (Or.inr (Or.inr ⟨hp9.1, k, c1, hk, rfl, hc1, rfl, tw_b_1 c_17, by rw [en9]; exact hp9.2⟩)) h7 h8 h9
    obtain ⟨rfl, e9, hlt9⟩ := hq
    rw [e9] at hW
    refine W.eq (g2 := F0 m 35 ls []) rfl ?_
    refine lv_aload_n hx hb dX3_scan_35 rfl (lv_at hl 1 rfl) ?_
    refine lv_aload hx hb dX3_scan_36 (lv_at hl 0 rfl) ?_
    refine lv_iload_n hx hb dX3_scan_38 rfl (lv_at hl 3 rfl) ?_
    refine lv_iload_n hx hb dX3_scan_39 rfl (lv_at hl 4 rfl) ?_
    refine kx_cS (na := 2) F (c_X3_placeTold l G z0 ad nb sg (nI c1) z) gX3_scan_X3_placeTold rfl (by decide +kernel) ⟨Nat.le_of_ble_eq_true rfl, Nat.le_of_ble_eq_true rfl⟩ hW hS (As := [.int (nI c1), .int z]) (rest := [.ref (ad 9 k), .ref (ad 0 0)]) rfl hl.1 rfl (Nat.le_of_ble_eq_true rfl) dX3_scan_40 ⟨by first | exact Nat.le_of_ble_eq_true rfl | omega, by first | exact Nat.le_of_ble_eq_true rfl | omega⟩ (fun r9 sg9 H locs hq hW hS => ?_)
    obtain ⟨rfl, e9⟩ := hq
    rw [e9] at hW
    refine W.eq (g2 := F0 m 43 ls [.int (tw_pt (nI c1) z), .ref (ad 9 k), .ref (ad 0 0)]) rfl ?_
    refine lv_iload_n hx hb dX3_scan_43 rfl (lv_at hl 3 rfl) ?_
    refine kx_cV (na := 3) F (q := 0) (n := 0) (c_X3_addScan l G z0 ad nb sg k hk n9 hn9 hlt9 hm9 hwf.2 (tw_pt (nI c1) z) c1 (by omega)) gX3_scan_X3_addScan rfl (by decide +kernel) ⟨Nat.le_of_ble_eq_true rfl, Nat.le_of_ble_eq_true rfl⟩ hW hS ⟨by decide, rfl⟩ rfl rfl (As := [.ref (ad 9 k), .int (tw_pt (nI c1) z), .int (nI c1)]) (rest := []) rfl hl.1 rfl (Nat.le_of_ble_eq_true rfl) dX3_scan_44 ⟨by first | exact Nat.le_of_ble_eq_true rfl | omega, by first | exact Nat.le_of_ble_eq_true rfl | omega⟩ (fun r9 sg9 H locs hq hW hS => ?_)
    obtain ⟨rfl, has9⟩ := hq
    have hW : kx_Wd G z0 ad nb (sg9) H := by first | exact hW | (simp only [kx_up_s, kx_up_up] at hW; exact hW) | (simp only [kx_up_s, kx_up_up, upd_s] at hW; exact hW)
    refine W.eq (g2 := F0 m 47 ls [.int (nI n9)]) rfl ?_
    refine vx_ret ?_
    exact kx_ri F hr hlocks hW hS (by first | exact Nat.le_of_ble_eq_true rfl | omega) (by first | exact Nat.le_of_ble_eq_true rfl | omega) (⟨k, c1, hk, rfl, hc1, rfl, tw_b_1 c_17, by rw [en9]; exact hlt9, by rw [en9], by rw [en9]; exact has9⟩) dX3_scan_47
  · exact kx_thr F hlf htab hlocks (cls := "java/lang/IllegalArgumentException") (text := "what is out of range") (ik := 53) (is := 89) (ic := 57) (by decide +kernel) (by decide +kernel) (by decide +kernel) (by decide +kernel) (by decide +kernel) (by decide +kernel) (by decide +kernel) hW hS hl.1 dX3_scan_20 dX3_scan_23 dX3_scan_24 dX3_scan_26 dX3_scan_29 (Nat.le_of_ble_eq_true rfl) (Nat.le_of_ble_eq_true rfl) (by first | exact Nat.le_of_ble_eq_true rfl | omega) (by first | exact Nat.le_of_ble_eq_true rfl | omega) (by first | exact Nat.le_of_ble_eq_true rfl | omega) (by first | exact Nat.le_of_ble_eq_true rfl | omega) (Or.inr (Or.inl ⟨rfl, ⟨k, hk, rfl⟩, ⟨c1, hc1, rfl⟩, tw_b_0 c_17⟩))

set_option maxHeartbeats 1000000 in
set_option maxRecDepth 100000 in
theorem c_X3_lay (l : Launch) (hlf : l.stackTraces = false) (G : kx_G) (z0 : Nat) (ad : kx_A) (nb : Nat) (sg : kx_S) (hC : tw_CI nb sg) (x y : Int32) : kx_MX l yX3_lay wsX3_lay 7 137 4 24 G z0 ad nb sg [.ref (ad 0 0), .int x, .int y] (fun r sg' => ∃ k d : Nat, k < nb ∧ x = nI k ∧ d < 10 ∧ y = nI d ∧ tw_n sg k < 12 ∧ sg 9 k 0 ≤ sg 8 d 0 ∧ r = some (.int (nI (tw_n sg k))) ∧ tw_AS sg k (tw_n sg k) (10 + nI d) (4 + d) sg') (fun E => (E = kx_ioe ∧ ((∀ k, k < nb → ¬ x = nI k) ∨ (∀ d, d < 10 → ¬ y = nI d))) ∨ (E = kx_ise ∧ ∃ k d : Nat, k < nb ∧ x = nI k ∧ d < 10 ∧ y = nI d ∧ (tw_n sg k = 12 ∨ ¬ sg 9 k 0 ≤ sg 8 d 0))) := by
  refine vx_ofW (cc := cX3_lay) (maxL := 5) (ret := (some .int)) (by decide) rfl ?_
  intro p e s m args below meth c s₁ B hml htab hv
  obtain ⟨rfl, hW, hV⟩ := hv
  have hts := atoms_spec (ws := wsX3_lay) B.pre
  have F : kx_F p s m c cX3_lay 5 RX3 _ wsX3_lay G z0 := ⟨B.exec, B.bytes, hml, findClass_of_methodNamed B.named, hts, hV⟩
  have hx := B.exec; have hb := B.bytes; have hr := B.returns; have hlocks := B.notSynchronized
  have hS : va_S (kx_Ad z0) s.heap s.heap [] := va_S.rf
  obtain ⟨hnb, hwf, hbl, hjm, hkp, hnn⟩ := hC
  have L_107 : Cond.fieldLink RX3 107 (TX0 0).1 (TX0 0).2.1 (TX0 0).2.2.1 ∈ wsX3_lay := by decide +kernel
  have L_110 : Cond.fieldLink RX3 110 (TX1 0).1 (TX1 0).2.1 (TX1 0).2.2.1 ∈ wsX3_lay := by decide +kernel
  have inX0 : ∀ w ∈ u_ws RX0 TX0 11, w ∈ wsX3_lay := by decide +kernel
  have inX1 : ∀ w ∈ u_ws RX1 TX1 5, w ∈ wsX3_lay := by decide +kernel
  have hl := lv_entry ([.ref (ad 0 0), .int x, .int y]) (n := 5) (Nat.le_of_ble_eq_true rfl)
  rw [lg_entry_eq]
  generalize (lg_sl ([.ref (ad 0 0), .int x, .int y]) ++ List.replicate (5 - (lg_sl ([.ref (ad 0 0), .int x, .int y])).length) Slot.unset).toArray = ls at hl ⊢
  have hl : lv_has ls 5 [(0, .ref (ad 0 0)), (1, .int x), (2, .int y)] := hl
  refine lv_aload_n hx hb dX3_lay_0 rfl (lv_at hl 0 rfl) ?_
  refine lv_iload_n hx hb dX3_lay_1 rfl (lv_at hl 1 rfl) ?_
  refine kx_xV (na := 1) F (q := 0) (n := 0) (c_X3_boxAt l hlf G z0 ad nb sg hnb x) gX3_lay_X3_boxAt rfl (by decide +kernel) ⟨Nat.le_of_ble_eq_true rfl, Nat.le_of_ble_eq_true rfl⟩ hW hS ⟨by decide, rfl⟩ rfl rfl (As := [.int x]) (rest := []) rfl hl.1 rfl (Nat.le_of_ble_eq_true rfl) dX3_lay_2 ⟨by first | exact Nat.le_of_ble_eq_true rfl | omega, by first | exact Nat.le_of_ble_eq_true rfl | omega⟩ (fun E9 ce9 q9 H locs hp9 hW hS h7 h8 h9 => ?_) (fun r9 sg9 H locs hq hW hS => ?_)
  · exact kx_out htab hlocks hW hS (by first | exact Nat.le_of_ble_eq_true rfl | omega) (by first | exact Nat.le_of_ble_eq_true rfl | omega) (Or.inl ⟨hp9.1, Or.inl hp9.2⟩) h7 h8 h9
  obtain ⟨k, hk, rfl, rfl, e9⟩ := hq
  rw [e9] at hW
  refine W.eq (g2 := F0 m 5 ls [.ref (ad 9 k)]) rfl ?_
  obtain ⟨n9, hn9, h129, hm9⟩ := hwf.1 k hk
  have en9 := tw_n_eq hn9 h129
  refine lv_astore_n (lv' := [(3, .ref (ad 9 k)), (0, .ref (ad 0 0)), (1, .int (nI k)), (2, .int y)]) hx hb dX3_lay_5 rfl hl (by decide) rfl (fun ls hl => ?_)
  refine lv_aload_n hx hb dX3_lay_6 rfl (lv_at hl 1 rfl) ?_
  refine lv_iload_n hx hb dX3_lay_7 rfl (lv_at hl 3 rfl) ?_
  refine kx_xV (na := 1) F (q := 0) (n := 0) (c_X3_doorAt l hlf G z0 ad nb sg y) gX3_lay_X3_doorAt rfl (by decide +kernel) ⟨Nat.le_of_ble_eq_true rfl, Nat.le_of_ble_eq_true rfl⟩ hW hS ⟨by decide, rfl⟩ rfl rfl (As := [.int y]) (rest := []) rfl hl.1 rfl (Nat.le_of_ble_eq_true rfl) dX3_lay_8 ⟨by first | exact Nat.le_of_ble_eq_true rfl | omega, by first | exact Nat.le_of_ble_eq_true rfl | omega⟩ (fun E9 ce9 q9 H locs hp9 hW hS h7 h8 h9 => ?_) (fun r9 sg9 H locs hq hW hS => ?_)
  · exact kx_out htab hlocks hW hS (by first | exact Nat.le_of_ble_eq_true rfl | omega) (by first | exact Nat.le_of_ble_eq_true rfl | omega) (Or.inl ⟨hp9.1, Or.inr hp9.2⟩) h7 h8 h9
  obtain ⟨d, hd, rfl, rfl, e9⟩ := hq
  rw [e9] at hW
  refine W.eq (g2 := F0 m 11 ls [.ref (ad 8 d)]) rfl ?_
  refine lv_astore (lv' := [(4, .ref (ad 8 d)), (3, .ref (ad 9 k)), (0, .ref (ad 0 0)), (1, .int (nI k)), (2, .int (nI d))]) hx hb dX3_lay_11 hl (by decide) rfl (fun ls hl => ?_)
  refine lv_aload_n hx hb dX3_lay_13 rfl (lv_at hl 1 rfl) ?_
  refine kx_xS (na := 1) F (c_X3_checkRoomForScan l hlf G z0 ad nb sg k hk n9 hn9 h129) gX3_lay_X3_checkRoomForScan rfl (by decide +kernel) ⟨Nat.le_of_ble_eq_true rfl, Nat.le_of_ble_eq_true rfl⟩ hW hS (As := [.ref (ad 9 k)]) (rest := []) rfl hl.1 rfl (Nat.le_of_ble_eq_true rfl) dX3_lay_14 ⟨by first | exact Nat.le_of_ble_eq_true rfl | omega, by first | exact Nat.le_of_ble_eq_true rfl | omega⟩ (fun E9 ce9 q9 H locs hp9 hW hS h7 h8 h9 => ?_) (fun r9 sg9 H locs hq hW hS => ?_)
  · exact kx_out htab hlocks hW hS (by first | exact Nat.le_of_ble_eq_true rfl | omega) (by first | exact Nat.le_of_ble_eq_true rfl | omega) (Or.inr ⟨hp9.1, k, d, hk, rfl, hd, rfl, Or.inl (by rw [en9]; exact hp9.2)⟩) h7 h8 h9
  obtain ⟨rfl, e9, hlt9⟩ := hq
  rw [e9] at hW
  refine W.eq (g2 := F0 m 17 ls []) rfl ?_
  refine lv_aload_n hx hb dX3_lay_17 rfl (lv_at hl 1 rfl) ?_
  refine kx_g F inX0 hW 9 k hk rfl rfl 0 (by decide) L_107 (v := .int (sg 9 k 0)) rfl dX3_lay_18 ?_
  refine lv_aload hx hb dX3_lay_21 (lv_at hl 0 rfl) ?_
  refine kx_g F inX1 hW 8 d hd rfl rfl 0 (by decide) L_110 (v := .int (sg 8 d 0)) rfl dX3_lay_23 ?_
  refine lv_icmp_le (tgt := 39) hx hb dX3_lay_26 (by decide) (fun c_26 => ?_) (fun c_26 => ?_)
  · refine lv_aload_n hx hb dX3_lay_39 rfl (lv_at hl 2 rfl) ?_
    refine lv_aload_n hx hb dX3_lay_40 rfl (lv_at hl 1 rfl) ?_
    refine lv_bipush (v := 10) hx hb dX3_lay_41 (by decide) ?_
    refine lv_iload_n hx hb dX3_lay_43 rfl (lv_at hl 4 rfl) ?_
    refine lv_iadd hx hb dX3_lay_44 ?_
    refine lv_iconst (v := 4) hx hb dX3_lay_45 (by decide) ?_
    refine lv_iload_n hx hb dX3_lay_46 rfl (lv_at hl 4 rfl) ?_
    refine lv_iadd hx hb dX3_lay_47 ?_
    rw [show (4 : Int32) + nI d = nI (4 + d) from nI_add 4 d]
    refine kx_cV (na := 3) F (q := 0) (n := 0) (c_X3_addScan l G z0 ad nb sg k hk n9 hn9 hlt9 hm9 hwf.2 (10 + (nI d)) (4 + d) (by omega)) gX3_lay_X3_addScan rfl (by decide +kernel) ⟨Nat.le_of_ble_eq_true rfl, Nat.le_of_ble_eq_true rfl⟩ hW hS ⟨by decide, rfl⟩ rfl rfl (As := [.ref (ad 9 k), .int (10 + (nI d)), .int (nI (4 + d))]) (rest := []) rfl hl.1 rfl (Nat.le_of_ble_eq_true rfl) dX3_lay_48 ⟨by first | exact Nat.le_of_ble_eq_true rfl | omega, by first | exact Nat.le_of_ble_eq_true rfl | omega⟩ (fun r9 sg9 H locs hq hW hS => ?_)
    obtain ⟨rfl, has9⟩ := hq
    have hW : kx_Wd G z0 ad nb (sg9) H := by first | exact hW | (simp only [kx_up_s, kx_up_up] at hW; exact hW) | (simp only [kx_up_s, kx_up_up, upd_s] at hW; exact hW)
    refine W.eq (g2 := F0 m 51 ls [.int (nI n9)]) rfl ?_
    refine vx_ret ?_
    exact kx_ri F hr hlocks hW hS (by first | exact Nat.le_of_ble_eq_true rfl | omega) (by first | exact Nat.le_of_ble_eq_true rfl | omega) (⟨k, d, hk, rfl, hd, rfl, by rw [en9]; exact hlt9, c_26, by rw [en9], by rw [en9]; exact has9⟩) dX3_lay_51
  · exact kx_thr F hlf htab hlocks (cls := "java/lang/IllegalStateException") (text := "the box is greater than the door") (ik := 60) (is := 111) (ic := 64) (by decide +kernel) (by decide +kernel) (by decide +kernel) (by decide +kernel) (by decide +kernel) (by decide +kernel) (by decide +kernel) hW hS hl.1 dX3_lay_29 dX3_lay_32 dX3_lay_33 dX3_lay_35 dX3_lay_38 (Nat.le_of_ble_eq_true rfl) (Nat.le_of_ble_eq_true rfl) (by first | exact Nat.le_of_ble_eq_true rfl | omega) (by first | exact Nat.le_of_ble_eq_true rfl | omega) (by first | exact Nat.le_of_ble_eq_true rfl | omega) (by first | exact Nat.le_of_ble_eq_true rfl | omega) (Or.inr ⟨rfl, k, d, hk, rfl, hd, rfl, Or.inr c_26⟩)

set_option maxHeartbeats 1000000 in
set_option maxRecDepth 100000 in
theorem c_X3_find (l : Launch) (hlf : l.stackTraces = false) (G : kx_G) (z0 : Nat) (ad : kx_A) (nb : Nat) (sg : kx_S) (hC : tw_CI nb sg) (x y : Int32) : kx_MX l yX3_find wsX3_find 7 137 3 18 G z0 ad nb sg [.ref (ad 0 0), .int x, .int y] (fun r sg' => ∃ k : Nat, k < nb ∧ x = nI k ∧ ¬ tw_kind y = -1 ∧ tw_n sg k < 12 ∧ r = some (.int (nI (tw_n sg k))) ∧ tw_AS sg k (tw_n sg k) y 14 sg') (fun E => (E = kx_ioe ∧ ((∀ k, k < nb → ¬ x = nI k) ∨ tw_kind y = -1)) ∨ (E = kx_ise ∧ ∃ k : Nat, k < nb ∧ x = nI k ∧ ¬ tw_kind y = -1 ∧ tw_n sg k = 12)) := by
  refine vx_ofW (cc := cX3_find) (maxL := 4) (ret := (some .int)) (by decide) rfl ?_
  intro p e s m args below meth c s₁ B hml htab hv
  obtain ⟨rfl, hW, hV⟩ := hv
  have hts := atoms_spec (ws := wsX3_find) B.pre
  have F : kx_F p s m c cX3_find 4 RX3 _ wsX3_find G z0 := ⟨B.exec, B.bytes, hml, findClass_of_methodNamed B.named, hts, hV⟩
  have hx := B.exec; have hb := B.bytes; have hr := B.returns; have hlocks := B.notSynchronized
  have hS : va_S (kx_Ad z0) s.heap s.heap [] := va_S.rf
  obtain ⟨hnb, hwf, hbl, hjm, hkp, hnn⟩ := hC
  have hl := lv_entry ([.ref (ad 0 0), .int x, .int y]) (n := 4) (Nat.le_of_ble_eq_true rfl)
  rw [lg_entry_eq]
  generalize (lg_sl ([.ref (ad 0 0), .int x, .int y]) ++ List.replicate (4 - (lg_sl ([.ref (ad 0 0), .int x, .int y])).length) Slot.unset).toArray = ls at hl ⊢
  have hl : lv_has ls 4 [(0, .ref (ad 0 0)), (1, .int x), (2, .int y)] := hl
  refine lv_aload_n hx hb dX3_find_0 rfl (lv_at hl 0 rfl) ?_
  refine lv_iload_n hx hb dX3_find_1 rfl (lv_at hl 1 rfl) ?_
  refine kx_xV (na := 1) F (q := 0) (n := 0) (c_X3_boxAt l hlf G z0 ad nb sg hnb x) gX3_find_X3_boxAt rfl (by decide +kernel) ⟨Nat.le_of_ble_eq_true rfl, Nat.le_of_ble_eq_true rfl⟩ hW hS ⟨by decide, rfl⟩ rfl rfl (As := [.int x]) (rest := []) rfl hl.1 rfl (Nat.le_of_ble_eq_true rfl) dX3_find_2 ⟨by first | exact Nat.le_of_ble_eq_true rfl | omega, by first | exact Nat.le_of_ble_eq_true rfl | omega⟩ (fun E9 ce9 q9 H locs hp9 hW hS h7 h8 h9 => ?_) (fun r9 sg9 H locs hq hW hS => ?_)
  · exact kx_out htab hlocks hW hS (by first | exact Nat.le_of_ble_eq_true rfl | omega) (by first | exact Nat.le_of_ble_eq_true rfl | omega) (Or.inl ⟨hp9.1, Or.inl hp9.2⟩) h7 h8 h9
  obtain ⟨k, hk, rfl, rfl, e9⟩ := hq
  rw [e9] at hW
  refine W.eq (g2 := F0 m 5 ls [.ref (ad 9 k)]) rfl ?_
  obtain ⟨n9, hn9, h129, hm9⟩ := hwf.1 k hk
  have en9 := tw_n_eq hn9 h129
  refine lv_astore_n (lv' := [(3, .ref (ad 9 k)), (0, .ref (ad 0 0)), (1, .int (nI k)), (2, .int y)]) hx hb dX3_find_5 rfl hl (by decide) rfl (fun ls hl => ?_)
  refine lv_iload_n hx hb dX3_find_6 rfl (lv_at hl 3 rfl) ?_
  refine kx_cS (na := 1) F (c_X3_kindOf l G z0 ad nb sg y) gX3_find_X3_kindOf rfl (by decide +kernel) ⟨Nat.le_of_ble_eq_true rfl, Nat.le_of_ble_eq_true rfl⟩ hW hS (As := [.int y]) (rest := []) rfl hl.1 rfl (Nat.le_of_ble_eq_true rfl) dX3_find_7 ⟨by first | exact Nat.le_of_ble_eq_true rfl | omega, by first | exact Nat.le_of_ble_eq_true rfl | omega⟩ (fun r9 sg9 H locs hq hW hS => ?_)
  obtain ⟨rfl, e9⟩ := hq
  rw [e9] at hW
  refine W.eq (g2 := F0 m 10 ls [.int (tw_kind y)]) rfl ?_
  refine lv_iconst (v := (-1)) hx hb dX3_find_10 (by decide) ?_
  refine lv_icmp_ne (tgt := 24) hx hb dX3_find_11 (by decide) (fun c_11 => ?_) (fun c_11 => ?_)
  · refine lv_aload_n hx hb dX3_find_24 rfl (lv_at hl 0 rfl) ?_
    refine kx_xS (na := 1) F (c_X3_checkRoomForScan l hlf G z0 ad nb sg k hk n9 hn9 h129) gX3_find_X3_checkRoomForScan rfl (by decide +kernel) ⟨Nat.le_of_ble_eq_true rfl, Nat.le_of_ble_eq_true rfl⟩ hW hS (As := [.ref (ad 9 k)]) (rest := []) rfl hl.1 rfl (Nat.le_of_ble_eq_true rfl) dX3_find_25 ⟨by first | exact Nat.le_of_ble_eq_true rfl | omega, by first | exact Nat.le_of_ble_eq_true rfl | omega⟩ (fun E9 ce9 q9 H locs hp9 hW hS h7 h8 h9 => ?_) (fun r9 sg9 H locs hq hW hS => ?_)
    · exact kx_out htab hlocks hW hS (by first | exact Nat.le_of_ble_eq_true rfl | omega) (by first | exact Nat.le_of_ble_eq_true rfl | omega) (Or.inr ⟨hp9.1, k, hk, rfl, c_11, by rw [en9]; exact hp9.2⟩) h7 h8 h9
    obtain ⟨rfl, e9, hlt9⟩ := hq
    rw [e9] at hW
    refine W.eq (g2 := F0 m 28 ls []) rfl ?_
    refine lv_aload_n hx hb dX3_find_28 rfl (lv_at hl 1 rfl) ?_
    refine lv_aload_n hx hb dX3_find_29 rfl (lv_at hl 0 rfl) ?_
    refine lv_iload_n hx hb dX3_find_30 rfl (lv_at hl 3 rfl) ?_
    refine lv_bipush (v := 14) hx hb dX3_find_31 (by decide) ?_
    refine W.eq (g2 := F0 m 33 ls [.int (nI 14), .int y, .ref (ad 9 k), .ref (ad 0 0)]) rfl ?_
    refine kx_cV (na := 3) F (q := 0) (n := 0) (c_X3_addScan l G z0 ad nb sg k hk n9 hn9 hlt9 hm9 hwf.2 y 14 (by omega)) gX3_find_X3_addScan rfl (by decide +kernel) ⟨Nat.le_of_ble_eq_true rfl, Nat.le_of_ble_eq_true rfl⟩ hW hS ⟨by decide, rfl⟩ rfl rfl (As := [.ref (ad 9 k), .int y, .int (nI 14)]) (rest := []) rfl hl.1 rfl (Nat.le_of_ble_eq_true rfl) dX3_find_33 ⟨by first | exact Nat.le_of_ble_eq_true rfl | omega, by first | exact Nat.le_of_ble_eq_true rfl | omega⟩ (fun r9 sg9 H locs hq hW hS => ?_)
    obtain ⟨rfl, has9⟩ := hq
    have hW : kx_Wd G z0 ad nb (sg9) H := by first | exact hW | (simp only [kx_up_s, kx_up_up] at hW; exact hW) | (simp only [kx_up_s, kx_up_up, upd_s] at hW; exact hW)
    refine W.eq (g2 := F0 m 36 ls [.int (nI n9)]) rfl ?_
    refine vx_ret ?_
    exact kx_ri F hr hlocks hW hS (by first | exact Nat.le_of_ble_eq_true rfl | omega) (by first | exact Nat.le_of_ble_eq_true rfl | omega) (⟨k, hk, rfl, c_11, by rw [en9]; exact hlt9, by rw [en9], by rw [en9]; exact has9⟩) dX3_find_36
  · exact kx_thr F hlf htab hlocks (cls := "java/lang/IndexOutOfBoundsException") (text := "there is no such place") (ik := 117) (is := 119) (ic := 121) (by decide +kernel) (by decide +kernel) (by decide +kernel) (by decide +kernel) (by decide +kernel) (by decide +kernel) (by decide +kernel) hW hS hl.1 dX3_find_14 dX3_find_17 dX3_find_18 dX3_find_20 dX3_find_23 (Nat.le_of_ble_eq_true rfl) (Nat.le_of_ble_eq_true rfl) (by first | exact Nat.le_of_ble_eq_true rfl | omega) (by first | exact Nat.le_of_ble_eq_true rfl | omega) (by first | exact Nat.le_of_ble_eq_true rfl | omega) (by first | exact Nat.le_of_ble_eq_true rfl | omega) (Or.inl ⟨rfl, Or.inr c_11⟩)

set_option maxHeartbeats 1000000 in
set_option maxRecDepth 100000 in
theorem c_X3_setDoor (l : Launch) (hlf : l.stackTraces = false) (G : kx_G) (z0 : Nat) (ad : kx_A) (nb : Nat) (sg : kx_S) (hC : tw_CI nb sg) (x y : Int32) : kx_MX l yX3_setDoor wsX3_setDoor 7 111 2 12 G z0 ad nb sg [.ref (ad 0 0), .int x, .int y] (fun r sg' => ∃ d : Nat, d < 10 ∧ x = nI d ∧ tw_in y 1 3 = true ∧ sg 8 d 2 = -1 ∧ r = some (.int (sg 8 d 0)) ∧ sg' = kx_up sg 8 d (upd (sg 8 d) 0 y)) (fun E => (E = kx_ioe ∧ (∀ d, d < 10 → ¬ x = nI d)) ∨ (E = kx_iae ∧ (∃ d : Nat, d < 10 ∧ x = nI d) ∧ tw_in y 1 3 = false) ∨ (E = kx_ise ∧ ∃ d : Nat, d < 10 ∧ x = nI d ∧ tw_in y 1 3 = true ∧ ¬ sg 8 d 2 = -1)) := by
  refine vx_ofW (cc := cX3_setDoor) (maxL := 5) (ret := (some .int)) (by decide) rfl ?_
  intro p e s m args below meth c s₁ B hml htab hv
  obtain ⟨rfl, hW, hV⟩ := hv
  have hts := atoms_spec (ws := wsX3_setDoor) B.pre
  have F : kx_F p s m c cX3_setDoor 5 RX3 _ wsX3_setDoor G z0 := ⟨B.exec, B.bytes, hml, findClass_of_methodNamed B.named, hts, hV⟩
  have hx := B.exec; have hb := B.bytes; have hr := B.returns; have hlocks := B.notSynchronized
  have hS : va_S (kx_Ad z0) s.heap s.heap [] := va_S.rf
  obtain ⟨hnb, hwf, hbl, hjm, hkp, hnn⟩ := hC
  have L_110 : Cond.fieldLink RX3 110 (TX1 0).1 (TX1 0).2.1 (TX1 0).2.2.1 ∈ wsX3_setDoor := by decide +kernel
  have inX1 : ∀ w ∈ u_ws RX1 TX1 5, w ∈ wsX3_setDoor := by decide +kernel
  have hl := lv_entry ([.ref (ad 0 0), .int x, .int y]) (n := 5) (Nat.le_of_ble_eq_true rfl)
  rw [lg_entry_eq]
  generalize (lg_sl ([.ref (ad 0 0), .int x, .int y]) ++ List.replicate (5 - (lg_sl ([.ref (ad 0 0), .int x, .int y])).length) Slot.unset).toArray = ls at hl ⊢
  have hl : lv_has ls 5 [(0, .ref (ad 0 0)), (1, .int x), (2, .int y)] := hl
  refine lv_aload_n hx hb dX3_setDoor_0 rfl (lv_at hl 0 rfl) ?_
  refine lv_iload_n hx hb dX3_setDoor_1 rfl (lv_at hl 1 rfl) ?_
  refine kx_xV (na := 1) F (q := 0) (n := 0) (c_X3_doorAt l hlf G z0 ad nb sg x) gX3_setDoor_X3_doorAt rfl (by decide +kernel) ⟨Nat.le_of_ble_eq_true rfl, Nat.le_of_ble_eq_true rfl⟩ hW hS ⟨by decide, rfl⟩ rfl rfl (As := [.int x]) (rest := []) rfl hl.1 rfl (Nat.le_of_ble_eq_true rfl) dX3_setDoor_2 ⟨by first | exact Nat.le_of_ble_eq_true rfl | omega, by first | exact Nat.le_of_ble_eq_true rfl | omega⟩ (fun E9 ce9 q9 H locs hp9 hW hS h7 h8 h9 => ?_) (fun r9 sg9 H locs hq hW hS => ?_)
  · exact kx_out htab hlocks hW hS (by first | exact Nat.le_of_ble_eq_true rfl | omega) (by first | exact Nat.le_of_ble_eq_true rfl | omega) (Or.inl hp9) h7 h8 h9
  obtain ⟨d, hd, rfl, rfl, e9⟩ := hq
  rw [e9] at hW
  refine W.eq (g2 := F0 m 5 ls [.ref (ad 8 d)]) rfl ?_
  refine lv_astore_n (lv' := [(3, .ref (ad 8 d)), (0, .ref (ad 0 0)), (1, .int (nI d)), (2, .int y)]) hx hb dX3_setDoor_5 rfl hl (by decide) rfl (fun ls hl => ?_)
  refine lv_iload_n hx hb dX3_setDoor_6 rfl (lv_at hl 3 rfl) ?_
  refine lv_iconst (v := 1) hx hb dX3_setDoor_7 (by decide) ?_
  refine lv_iconst (v := 3) hx hb dX3_setDoor_8 (by decide) ?_
  refine kx_cS (na := 3) F (c_X3_isWithin l G z0 ad nb sg y 1 3) gX3_setDoor_X3_isWithin rfl (by decide +kernel) ⟨Nat.le_of_ble_eq_true rfl, Nat.le_of_ble_eq_true rfl⟩ hW hS (As := [.int y, .int 1, .int 3]) (rest := []) rfl hl.1 rfl (Nat.le_of_ble_eq_true rfl) dX3_setDoor_9 ⟨by first | exact Nat.le_of_ble_eq_true rfl | omega, by first | exact Nat.le_of_ble_eq_true rfl | omega⟩ (fun r9 sg9 H locs hq hW hS => ?_)
  obtain ⟨rfl, e9⟩ := hq
  rw [e9] at hW
  refine W.eq (g2 := F0 m 12 ls [.int (tw_b (tw_in y 1 3))]) rfl ?_
  refine lv_if_ne (tgt := 25) hx hb dX3_setDoor_12 (by decide) (fun c_12 => ?_) (fun c_12 => ?_)
  · refine lv_aload_n hx hb dX3_setDoor_25 rfl (lv_at hl 0 rfl) ?_
    refine kx_cV (na := 0) F (q := 8) (n := d) (c_X1_isKept l G z0 ad nb sg d hd) gX3_setDoor_X1_isKept rfl (by decide +kernel) ⟨Nat.le_of_ble_eq_true rfl, Nat.le_of_ble_eq_true rfl⟩ hW hS hd rfl rfl (As := []) (rest := []) rfl hl.1 rfl (Nat.le_of_ble_eq_true rfl) dX3_setDoor_26 ⟨by first | exact Nat.le_of_ble_eq_true rfl | omega, by first | exact Nat.le_of_ble_eq_true rfl | omega⟩ (fun r9 sg9 H locs hq hW hS => ?_)
    obtain ⟨rfl, e9⟩ := hq
    rw [e9] at hW
    refine W.eq (g2 := F0 m 29 ls [.int (tw_b (decide (¬ sg 8 d 2 = -1)))]) rfl ?_
    refine lv_if_eq (tgt := 42) hx hb dX3_setDoor_29 (by decide) (fun c_29 => ?_) (fun c_29 => ?_)
    · refine lv_aload_n hx hb dX3_setDoor_42 rfl (lv_at hl 0 rfl) ?_
      refine kx_g F inX1 hW 8 d hd rfl rfl 0 (by decide) L_110 (v := .int (sg 8 d 0)) rfl dX3_setDoor_43 ?_
      refine lv_istore (lv' := [(4, .int (sg 8 d 0)), (3, .ref (ad 8 d)), (0, .ref (ad 0 0)), (1, .int (nI d)), (2, .int y)]) hx hb dX3_setDoor_46 hl (by decide) rfl (fun ls hl => ?_)
      refine lv_aload_n hx hb dX3_setDoor_48 rfl (lv_at hl 1 rfl) ?_
      refine lv_iload_n hx hb dX3_setDoor_49 rfl (lv_at hl 4 rfl) ?_
      refine kx_p F inX1 tyX1 tyX1_ok nmX1 hW hS 8 d hd rfl rfl 0 (by decide) L_110 rfl (v := .int y) rfl rfl (Nat.le_of_ble_eq_true rfl) (upd (sg 8 d) 0 y) rfl dX3_setDoor_50 (fun H locs hW hS => ?_)
      have hW : kx_Wd G z0 ad nb (kx_up sg 8 d (upd (sg 8 d) 0 y)) H := hW
      refine lv_iload hx hb dX3_setDoor_53 (lv_at hl 0 rfl) ?_
      refine vx_ret ?_
      exact kx_ri F hr hlocks hW hS (by first | exact Nat.le_of_ble_eq_true rfl | omega) (by first | exact Nat.le_of_ble_eq_true rfl | omega) (⟨d, hd, rfl, tw_b_1 c_12, Classical.not_not.mp (of_decide_eq_false (tw_b_0 c_29)), rfl, rfl⟩) dX3_setDoor_55
    · exact kx_thr F hlf htab hlocks (cls := "java/lang/IllegalStateException") (text := "the door is kept") (ik := 60) (is := 128) (ic := 64) (by decide +kernel) (by decide +kernel) (by decide +kernel) (by decide +kernel) (by decide +kernel) (by decide +kernel) (by decide +kernel) hW hS hl.1 dX3_setDoor_32 dX3_setDoor_35 dX3_setDoor_36 dX3_setDoor_38 dX3_setDoor_41 (Nat.le_of_ble_eq_true rfl) (Nat.le_of_ble_eq_true rfl) (by first | exact Nat.le_of_ble_eq_true rfl | omega) (by first | exact Nat.le_of_ble_eq_true rfl | omega) (by first | exact Nat.le_of_ble_eq_true rfl | omega) (by first | exact Nat.le_of_ble_eq_true rfl | omega) (Or.inr (Or.inr ⟨rfl, d, hd, rfl, tw_b_1 c_12, of_decide_eq_true (tw_b_1 c_29)⟩))
  · exact kx_thr F hlf htab hlocks (cls := "java/lang/IllegalArgumentException") (text := "size is out of range") (ik := 53) (is := 122) (ic := 57) (by decide +kernel) (by decide +kernel) (by decide +kernel) (by decide +kernel) (by decide +kernel) (by decide +kernel) (by decide +kernel) hW hS hl.1 dX3_setDoor_15 dX3_setDoor_18 dX3_setDoor_19 dX3_setDoor_21 dX3_setDoor_24 (Nat.le_of_ble_eq_true rfl) (Nat.le_of_ble_eq_true rfl) (by first | exact Nat.le_of_ble_eq_true rfl | omega) (by first | exact Nat.le_of_ble_eq_true rfl | omega) (by first | exact Nat.le_of_ble_eq_true rfl | omega) (by first | exact Nat.le_of_ble_eq_true rfl | omega) (Or.inr (Or.inl ⟨rfl, ⟨d, hd, rfl⟩, tw_b_0 c_12⟩))

set_option maxHeartbeats 1000000 in
set_option maxRecDepth 100000 in
theorem c_X3_keep (l : Launch) (hlf : l.stackTraces = false) (G : kx_G) (z0 : Nat) (ad : kx_A) (nb : Nat) (sg : kx_S) (hC : tw_CI nb sg) (x y : Int32) : kx_MX l yX3_keep wsX3_keep 7 111 3 18 G z0 ad nb sg [.ref (ad 0 0), .int x, .int y] (fun r sg' => ∃ d k : Nat, d < 10 ∧ x = nI d ∧ k < nb ∧ y = nI k ∧ sg 8 d 2 = -1 ∧ sg 8 d 1 = 0 ∧ sg 9 k 0 ≤ sg 8 d 0 ∧ r = some (.int (tw_code (nI k) (nI d) (sg 0 0 8))) ∧ sg' = kx_up (kx_up sg 8 d (upd (upd (upd (sg 8 d) 2 (nI k)) 3 (tw_code (nI k) (nI d) (sg 0 0 8))) 4 0)) 0 0 (upd (sg 0 0) 8 (sg 0 0 8 + 1))) (fun E => (E = kx_ioe ∧ ((∀ d, d < 10 → ¬ x = nI d) ∨ (∀ k, k < nb → ¬ y = nI k))) ∨ (E = kx_ise ∧ ∃ d k : Nat, d < 10 ∧ x = nI d ∧ k < nb ∧ y = nI k ∧ (¬ sg 8 d 2 = -1 ∨ ¬ sg 8 d 1 = 0 ∨ ¬ sg 9 k 0 ≤ sg 8 d 0))) := by
  refine vx_ofW (cc := cX3_keep) (maxL := 5) (ret := (some .int)) (by decide) rfl ?_
  intro p e s m args below meth c s₁ B hml htab hv
  obtain ⟨rfl, hW, hV⟩ := hv
  have hts := atoms_spec (ws := wsX3_keep) B.pre
  have F : kx_F p s m c cX3_keep 5 RX3 _ wsX3_keep G z0 := ⟨B.exec, B.bytes, hml, findClass_of_methodNamed B.named, hts, hV⟩
  have hx := B.exec; have hb := B.bytes; have hr := B.returns; have hlocks := B.notSynchronized
  have hS : va_S (kx_Ad z0) s.heap s.heap [] := va_S.rf
  obtain ⟨hnb, hwf, hbl, hjm, hkp, hnn⟩ := hC
  have L_107 : Cond.fieldLink RX3 107 (TX0 0).1 (TX0 0).2.1 (TX0 0).2.2.1 ∈ wsX3_keep := by decide +kernel
  have L_110 : Cond.fieldLink RX3 110 (TX1 0).1 (TX1 0).2.1 (TX1 0).2.2.1 ∈ wsX3_keep := by decide +kernel
  have L_130 : Cond.fieldLink RX3 130 (TX1 1).1 (TX1 1).2.1 (TX1 1).2.2.1 ∈ wsX3_keep := by decide +kernel
  have L_136 : Cond.fieldLink RX3 136 (TX1 2).1 (TX1 2).2.1 (TX1 2).2.2.1 ∈ wsX3_keep := by decide +kernel
  have L_139 : Cond.fieldLink RX3 139 (TX1 3).1 (TX1 3).2.1 (TX1 3).2.2.1 ∈ wsX3_keep := by decide +kernel
  have L_142 : Cond.fieldLink RX3 142 (TX1 4).1 (TX1 4).2.1 (TX1 4).2.2.1 ∈ wsX3_keep := by decide +kernel
  have L_45 : Cond.fieldLink RX3 45 (TX3 8).1 (TX3 8).2.1 (TX3 8).2.2.1 ∈ wsX3_keep := by decide +kernel
  have inX0 : ∀ w ∈ u_ws RX0 TX0 11, w ∈ wsX3_keep := by decide +kernel
  have inX1 : ∀ w ∈ u_ws RX1 TX1 5, w ∈ wsX3_keep := by decide +kernel
  have inX3 : ∀ w ∈ u_ws RX3 TX3 9, w ∈ wsX3_keep := by decide +kernel
  have hl := lv_entry ([.ref (ad 0 0), .int x, .int y]) (n := 5) (Nat.le_of_ble_eq_true rfl)
  rw [lg_entry_eq]
  generalize (lg_sl ([.ref (ad 0 0), .int x, .int y]) ++ List.replicate (5 - (lg_sl ([.ref (ad 0 0), .int x, .int y])).length) Slot.unset).toArray = ls at hl ⊢
  have hl : lv_has ls 5 [(0, .ref (ad 0 0)), (1, .int x), (2, .int y)] := hl
  refine lv_aload_n hx hb dX3_keep_0 rfl (lv_at hl 0 rfl) ?_
  refine lv_iload_n hx hb dX3_keep_1 rfl (lv_at hl 1 rfl) ?_
  refine kx_xV (na := 1) F (q := 0) (n := 0) (c_X3_doorAt l hlf G z0 ad nb sg x) gX3_keep_X3_doorAt rfl (by decide +kernel) ⟨Nat.le_of_ble_eq_true rfl, Nat.le_of_ble_eq_true rfl⟩ hW hS ⟨by decide, rfl⟩ rfl rfl (As := [.int x]) (rest := []) rfl hl.1 rfl (Nat.le_of_ble_eq_true rfl) dX3_keep_2 ⟨by first | exact Nat.le_of_ble_eq_true rfl | omega, by first | exact Nat.le_of_ble_eq_true rfl | omega⟩ (fun E9 ce9 q9 H locs hp9 hW hS h7 h8 h9 => ?_) (fun r9 sg9 H locs hq hW hS => ?_)
  · exact kx_out htab hlocks hW hS (by first | exact Nat.le_of_ble_eq_true rfl | omega) (by first | exact Nat.le_of_ble_eq_true rfl | omega) (Or.inl ⟨hp9.1, Or.inl hp9.2⟩) h7 h8 h9
  obtain ⟨d, hd, rfl, rfl, e9⟩ := hq
  rw [e9] at hW
  refine W.eq (g2 := F0 m 5 ls [.ref (ad 8 d)]) rfl ?_
  refine lv_astore_n (lv' := [(3, .ref (ad 8 d)), (0, .ref (ad 0 0)), (1, .int (nI d)), (2, .int y)]) hx hb dX3_keep_5 rfl hl (by decide) rfl (fun ls hl => ?_)
  refine lv_aload_n hx hb dX3_keep_6 rfl (lv_at hl 1 rfl) ?_
  refine lv_iload_n hx hb dX3_keep_7 rfl (lv_at hl 3 rfl) ?_
  refine kx_xV (na := 1) F (q := 0) (n := 0) (c_X3_boxAt l hlf G z0 ad nb sg hnb y) gX3_keep_X3_boxAt rfl (by decide +kernel) ⟨Nat.le_of_ble_eq_true rfl, Nat.le_of_ble_eq_true rfl⟩ hW hS ⟨by decide, rfl⟩ rfl rfl (As := [.int y]) (rest := []) rfl hl.1 rfl (Nat.le_of_ble_eq_true rfl) dX3_keep_8 ⟨by first | exact Nat.le_of_ble_eq_true rfl | omega, by first | exact Nat.le_of_ble_eq_true rfl | omega⟩ (fun E9 ce9 q9 H locs hp9 hW hS h7 h8 h9 => ?_) (fun r9 sg9 H locs hq hW hS => ?_)
  · exact kx_out htab hlocks hW hS (by first | exact Nat.le_of_ble_eq_true rfl | omega) (by first | exact Nat.le_of_ble_eq_true rfl | omega) (Or.inl ⟨hp9.1, Or.inr hp9.2⟩) h7 h8 h9
  obtain ⟨k, hk, rfl, rfl, e9⟩ := hq
  rw [e9] at hW
  refine W.eq (g2 := F0 m 11 ls [.ref (ad 9 k)]) rfl ?_
  refine lv_astore (lv' := [(4, .ref (ad 9 k)), (3, .ref (ad 8 d)), (0, .ref (ad 0 0)), (1, .int (nI d)), (2, .int (nI k))]) hx hb dX3_keep_11 hl (by decide) rfl (fun ls hl => ?_)
  refine lv_aload_n hx hb dX3_keep_13 rfl (lv_at hl 1 rfl) ?_
  refine kx_cV (na := 0) F (q := 8) (n := d) (c_X1_isKept l G z0 ad nb sg d hd) gX3_keep_X1_isKept rfl (by decide +kernel) ⟨Nat.le_of_ble_eq_true rfl, Nat.le_of_ble_eq_true rfl⟩ hW hS hd rfl rfl (As := []) (rest := []) rfl hl.1 rfl (Nat.le_of_ble_eq_true rfl) dX3_keep_14 ⟨by first | exact Nat.le_of_ble_eq_true rfl | omega, by first | exact Nat.le_of_ble_eq_true rfl | omega⟩ (fun r9 sg9 H locs hq hW hS => ?_)
  obtain ⟨rfl, e9⟩ := hq
  rw [e9] at hW
  refine W.eq (g2 := F0 m 17 ls [.int (tw_b (decide (¬ sg 8 d 2 = -1)))]) rfl ?_
  refine lv_if_ne (tgt := 39) hx hb dX3_keep_17 (by decide) (fun c_17 => ?_) (fun c_17 => ?_)
  · exact kx_thr F hlf htab hlocks (cls := "java/lang/IllegalStateException") (text := "the door is kept, or jammed, or smaller than the box") (ik := 60) (is := 134) (ic := 64) (by decide +kernel) (by decide +kernel) (by decide +kernel) (by decide +kernel) (by decide +kernel) (by decide +kernel) (by decide +kernel) hW hS hl.1 dX3_keep_39 dX3_keep_42 dX3_keep_43 dX3_keep_45 dX3_keep_48 (Nat.le_of_ble_eq_true rfl) (Nat.le_of_ble_eq_true rfl) (by first | exact Nat.le_of_ble_eq_true rfl | omega) (by first | exact Nat.le_of_ble_eq_true rfl | omega) (by first | exact Nat.le_of_ble_eq_true rfl | omega) (by first | exact Nat.le_of_ble_eq_true rfl | omega) (Or.inr ⟨rfl, d, k, hd, rfl, hk, rfl, Or.inl (of_decide_eq_true (tw_b_1 c_17))⟩)
  · refine lv_aload_n hx hb dX3_keep_20 rfl (lv_at hl 1 rfl) ?_
    refine kx_g F inX1 hW 8 d hd rfl rfl 1 (by decide) L_130 (v := .int (sg 8 d 1)) rfl dX3_keep_21 ?_
    refine lv_if_ne (tgt := 39) hx hb dX3_keep_24 (by decide) (fun c_24 => ?_) (fun c_24 => ?_)
    · exact kx_thr F hlf htab hlocks (cls := "java/lang/IllegalStateException") (text := "the door is kept, or jammed, or smaller than the box") (ik := 60) (is := 134) (ic := 64) (by decide +kernel) (by decide +kernel) (by decide +kernel) (by decide +kernel) (by decide +kernel) (by decide +kernel) (by decide +kernel) hW hS hl.1 dX3_keep_39 dX3_keep_42 dX3_keep_43 dX3_keep_45 dX3_keep_48 (Nat.le_of_ble_eq_true rfl) (Nat.le_of_ble_eq_true rfl) (by first | exact Nat.le_of_ble_eq_true rfl | omega) (by first | exact Nat.le_of_ble_eq_true rfl | omega) (by first | exact Nat.le_of_ble_eq_true rfl | omega) (by first | exact Nat.le_of_ble_eq_true rfl | omega) (Or.inr ⟨rfl, d, k, hd, rfl, hk, rfl, Or.inr (Or.inl c_24)⟩)
    · refine lv_aload_n hx hb dX3_keep_27 rfl (lv_at hl 1 rfl) ?_
      refine kx_g F inX1 hW 8 d hd rfl rfl 0 (by decide) L_110 (v := .int (sg 8 d 0)) rfl dX3_keep_28 ?_
      refine lv_aload hx hb dX3_keep_31 (lv_at hl 0 rfl) ?_
      refine kx_g F inX0 hW 9 k hk rfl rfl 0 (by decide) L_107 (v := .int (sg 9 k 0)) rfl dX3_keep_33 ?_
      refine lv_icmp_ge (tgt := 49) hx hb dX3_keep_36 (by decide) (fun c_36 => ?_) (fun c_36 => ?_)
      · refine lv_aload_n hx hb dX3_keep_49 rfl (lv_at hl 1 rfl) ?_
        refine lv_iload_n hx hb dX3_keep_50 rfl (lv_at hl 4 rfl) ?_
        refine kx_p F inX1 tyX1 tyX1_ok nmX1 hW hS 8 d hd rfl rfl 2 (by decide) L_136 rfl (v := .int (nI k)) rfl rfl (Nat.le_of_ble_eq_true rfl) (upd (sg 8 d) 2 (nI k)) rfl dX3_keep_51 (fun H locs hW hS => ?_)
        have hW : kx_Wd G z0 ad nb (kx_up sg 8 d (upd (sg 8 d) 2 (nI k))) H := hW
        refine lv_aload_n hx hb dX3_keep_54 rfl (lv_at hl 1 rfl) ?_
        refine lv_bipush (v := 37) hx hb dX3_keep_55 (by decide) ?_
        refine lv_iload_n hx hb dX3_keep_57 rfl (lv_at hl 4 rfl) ?_
        refine lv_imul hx hb dX3_keep_58 ?_
        refine lv_bipush (v := 11) hx hb dX3_keep_59 (by decide) ?_
        refine lv_iload_n hx hb dX3_keep_61 rfl (lv_at hl 3 rfl) ?_
        refine lv_imul hx hb dX3_keep_62 ?_
        refine lv_iadd hx hb dX3_keep_63 ?_
        refine lv_bipush (v := 101) hx hb dX3_keep_64 (by decide) ?_
        refine lv_aload_n hx hb dX3_keep_66 rfl (lv_at hl 2 rfl) ?_
        refine kx_g F inX3 hW 0 0 ⟨by decide, rfl⟩ rfl rfl 8 (by decide) L_45 (v := .int (sg 0 0 8)) (by first | rfl | (simp only [kx_up_s]; done) | (simp only [kx_up_s, upd_s]; done) | (simp only [kx_up_s]; rfl) | (simp [kx_up, upd]; done)) dX3_keep_67 ?_
        refine lv_imul hx hb dX3_keep_70 ?_
        refine lv_iadd hx hb dX3_keep_71 ?_
        refine lv_sipush (v := 1000) hx hb dX3_keep_72 (by decide) ?_
        refine lv_irem hx hb dX3_keep_75 (by decide) ?_
        refine kx_p F inX1 tyX1 tyX1_ok nmX1 hW hS 8 d hd rfl rfl 3 (by decide) L_139 rfl (v := .int ((((37 * (nI k)) + (11 * (nI d))) + (101 * (sg 0 0 8))) - (((37 * (nI k)) + (11 * (nI d))) + (101 * (sg 0 0 8))) / 1000 * 1000)) rfl rfl (Nat.le_of_ble_eq_true rfl) (upd ((kx_up sg 8 d (upd (sg 8 d) 2 (nI k))) 8 d) 3 ((((37 * (nI k)) + (11 * (nI d))) + (101 * (sg 0 0 8))) - (((37 * (nI k)) + (11 * (nI d))) + (101 * (sg 0 0 8))) / 1000 * 1000)) rfl dX3_keep_76 (fun H locs hW hS => ?_)
        have er9 : (kx_up sg 8 d (upd (sg 8 d) 2 (nI k))) 8 d = upd (sg 8 d) 2 (nI k) := by first | rfl | (simp only [kx_up_s]; done) | (simp [kx_up]; done)
        rw [er9] at hW
        rw [kx_up_up] at hW
        have hW : kx_Wd G z0 ad nb (kx_up sg 8 d (upd (upd (sg 8 d) 2 (nI k)) 3 ((((37 * (nI k)) + (11 * (nI d))) + (101 * (sg 0 0 8))) - (((37 * (nI k)) + (11 * (nI d))) + (101 * (sg 0 0 8))) / 1000 * 1000))) H := hW
        refine lv_aload_n hx hb dX3_keep_79 rfl (lv_at hl 1 rfl) ?_
        refine lv_iconst (v := 0) hx hb dX3_keep_80 (by decide) ?_
        refine kx_p F inX1 tyX1 tyX1_ok nmX1 hW hS 8 d hd rfl rfl 4 (by decide) L_142 rfl (v := .int 0) rfl rfl (Nat.le_of_ble_eq_true rfl) (upd ((kx_up sg 8 d (upd (upd (sg 8 d) 2 (nI k)) 3 ((((37 * (nI k)) + (11 * (nI d))) + (101 * (sg 0 0 8))) - (((37 * (nI k)) + (11 * (nI d))) + (101 * (sg 0 0 8))) / 1000 * 1000))) 8 d) 4 0) rfl dX3_keep_81 (fun H locs hW hS => ?_)
        have er9 : (kx_up sg 8 d (upd (upd (sg 8 d) 2 (nI k)) 3 ((((37 * (nI k)) + (11 * (nI d))) + (101 * (sg 0 0 8))) - (((37 * (nI k)) + (11 * (nI d))) + (101 * (sg 0 0 8))) / 1000 * 1000))) 8 d = upd (upd (sg 8 d) 2 (nI k)) 3 ((((37 * (nI k)) + (11 * (nI d))) + (101 * (sg 0 0 8))) - (((37 * (nI k)) + (11 * (nI d))) + (101 * (sg 0 0 8))) / 1000 * 1000) := by first | rfl | (simp only [kx_up_s]; done) | (simp [kx_up]; done)
        rw [er9] at hW
        rw [kx_up_up] at hW
        have hW : kx_Wd G z0 ad nb (kx_up sg 8 d (upd (upd (upd (sg 8 d) 2 (nI k)) 3 ((((37 * (nI k)) + (11 * (nI d))) + (101 * (sg 0 0 8))) - (((37 * (nI k)) + (11 * (nI d))) + (101 * (sg 0 0 8))) / 1000 * 1000)) 4 0)) H := hW
        refine lv_aload_n hx hb dX3_keep_84 rfl (lv_at hl 2 rfl) ?_
        refine lv_dup hx hb dX3_keep_85 rfl ?_
        refine kx_g F inX3 hW 0 0 ⟨by decide, rfl⟩ rfl rfl 8 (by decide) L_45 (v := .int (sg 0 0 8)) (by first | rfl | (simp only [kx_up_s]; done) | (simp only [kx_up_s, upd_s]; done) | (simp only [kx_up_s]; rfl) | (simp [kx_up, upd]; done)) dX3_keep_86 ?_
        refine lv_iconst (v := 1) hx hb dX3_keep_89 (by decide) ?_
        refine lv_iadd hx hb dX3_keep_90 ?_
        refine kx_p F inX3 tyX3 tyX3_ok nmX3 hW hS 0 0 ⟨by decide, rfl⟩ rfl rfl 8 (by decide) L_45 rfl (v := .int ((sg 0 0 8) + 1)) rfl rfl (Nat.le_of_ble_eq_true rfl) (upd ((kx_up sg 8 d (upd (upd (upd (sg 8 d) 2 (nI k)) 3 ((((37 * (nI k)) + (11 * (nI d))) + (101 * (sg 0 0 8))) - (((37 * (nI k)) + (11 * (nI d))) + (101 * (sg 0 0 8))) / 1000 * 1000)) 4 0)) 0 0) 8 ((sg 0 0 8) + 1)) rfl dX3_keep_91 (fun H locs hW hS => ?_)
        have er9 : (kx_up sg 8 d (upd (upd (upd (sg 8 d) 2 (nI k)) 3 ((((37 * (nI k)) + (11 * (nI d))) + (101 * (sg 0 0 8))) - (((37 * (nI k)) + (11 * (nI d))) + (101 * (sg 0 0 8))) / 1000 * 1000)) 4 0)) 0 0 = sg 0 0 := by first | rfl | (simp only [kx_up_s]; done) | (simp [kx_up]; done)
        rw [er9] at hW
        have hW : kx_Wd G z0 ad nb (kx_up (kx_up sg 8 d (upd (upd (upd (sg 8 d) 2 (nI k)) 3 ((((37 * (nI k)) + (11 * (nI d))) + (101 * (sg 0 0 8))) - (((37 * (nI k)) + (11 * (nI d))) + (101 * (sg 0 0 8))) / 1000 * 1000)) 4 0)) 0 0 (upd (sg 0 0) 8 ((sg 0 0 8) + 1))) H := hW
        refine lv_aload_n hx hb dX3_keep_94 rfl (lv_at hl 1 rfl) ?_
        refine kx_g F inX1 hW 8 d hd rfl rfl 3 (by decide) L_139 (v := .int ((((37 * (nI k)) + (11 * (nI d))) + (101 * (sg 0 0 8))) - (((37 * (nI k)) + (11 * (nI d))) + (101 * (sg 0 0 8))) / 1000 * 1000)) (by first | rfl | (simp only [kx_up_s]; done) | (simp only [kx_up_s, upd_s]; done) | (simp only [kx_up_s]; rfl) | (simp [kx_up, upd]; done)) dX3_keep_95 ?_
        refine vx_ret ?_
        exact kx_ri F hr hlocks hW hS (by first | exact Nat.le_of_ble_eq_true rfl | omega) (by first | exact Nat.le_of_ble_eq_true rfl | omega) (⟨d, k, hd, rfl, hk, rfl, Classical.not_not.mp (of_decide_eq_false (tw_b_0 c_17)), Classical.not_not.mp (fun h => h c_24), c_36, rfl, rfl⟩) dX3_keep_98
      · exact kx_thr F hlf htab hlocks (cls := "java/lang/IllegalStateException") (text := "the door is kept, or jammed, or smaller than the box") (ik := 60) (is := 134) (ic := 64) (by decide +kernel) (by decide +kernel) (by decide +kernel) (by decide +kernel) (by decide +kernel) (by decide +kernel) (by decide +kernel) hW hS hl.1 dX3_keep_39 dX3_keep_42 dX3_keep_43 dX3_keep_45 dX3_keep_48 (Nat.le_of_ble_eq_true rfl) (Nat.le_of_ble_eq_true rfl) (by first | exact Nat.le_of_ble_eq_true rfl | omega) (by first | exact Nat.le_of_ble_eq_true rfl | omega) (by first | exact Nat.le_of_ble_eq_true rfl | omega) (by first | exact Nat.le_of_ble_eq_true rfl | omega) (Or.inr ⟨rfl, d, k, hd, rfl, hk, rfl, Or.inr (Or.inr c_36)⟩)

set_option maxHeartbeats 1000000 in
set_option maxRecDepth 100000 in
theorem c_X3_open (l : Launch) (hlf : l.stackTraces = false) (G : kx_G) (z0 : Nat) (ad : kx_A) (nb : Nat) (sg : kx_S) (hC : tw_CI nb sg) (x y : Int32) : kx_MX l yX3_open wsX3_open 7 137 3 18 G z0 ad nb sg [.ref (ad 0 0), .int x, .int y] (fun r sg' => ∃ d : Nat, d < 10 ∧ x = nI d ∧ tw_in y 0 999 = true ∧ ¬ sg 8 d 2 = -1 ∧ sg 8 d 1 = 0 ∧ ((¬ y = sg 8 d 3 ∧ r = some (.int (-1)) ∧ ((sg 8 d 4 + 1 < 3 ∧ sg' = kx_up sg 8 d (upd (sg 8 d) 4 (sg 8 d 4 + 1))) ∨ (¬ sg 8 d 4 + 1 < 3 ∧ tw_SA nb (kx_up sg 8 d (upd (upd (sg 8 d) 4 (sg 8 d 4 + 1)) 1 1)) sg'))) ∨ (y = sg 8 d 3 ∧ ∃ k : Nat, k < nb ∧ sg 8 d 2 = nI k ∧ r = some (.int (nI k)) ∧ ((tw_n sg k < 12 ∧ tw_AS (kx_up sg 8 d (upd (sg 8 d) 2 (-1))) k (tw_n sg k) 30 (4 + d) sg') ∨ (tw_n sg k = 12 ∧ tw_SR (kx_up sg 8 d (upd (sg 8 d) 2 (-1))) sg' k (tw_stl (kx_up sg 8 d (upd (sg 8 d) 2 (-1))) k 12)))))) (fun E => (E = kx_ioe ∧ (∀ d, d < 10 → ¬ x = nI d)) ∨ (E = kx_iae ∧ (∃ d : Nat, d < 10 ∧ x = nI d) ∧ tw_in y 0 999 = false) ∨ (E = kx_ise ∧ ∃ d : Nat, d < 10 ∧ x = nI d ∧ tw_in y 0 999 = true ∧ (sg 8 d 2 = -1 ∨ ¬ sg 8 d 1 = 0))) := by
  refine vx_ofW (cc := cX3_open) (maxL := 5) (ret := (some .int)) (by decide) rfl ?_
  intro p e s m args below meth c s₁ B hml htab hv
  obtain ⟨rfl, hW, hV⟩ := hv
  have hts := atoms_spec (ws := wsX3_open) B.pre
  have F : kx_F p s m c cX3_open 5 RX3 _ wsX3_open G z0 := ⟨B.exec, B.bytes, hml, findClass_of_methodNamed B.named, hts, hV⟩
  have hx := B.exec; have hb := B.bytes; have hr := B.returns; have hlocks := B.notSynchronized
  have hS : va_S (kx_Ad z0) s.heap s.heap [] := va_S.rf
  obtain ⟨hnb, hwf, hbl, hjm, hkp, hnn⟩ := hC
  have L_130 : Cond.fieldLink RX3 130 (TX1 1).1 (TX1 1).2.1 (TX1 1).2.2.1 ∈ wsX3_open := by decide +kernel
  have L_136 : Cond.fieldLink RX3 136 (TX1 2).1 (TX1 2).2.1 (TX1 2).2.2.1 ∈ wsX3_open := by decide +kernel
  have L_139 : Cond.fieldLink RX3 139 (TX1 3).1 (TX1 3).2.1 (TX1 3).2.2.1 ∈ wsX3_open := by decide +kernel
  have inX1 : ∀ w ∈ u_ws RX1 TX1 5, w ∈ wsX3_open := by decide +kernel
  have hl := lv_entry ([.ref (ad 0 0), .int x, .int y]) (n := 5) (Nat.le_of_ble_eq_true rfl)
  rw [lg_entry_eq]
  generalize (lg_sl ([.ref (ad 0 0), .int x, .int y]) ++ List.replicate (5 - (lg_sl ([.ref (ad 0 0), .int x, .int y])).length) Slot.unset).toArray = ls at hl ⊢
  have hl : lv_has ls 5 [(0, .ref (ad 0 0)), (1, .int x), (2, .int y)] := hl
  refine lv_aload_n hx hb dX3_open_0 rfl (lv_at hl 0 rfl) ?_
  refine lv_iload_n hx hb dX3_open_1 rfl (lv_at hl 1 rfl) ?_
  refine kx_xV (na := 1) F (q := 0) (n := 0) (c_X3_doorAt l hlf G z0 ad nb sg x) gX3_open_X3_doorAt rfl (by decide +kernel) ⟨Nat.le_of_ble_eq_true rfl, Nat.le_of_ble_eq_true rfl⟩ hW hS ⟨by decide, rfl⟩ rfl rfl (As := [.int x]) (rest := []) rfl hl.1 rfl (Nat.le_of_ble_eq_true rfl) dX3_open_2 ⟨by first | exact Nat.le_of_ble_eq_true rfl | omega, by first | exact Nat.le_of_ble_eq_true rfl | omega⟩ (fun E9 ce9 q9 H locs hp9 hW hS h7 h8 h9 => ?_) (fun r9 sg9 H locs hq hW hS => ?_)
  · exact kx_out htab hlocks hW hS (by first | exact Nat.le_of_ble_eq_true rfl | omega) (by first | exact Nat.le_of_ble_eq_true rfl | omega) (Or.inl hp9) h7 h8 h9
  obtain ⟨d, hd, rfl, rfl, e9⟩ := hq
  rw [e9] at hW
  refine W.eq (g2 := F0 m 5 ls [.ref (ad 8 d)]) rfl ?_
  refine lv_astore_n (lv' := [(3, .ref (ad 8 d)), (0, .ref (ad 0 0)), (1, .int (nI d)), (2, .int y)]) hx hb dX3_open_5 rfl hl (by decide) rfl (fun ls hl => ?_)
  refine lv_iload_n hx hb dX3_open_6 rfl (lv_at hl 3 rfl) ?_
  refine lv_iconst (v := 0) hx hb dX3_open_7 (by decide) ?_
  refine lv_sipush (v := 999) hx hb dX3_open_8 (by decide) ?_
  refine kx_cS (na := 3) F (c_X3_isWithin l G z0 ad nb sg y 0 999) gX3_open_X3_isWithin rfl (by decide +kernel) ⟨Nat.le_of_ble_eq_true rfl, Nat.le_of_ble_eq_true rfl⟩ hW hS (As := [.int y, .int 0, .int 999]) (rest := []) rfl hl.1 rfl (Nat.le_of_ble_eq_true rfl) dX3_open_11 ⟨by first | exact Nat.le_of_ble_eq_true rfl | omega, by first | exact Nat.le_of_ble_eq_true rfl | omega⟩ (fun r9 sg9 H locs hq hW hS => ?_)
  obtain ⟨rfl, e9⟩ := hq
  rw [e9] at hW
  refine W.eq (g2 := F0 m 14 ls [.int (tw_b (tw_in y 0 999))]) rfl ?_
  refine lv_if_ne (tgt := 27) hx hb dX3_open_14 (by decide) (fun c_14 => ?_) (fun c_14 => ?_)
  · refine lv_aload_n hx hb dX3_open_27 rfl (lv_at hl 0 rfl) ?_
    refine kx_cV (na := 0) F (q := 8) (n := d) (c_X1_isKept l G z0 ad nb sg d hd) gX3_open_X1_isKept rfl (by decide +kernel) ⟨Nat.le_of_ble_eq_true rfl, Nat.le_of_ble_eq_true rfl⟩ hW hS hd rfl rfl (As := []) (rest := []) rfl hl.1 rfl (Nat.le_of_ble_eq_true rfl) dX3_open_28 ⟨by first | exact Nat.le_of_ble_eq_true rfl | omega, by first | exact Nat.le_of_ble_eq_true rfl | omega⟩ (fun r9 sg9 H locs hq hW hS => ?_)
    obtain ⟨rfl, e9⟩ := hq
    rw [e9] at hW
    refine W.eq (g2 := F0 m 31 ls [.int (tw_b (decide (¬ sg 8 d 2 = -1)))]) rfl ?_
    refine lv_if_eq (tgt := 41) hx hb dX3_open_31 (by decide) (fun c_31 => ?_) (fun c_31 => ?_)
    · exact kx_thr F hlf htab hlocks (cls := "java/lang/IllegalStateException") (text := "the door is not kept, or is jammed") (ik := 60) (is := 147) (ic := 64) (by decide +kernel) (by decide +kernel) (by decide +kernel) (by decide +kernel) (by decide +kernel) (by decide +kernel) (by decide +kernel) hW hS hl.1 dX3_open_41 dX3_open_44 dX3_open_45 dX3_open_47 dX3_open_50 (Nat.le_of_ble_eq_true rfl) (Nat.le_of_ble_eq_true rfl) (by first | exact Nat.le_of_ble_eq_true rfl | omega) (by first | exact Nat.le_of_ble_eq_true rfl | omega) (by first | exact Nat.le_of_ble_eq_true rfl | omega) (by first | exact Nat.le_of_ble_eq_true rfl | omega) (Or.inr (Or.inr ⟨rfl, d, hd, rfl, tw_b_1 c_14, Or.inl (Classical.not_not.mp (of_decide_eq_false (tw_b_0 c_31)))⟩))
    · refine lv_aload_n hx hb dX3_open_34 rfl (lv_at hl 0 rfl) ?_
      refine kx_g F inX1 hW 8 d hd rfl rfl 1 (by decide) L_130 (v := .int (sg 8 d 1)) rfl dX3_open_35 ?_
      refine lv_if_eq (tgt := 51) hx hb dX3_open_38 (by decide) (fun c_38 => ?_) (fun c_38 => ?_)
      · refine lv_iload_n hx hb dX3_open_51 rfl (lv_at hl 3 rfl) ?_
        refine lv_aload_n hx hb dX3_open_52 rfl (lv_at hl 0 rfl) ?_
        refine kx_g F inX1 hW 8 d hd rfl rfl 3 (by decide) L_139 (v := .int (sg 8 d 3)) rfl dX3_open_53 ?_
        refine lv_icmp_eq (tgt := 66) hx hb dX3_open_56 (by decide) (fun c_56 => ?_) (fun c_56 => ?_)
        · refine lv_aload_n hx hb dX3_open_66 rfl (lv_at hl 0 rfl) ?_
          refine kx_g F inX1 hW 8 d hd rfl rfl 2 (by decide) L_136 (v := .int (sg 8 d 2)) rfl dX3_open_67 ?_
          refine lv_istore (lv' := [(4, .int (sg 8 d 2)), (3, .ref (ad 8 d)), (0, .ref (ad 0 0)), (1, .int (nI d)), (2, .int y)]) hx hb dX3_open_70 hl (by decide) rfl (fun ls hl => ?_)
          refine lv_aload_n hx hb dX3_open_72 rfl (lv_at hl 1 rfl) ?_
          refine lv_iconst (v := (-1)) hx hb dX3_open_73 (by decide) ?_
          refine kx_p F inX1 tyX1 tyX1_ok nmX1 hW hS 8 d hd rfl rfl 2 (by decide) L_136 rfl (v := .int (-1)) rfl rfl (Nat.le_of_ble_eq_true rfl) (upd (sg 8 d) 2 (-1)) rfl dX3_open_74 (fun H locs hW hS => ?_)
          have hW : kx_Wd G z0 ad nb (kx_up sg 8 d (upd (sg 8 d) 2 (-1))) H := hW
          refine lv_aload_n hx hb dX3_open_77 rfl (lv_at hl 2 rfl) ?_
          refine lv_aload_n hx hb dX3_open_78 rfl (lv_at hl 2 rfl) ?_
          refine lv_iload hx hb dX3_open_79 (lv_at hl 0 rfl) ?_
          refine kx_xV (na := 1) F (q := 0) (n := 0) (c_X3_boxAt l hlf G z0 ad nb (kx_up sg 8 d (upd (sg 8 d) 2 (-1))) hnb (sg 8 d 2)) gX3_open_X3_boxAt rfl (by decide +kernel) ⟨Nat.le_of_ble_eq_true rfl, Nat.le_of_ble_eq_true rfl⟩ hW hS ⟨by decide, rfl⟩ rfl rfl (As := [.int (sg 8 d 2)]) (rest := [.ref (ad 0 0)]) rfl hl.1 rfl (Nat.le_of_ble_eq_true rfl) dX3_open_81 ⟨by first | exact Nat.le_of_ble_eq_true rfl | omega, by first | exact Nat.le_of_ble_eq_true rfl | omega⟩ (fun E9 ce9 q9 H locs hp9 hW hS h7 h8 h9 => ?_) (fun r9 sg9 H locs hq hW hS => ?_)
          · exfalso
            rcases hkp d hd with h | ⟨b, hb, h⟩
            · exact (of_decide_eq_true (tw_b_1 c_31)) h
            · exact hp9.2 b hb h
          obtain ⟨k, hk, hxk, rfl, e9⟩ := hq
          rw [e9] at hW
          obtain ⟨n9, hn9, h129, hm9⟩ := hwf.1 k hk
          have en9 := tw_n_eq hn9 h129
          refine W.eq (g2 := F0 m 84 ls [.ref (ad 9 k), .ref (ad 0 0)]) rfl ?_
          refine lv_bipush (v := 30) hx hb dX3_open_84 (by decide) ?_
          refine lv_iconst (v := 4) hx hb dX3_open_86 (by decide) ?_
          refine lv_iload_n hx hb dX3_open_87 rfl (lv_at hl 3 rfl) ?_
          refine lv_iadd hx hb dX3_open_88 ?_
          rw [show (4 : Int32) + nI d = nI (4 + d) from nI_add 4 d]
          refine kx_cV (na := 3) F (q := 0) (n := 0) (c_X3_addScan_any l G z0 ad nb (kx_up sg 8 d (upd (sg 8 d) 2 (-1))) k hk n9 hn9 h129 hm9 hwf.2 30 (4 + d) (by omega)) gX3_open_X3_addScan rfl (by decide +kernel) ⟨Nat.le_of_ble_eq_true rfl, Nat.le_of_ble_eq_true rfl⟩ hW hS ⟨by decide, rfl⟩ rfl rfl (As := [.ref (ad 9 k), .int 30, .int (nI (4 + d))]) (rest := []) rfl hl.1 rfl (Nat.le_of_ble_eq_true rfl) dX3_open_89 ⟨by first | exact Nat.le_of_ble_eq_true rfl | omega, by first | exact Nat.le_of_ble_eq_true rfl | omega⟩ (fun r9 sg9 H locs hq hW hS => ?_)
          obtain ⟨v9, rfl, hor9⟩ := hq
          have hW : kx_Wd G z0 ad nb (sg9) H := by first | exact hW | (simp only [kx_up_s, kx_up_up] at hW; exact hW) | (simp only [kx_up_s, kx_up_up, upd_s] at hW; exact hW)
          refine W.eq (g2 := F0 m 92 ls [.int v9]) rfl ?_
          refine lv_pop hx hb dX3_open_92 rfl ?_
          refine lv_iload hx hb dX3_open_93 (lv_at hl 0 rfl) ?_
          refine vx_ret ?_
          exact kx_ri F hr hlocks hW hS (by first | exact Nat.le_of_ble_eq_true rfl | omega) (by first | exact Nat.le_of_ble_eq_true rfl | omega) (⟨d, hd, rfl, tw_b_1 c_14, of_decide_eq_true (tw_b_1 c_31), c_38, Or.inr ⟨c_56, k, hk, hxk, congrArg (fun z => some (Value.int z)) hxk, by rw [en9]; rcases hor9 with ⟨h1, h2, h3⟩ | h1; exact Or.inl ⟨h1, h3⟩; exact Or.inr h1⟩⟩) dX3_open_95
        · refine lv_aload_n hx hb dX3_open_59 rfl (lv_at hl 1 rfl) ?_
          refine lv_aload_n hx hb dX3_open_60 rfl (lv_at hl 0 rfl) ?_
          refine kx_cV (na := 1) F (q := 0) (n := 0) (c_X3_countWrongCode l G z0 ad nb sg hnb hwf d hd) gX3_open_X3_countWrongCode rfl (by decide +kernel) ⟨Nat.le_of_ble_eq_true rfl, Nat.le_of_ble_eq_true rfl⟩ hW hS ⟨by decide, rfl⟩ rfl rfl (As := [.ref (ad 8 d)]) (rest := []) rfl hl.1 rfl (Nat.le_of_ble_eq_true rfl) dX3_open_61 ⟨by first | exact Nat.le_of_ble_eq_true rfl | omega, by first | exact Nat.le_of_ble_eq_true rfl | omega⟩ (fun r9 sg9 H locs hq hW hS => ?_)
          obtain ⟨rfl, hcw9⟩ := hq
          have hW : kx_Wd G z0 ad nb (sg9) H := by first | exact hW | (simp only [kx_up_s, kx_up_up] at hW; exact hW) | (simp only [kx_up_s, kx_up_up, upd_s] at hW; exact hW)
          refine W.eq (g2 := F0 m 64 ls []) rfl ?_
          refine lv_iconst (v := (-1)) hx hb dX3_open_64 (by decide) ?_
          refine vx_ret ?_
          exact kx_ri F hr hlocks hW hS (by first | exact Nat.le_of_ble_eq_true rfl | omega) (by first | exact Nat.le_of_ble_eq_true rfl | omega) (⟨d, hd, rfl, tw_b_1 c_14, of_decide_eq_true (tw_b_1 c_31), c_38, Or.inl ⟨c_56, rfl, hcw9⟩⟩) dX3_open_65
      · exact kx_thr F hlf htab hlocks (cls := "java/lang/IllegalStateException") (text := "the door is not kept, or is jammed") (ik := 60) (is := 147) (ic := 64) (by decide +kernel) (by decide +kernel) (by decide +kernel) (by decide +kernel) (by decide +kernel) (by decide +kernel) (by decide +kernel) hW hS hl.1 dX3_open_41 dX3_open_44 dX3_open_45 dX3_open_47 dX3_open_50 (Nat.le_of_ble_eq_true rfl) (Nat.le_of_ble_eq_true rfl) (by first | exact Nat.le_of_ble_eq_true rfl | omega) (by first | exact Nat.le_of_ble_eq_true rfl | omega) (by first | exact Nat.le_of_ble_eq_true rfl | omega) (by first | exact Nat.le_of_ble_eq_true rfl | omega) (Or.inr (Or.inr ⟨rfl, d, hd, rfl, tw_b_1 c_14, Or.inr c_38⟩))
  · exact kx_thr F hlf htab hlocks (cls := "java/lang/IllegalArgumentException") (text := "code is out of range") (ik := 53) (is := 145) (ic := 57) (by decide +kernel) (by decide +kernel) (by decide +kernel) (by decide +kernel) (by decide +kernel) (by decide +kernel) (by decide +kernel) hW hS hl.1 dX3_open_17 dX3_open_20 dX3_open_21 dX3_open_23 dX3_open_26 (Nat.le_of_ble_eq_true rfl) (Nat.le_of_ble_eq_true rfl) (by first | exact Nat.le_of_ble_eq_true rfl | omega) (by first | exact Nat.le_of_ble_eq_true rfl | omega) (by first | exact Nat.le_of_ble_eq_true rfl | omega) (by first | exact Nat.le_of_ble_eq_true rfl | omega) (Or.inr (Or.inl ⟨rfl, ⟨d, hd, rfl⟩, tw_b_0 c_14⟩))

set_option maxHeartbeats 1000000 in
set_option maxRecDepth 100000 in
theorem c_X3_jam (l : Launch) (hlf : l.stackTraces = false) (G : kx_G) (z0 : Nat) (ad : kx_A) (nb : Nat) (sg : kx_S) (hC : tw_CI nb sg) (x z : Int32) (hz : tw_01 z) : kx_MX l yX3_jam wsX3_jam 7 111 1 6 G z0 ad nb sg [.ref (ad 0 0), .int x, .int z] (fun r sg' => ∃ d : Nat, d < 10 ∧ x = nI d ∧ r = some (.int (sg 8 d 1)) ∧ tw_SA nb (kx_up sg 8 d (if z = 0 then upd (upd (sg 8 d) 1 z) 4 0 else upd (sg 8 d) 1 z)) sg') (fun E => E = kx_ioe ∧ (∀ d, d < 10 → ¬ x = nI d)) := by
  refine vx_ofW (cc := cX3_jam) (maxL := 5) (ret := (some .boolean)) (by decide) rfl ?_
  intro p e s m args below meth c s₁ B hml htab hv
  obtain ⟨rfl, hW, hV⟩ := hv
  have hts := atoms_spec (ws := wsX3_jam) B.pre
  have F : kx_F p s m c cX3_jam 5 RX3 _ wsX3_jam G z0 := ⟨B.exec, B.bytes, hml, findClass_of_methodNamed B.named, hts, hV⟩
  have hx := B.exec; have hb := B.bytes; have hr := B.returns; have hlocks := B.notSynchronized
  have hS : va_S (kx_Ad z0) s.heap s.heap [] := va_S.rf
  obtain ⟨hnb, hwf, hbl, hjm, hkp, hnn⟩ := hC
  have L_130 : Cond.fieldLink RX3 130 (TX1 1).1 (TX1 1).2.1 (TX1 1).2.2.1 ∈ wsX3_jam := by decide +kernel
  have L_142 : Cond.fieldLink RX3 142 (TX1 4).1 (TX1 4).2.1 (TX1 4).2.2.1 ∈ wsX3_jam := by decide +kernel
  have inX1 : ∀ w ∈ u_ws RX1 TX1 5, w ∈ wsX3_jam := by decide +kernel
  have hl := lv_entry ([.ref (ad 0 0), .int x, .int z]) (n := 5) (Nat.le_of_ble_eq_true rfl)
  rw [lg_entry_eq]
  generalize (lg_sl ([.ref (ad 0 0), .int x, .int z]) ++ List.replicate (5 - (lg_sl ([.ref (ad 0 0), .int x, .int z])).length) Slot.unset).toArray = ls at hl ⊢
  have hl : lv_has ls 5 [(0, .ref (ad 0 0)), (1, .int x), (2, .int z)] := hl
  refine lv_aload_n hx hb dX3_jam_0 rfl (lv_at hl 0 rfl) ?_
  refine lv_iload_n hx hb dX3_jam_1 rfl (lv_at hl 1 rfl) ?_
  refine kx_xV (na := 1) F (q := 0) (n := 0) (c_X3_doorAt l hlf G z0 ad nb sg x) gX3_jam_X3_doorAt rfl (by decide +kernel) ⟨Nat.le_of_ble_eq_true rfl, Nat.le_of_ble_eq_true rfl⟩ hW hS ⟨by decide, rfl⟩ rfl rfl (As := [.int x]) (rest := []) rfl hl.1 rfl (Nat.le_of_ble_eq_true rfl) dX3_jam_2 ⟨by first | exact Nat.le_of_ble_eq_true rfl | omega, by first | exact Nat.le_of_ble_eq_true rfl | omega⟩ (fun E9 ce9 q9 H locs hp9 hW hS h7 h8 h9 => ?_) (fun r9 sg9 H locs hq hW hS => ?_)
  · exact kx_out htab hlocks hW hS (by first | exact Nat.le_of_ble_eq_true rfl | omega) (by first | exact Nat.le_of_ble_eq_true rfl | omega) (hp9) h7 h8 h9
  obtain ⟨d, hd, rfl, rfl, e9⟩ := hq
  rw [e9] at hW
  refine W.eq (g2 := F0 m 5 ls [.ref (ad 8 d)]) rfl ?_
  refine lv_astore_n (lv' := [(3, .ref (ad 8 d)), (0, .ref (ad 0 0)), (1, .int (nI d)), (2, .int z)]) hx hb dX3_jam_5 rfl hl (by decide) rfl (fun ls hl => ?_)
  refine lv_aload_n hx hb dX3_jam_6 rfl (lv_at hl 0 rfl) ?_
  refine kx_g F inX1 hW 8 d hd rfl rfl 1 (by decide) L_130 (v := .int (sg 8 d 1)) rfl dX3_jam_7 ?_
  refine lv_istore (lv' := [(4, .int (sg 8 d 1)), (3, .ref (ad 8 d)), (0, .ref (ad 0 0)), (1, .int (nI d)), (2, .int z)]) hx hb dX3_jam_10 hl (by decide) rfl (fun ls hl => ?_)
  refine lv_aload_n hx hb dX3_jam_12 rfl (lv_at hl 1 rfl) ?_
  refine lv_iload_n hx hb dX3_jam_13 rfl (lv_at hl 4 rfl) ?_
  refine kx_p F inX1 tyX1 tyX1_ok nmX1 hW hS 8 d hd rfl rfl 1 (by decide) L_130 rfl (v := .int z) (tw_01_nar hz) (tw_01_fit hz) (Nat.le_of_ble_eq_true rfl) (upd (sg 8 d) 1 z) rfl dX3_jam_14 (fun H locs hW hS => ?_)
  have hW : kx_Wd G z0 ad nb (kx_up sg 8 d (upd (sg 8 d) 1 z)) H := hW
  refine lv_iload_n hx hb dX3_jam_17 rfl (lv_at hl 4 rfl) ?_
  refine lv_if_ne (tgt := 26) hx hb dX3_jam_18 (by decide) (fun c_18 => ?_) (fun c_18 => ?_)
  · refine lv_aload_n hx hb dX3_jam_26 rfl (lv_at hl 2 rfl) ?_
    refine kx_cV (na := 0) F (q := 0) (n := 0) (c_X3_settleAll l G z0 ad nb (kx_up sg 8 d (upd (sg 8 d) 1 z)) hnb (tw_WF_door hwf)) gX3_jam_X3_settleAll rfl (by decide +kernel) ⟨Nat.le_of_ble_eq_true rfl, Nat.le_of_ble_eq_true rfl⟩ hW hS ⟨by decide, rfl⟩ rfl rfl (As := []) (rest := []) rfl hl.1 rfl (Nat.le_of_ble_eq_true rfl) dX3_jam_27 ⟨by first | exact Nat.le_of_ble_eq_true rfl | omega, by first | exact Nat.le_of_ble_eq_true rfl | omega⟩ (fun r9 sg9 H locs hq hW hS => ?_)
    obtain ⟨rfl, hsa9⟩ := hq
    have hW : kx_Wd G z0 ad nb (sg9) H := by first | exact hW | (simp only [kx_up_s, kx_up_up] at hW; exact hW) | (simp only [kx_up_s, kx_up_up, upd_s] at hW; exact hW)
    refine W.eq (g2 := F0 m 30 ls []) rfl ?_
    refine lv_iload hx hb dX3_jam_30 (lv_at hl 0 rfl) ?_
    refine vx_ret ?_
    exact kx_rz F hr hlocks hW hS (by first | exact Nat.le_of_ble_eq_true rfl | omega) (by first | exact Nat.le_of_ble_eq_true rfl | omega) (tw_01_nar (hjm d hd)) (⟨d, hd, rfl, rfl, by rw [if_neg c_18]; exact hsa9⟩) dX3_jam_32
  · refine lv_aload_n hx hb dX3_jam_21 rfl (lv_at hl 1 rfl) ?_
    refine lv_iconst (v := 0) hx hb dX3_jam_22 (by decide) ?_
    refine kx_p F inX1 tyX1 tyX1_ok nmX1 hW hS 8 d hd rfl rfl 4 (by decide) L_142 rfl (v := .int 0) rfl rfl (Nat.le_of_ble_eq_true rfl) (upd ((kx_up sg 8 d (upd (sg 8 d) 1 z)) 8 d) 4 0) rfl dX3_jam_23 (fun H locs hW hS => ?_)
    have er9 : (kx_up sg 8 d (upd (sg 8 d) 1 z)) 8 d = upd (sg 8 d) 1 z := by first | rfl | (simp only [kx_up_s]; done) | (simp [kx_up]; done)
    rw [er9] at hW
    rw [kx_up_up] at hW
    have hW : kx_Wd G z0 ad nb (kx_up sg 8 d (upd (upd (sg 8 d) 1 z) 4 0)) H := hW
    refine lv_aload_n hx hb dX3_jam_26 rfl (lv_at hl 2 rfl) ?_
    refine kx_cV (na := 0) F (q := 0) (n := 0) (c_X3_settleAll l G z0 ad nb (kx_up sg 8 d (upd (upd (sg 8 d) 1 z) 4 0)) hnb (tw_WF_door hwf)) gX3_jam_X3_settleAll rfl (by decide +kernel) ⟨Nat.le_of_ble_eq_true rfl, Nat.le_of_ble_eq_true rfl⟩ hW hS ⟨by decide, rfl⟩ rfl rfl (As := []) (rest := []) rfl hl.1 rfl (Nat.le_of_ble_eq_true rfl) dX3_jam_27 ⟨by first | exact Nat.le_of_ble_eq_true rfl | omega, by first | exact Nat.le_of_ble_eq_true rfl | omega⟩ (fun r9 sg9 H locs hq hW hS => ?_)
    obtain ⟨rfl, hsa9⟩ := hq
    have hW : kx_Wd G z0 ad nb (sg9) H := by first | exact hW | (simp only [kx_up_s, kx_up_up] at hW; exact hW) | (simp only [kx_up_s, kx_up_up, upd_s] at hW; exact hW)
    refine W.eq (g2 := F0 m 30 ls []) rfl ?_
    refine lv_iload hx hb dX3_jam_30 (lv_at hl 0 rfl) ?_
    refine vx_ret ?_
    exact kx_rz F hr hlocks hW hS (by first | exact Nat.le_of_ble_eq_true rfl | omega) (by first | exact Nat.le_of_ble_eq_true rfl | omega) (tw_01_nar (hjm d hd)) (⟨d, hd, rfl, rfl, by rw [if_pos c_18]; exact hsa9⟩) dX3_jam_32

set_option maxHeartbeats 1000000 in
set_option maxRecDepth 100000 in
theorem c_X3_claim (l : Launch) (hlf : l.stackTraces = false) (G : kx_G) (z0 : Nat) (ad : kx_A) (nb : Nat) (sg : kx_S) (hC : tw_CI nb sg) (x : Int32) : kx_MX l yX3_claim wsX3_claim 7 111 2 12 G z0 ad nb sg [.ref (ad 0 0), .int x] (fun r sg' => ∃ k : Nat, k < nb ∧ x = nI k ∧ decide (tw_last (sg 9 k 7) (sg 11 k) (tw_n sg k) = 30) = false ∧ sg 9 k 8 = 0 ∧ tw_after (sg 10 k) (tw_n sg k) (sg 0 0 7 - 1000) = false ∧ r = some (.int (sg 9 k 1)) ∧ sg' = kx_up (kx_up sg 9 k (upd (sg 9 k) 8 1)) 4 0 (tw_pay (sg 4 0) (sg 9 k 1))) (fun E => (E = kx_ioe ∧ (∀ k, k < nb → ¬ x = nI k)) ∨ (E = kx_ise ∧ ∃ k : Nat, k < nb ∧ x = nI k ∧ (decide (tw_last (sg 9 k 7) (sg 11 k) (tw_n sg k) = 30) = true ∨ ¬ sg 9 k 8 = 0 ∨ tw_after (sg 10 k) (tw_n sg k) (sg 0 0 7 - 1000) = true))) := by
  refine vx_ofW (cc := cX3_claim) (maxL := 3) (ret := (some .int)) (by decide) rfl ?_
  intro p e s m args below meth c s₁ B hml htab hv
  obtain ⟨rfl, hW, hV⟩ := hv
  have hts := atoms_spec (ws := wsX3_claim) B.pre
  have F : kx_F p s m c cX3_claim 3 RX3 _ wsX3_claim G z0 := ⟨B.exec, B.bytes, hml, findClass_of_methodNamed B.named, hts, hV⟩
  have hx := B.exec; have hb := B.bytes; have hr := B.returns; have hlocks := B.notSynchronized
  have hS : va_S (kx_Ad z0) s.heap s.heap [] := va_S.rf
  obtain ⟨hnb, hwf, hbl, hjm, hkp, hnn⟩ := hC
  have L_156 : Cond.fieldLink RX3 156 (TX0 8).1 (TX0 8).2.1 (TX0 8).2.2.1 ∈ wsX3_claim := by decide +kernel
  have L_165 : Cond.fieldLink RX3 165 (TX0 1).1 (TX0 1).2.1 (TX0 1).2.2.1 ∈ wsX3_claim := by decide +kernel
  have L_28 : Cond.fieldLink RX3 28 (TX3 3).1 (TX3 3).2.1 (TX3 3).2.2.1 ∈ wsX3_claim := by decide +kernel
  have L_42 : Cond.fieldLink RX3 42 (TX3 7).1 (TX3 7).2.1 (TX3 7).2.2.1 ∈ wsX3_claim := by decide +kernel
  have inX0 : ∀ w ∈ u_ws RX0 TX0 11, w ∈ wsX3_claim := by decide +kernel
  have inX3 : ∀ w ∈ u_ws RX3 TX3 9, w ∈ wsX3_claim := by decide +kernel
  have hl := lv_entry ([.ref (ad 0 0), .int x]) (n := 3) (Nat.le_of_ble_eq_true rfl)
  rw [lg_entry_eq]
  generalize (lg_sl ([.ref (ad 0 0), .int x]) ++ List.replicate (3 - (lg_sl ([.ref (ad 0 0), .int x])).length) Slot.unset).toArray = ls at hl ⊢
  have hl : lv_has ls 3 [(0, .ref (ad 0 0)), (1, .int x)] := hl
  refine lv_aload_n hx hb dX3_claim_0 rfl (lv_at hl 0 rfl) ?_
  refine lv_iload_n hx hb dX3_claim_1 rfl (lv_at hl 1 rfl) ?_
  refine kx_xV (na := 1) F (q := 0) (n := 0) (c_X3_boxAt l hlf G z0 ad nb sg hnb x) gX3_claim_X3_boxAt rfl (by decide +kernel) ⟨Nat.le_of_ble_eq_true rfl, Nat.le_of_ble_eq_true rfl⟩ hW hS ⟨by decide, rfl⟩ rfl rfl (As := [.int x]) (rest := []) rfl hl.1 rfl (Nat.le_of_ble_eq_true rfl) dX3_claim_2 ⟨by first | exact Nat.le_of_ble_eq_true rfl | omega, by first | exact Nat.le_of_ble_eq_true rfl | omega⟩ (fun E9 ce9 q9 H locs hp9 hW hS h7 h8 h9 => ?_) (fun r9 sg9 H locs hq hW hS => ?_)
  · exact kx_out htab hlocks hW hS (by first | exact Nat.le_of_ble_eq_true rfl | omega) (by first | exact Nat.le_of_ble_eq_true rfl | omega) (Or.inl hp9) h7 h8 h9
  obtain ⟨k, hk, rfl, rfl, e9⟩ := hq
  rw [e9] at hW
  refine W.eq (g2 := F0 m 5 ls [.ref (ad 9 k)]) rfl ?_
  obtain ⟨n9, hn9, h129, hm9⟩ := hwf.1 k hk
  have en9 := tw_n_eq hn9 h129
  refine lv_astore_n (lv' := [(2, .ref (ad 9 k)), (0, .ref (ad 0 0)), (1, .int (nI k))]) hx hb dX3_claim_5 rfl hl (by decide) rfl (fun ls hl => ?_)
  refine lv_aload_n hx hb dX3_claim_6 rfl (lv_at hl 0 rfl) ?_
  refine kx_cV (na := 0) F (q := 9) (n := k) (c_X0_isDelivered l G z0 ad nb sg k hk n9 hn9 h129) gX3_claim_X0_isDelivered rfl (by decide +kernel) ⟨Nat.le_of_ble_eq_true rfl, Nat.le_of_ble_eq_true rfl⟩ hW hS hk rfl rfl (As := []) (rest := []) rfl hl.1 rfl (Nat.le_of_ble_eq_true rfl) dX3_claim_7 ⟨by first | exact Nat.le_of_ble_eq_true rfl | omega, by first | exact Nat.le_of_ble_eq_true rfl | omega⟩ (fun r9 sg9 H locs hq hW hS => ?_)
  obtain ⟨rfl, e9⟩ := hq
  rw [e9] at hW
  refine W.eq (g2 := F0 m 10 ls [.int (tw_b (decide (tw_last (sg 9 k 7) (sg 11 k) n9 = 30)))]) rfl ?_
  refine lv_if_ne (tgt := 35) hx hb dX3_claim_10 (by decide) (fun c_10 => ?_) (fun c_10 => ?_)
  · exact kx_thr F hlf htab hlocks (cls := "java/lang/IllegalStateException") (text := "the box is delivered, or insured, or was scanned a short time ago") (ik := 60) (is := 163) (ic := 64) (by decide +kernel) (by decide +kernel) (by decide +kernel) (by decide +kernel) (by decide +kernel) (by decide +kernel) (by decide +kernel) hW hS hl.1 dX3_claim_35 dX3_claim_38 dX3_claim_39 dX3_claim_41 dX3_claim_44 (Nat.le_of_ble_eq_true rfl) (Nat.le_of_ble_eq_true rfl) (by first | exact Nat.le_of_ble_eq_true rfl | omega) (by first | exact Nat.le_of_ble_eq_true rfl | omega) (by first | exact Nat.le_of_ble_eq_true rfl | omega) (by first | exact Nat.le_of_ble_eq_true rfl | omega) (Or.inr ⟨rfl, k, hk, rfl, Or.inl (by rw [en9]; exact tw_b_1 c_10)⟩)
  · refine lv_aload_n hx hb dX3_claim_13 rfl (lv_at hl 0 rfl) ?_
    refine kx_g F inX0 hW 9 k hk rfl rfl 8 (by decide) L_156 (v := .int (sg 9 k 8)) rfl dX3_claim_14 ?_
    refine lv_if_ne (tgt := 35) hx hb dX3_claim_17 (by decide) (fun c_17 => ?_) (fun c_17 => ?_)
    · exact kx_thr F hlf htab hlocks (cls := "java/lang/IllegalStateException") (text := "the box is delivered, or insured, or was scanned a short time ago") (ik := 60) (is := 163) (ic := 64) (by decide +kernel) (by decide +kernel) (by decide +kernel) (by decide +kernel) (by decide +kernel) (by decide +kernel) (by decide +kernel) hW hS hl.1 dX3_claim_35 dX3_claim_38 dX3_claim_39 dX3_claim_41 dX3_claim_44 (Nat.le_of_ble_eq_true rfl) (Nat.le_of_ble_eq_true rfl) (by first | exact Nat.le_of_ble_eq_true rfl | omega) (by first | exact Nat.le_of_ble_eq_true rfl | omega) (by first | exact Nat.le_of_ble_eq_true rfl | omega) (by first | exact Nat.le_of_ble_eq_true rfl | omega) (Or.inr ⟨rfl, k, hk, rfl, Or.inr (Or.inl c_17)⟩)
    · refine lv_aload_n hx hb dX3_claim_20 rfl (lv_at hl 0 rfl) ?_
      refine lv_aload_n hx hb dX3_claim_21 rfl (lv_at hl 1 rfl) ?_
      refine kx_g F inX3 hW 0 0 ⟨by decide, rfl⟩ rfl rfl 7 (by decide) L_42 (v := .int (sg 0 0 7)) rfl dX3_claim_22 ?_
      refine lv_sipush (v := 1000) hx hb dX3_claim_25 (by decide) ?_
      refine lv_isub hx hb dX3_claim_28 ?_
      refine kx_cV (na := 1) F (q := 9) (n := k) (c_X0_wasScannedAfter l G z0 ad nb sg k hk n9 hn9 h129 ((sg 0 0 7) - 1000)) gX3_claim_X0_wasScannedAfter rfl (by decide +kernel) ⟨Nat.le_of_ble_eq_true rfl, Nat.le_of_ble_eq_true rfl⟩ hW hS hk rfl rfl (As := [.int ((sg 0 0 7) - 1000)]) (rest := []) rfl hl.1 rfl (Nat.le_of_ble_eq_true rfl) dX3_claim_29 ⟨by first | exact Nat.le_of_ble_eq_true rfl | omega, by first | exact Nat.le_of_ble_eq_true rfl | omega⟩ (fun r9 sg9 H locs hq hW hS => ?_)
      obtain ⟨rfl, e9⟩ := hq
      rw [e9] at hW
      refine W.eq (g2 := F0 m 32 ls [.int (tw_b (tw_after (sg 10 k) n9 ((sg 0 0 7) - 1000)))]) rfl ?_
      refine lv_if_eq (tgt := 45) hx hb dX3_claim_32 (by decide) (fun c_32 => ?_) (fun c_32 => ?_)
      · refine lv_aload_n hx hb dX3_claim_45 rfl (lv_at hl 0 rfl) ?_
        refine lv_iconst (v := 1) hx hb dX3_claim_46 (by decide) ?_
        refine kx_p F inX0 tyX0 tyX0_ok nmX0 hW hS 9 k hk rfl rfl 8 (by decide) L_156 rfl (v := .int 1) rfl rfl (Nat.le_of_ble_eq_true rfl) (upd (sg 9 k) 8 1) rfl dX3_claim_47 (fun H locs hW hS => ?_)
        have hW : kx_Wd G z0 ad nb (kx_up sg 9 k (upd (sg 9 k) 8 1)) H := hW
        refine lv_aload_n hx hb dX3_claim_50 rfl (lv_at hl 1 rfl) ?_
        refine kx_g F inX3 hW 0 0 ⟨by decide, rfl⟩ rfl rfl 3 (by decide) L_28 (v := .ref (ad 4 0)) rfl dX3_claim_51 ?_
        refine lv_aload_n hx hb dX3_claim_54 rfl (lv_at hl 0 rfl) ?_
        refine kx_g F inX0 hW 9 k hk rfl rfl 1 (by decide) L_165 (v := .int (sg 9 k 1)) (by first | rfl | (simp only [kx_up_s]; done) | (simp only [kx_up_s, upd_s]; done) | (simp only [kx_up_s]; rfl) | (simp [kx_up, upd]; done)) dX3_claim_55 ?_
        refine kx_cV (na := 1) F (q := 4) (n := 0) (c_X2_payInsured l G z0 ad nb (kx_up sg 9 k (upd (sg 9 k) 8 1)) (sg 9 k 1)) gX3_claim_X2_payInsured rfl (by decide +kernel) ⟨Nat.le_of_ble_eq_true rfl, Nat.le_of_ble_eq_true rfl⟩ hW hS ⟨by decide, rfl⟩ rfl rfl (As := [.int (sg 9 k 1)]) (rest := []) rfl hl.1 rfl (Nat.le_of_ble_eq_true rfl) dX3_claim_58 ⟨by first | exact Nat.le_of_ble_eq_true rfl | omega, by first | exact Nat.le_of_ble_eq_true rfl | omega⟩ (fun r9 sg9 H locs hq hW hS => ?_)
        obtain ⟨rfl, e9⟩ := hq
        rw [e9] at hW
        have hW : kx_Wd G z0 ad nb (kx_up (kx_up sg 9 k (upd (sg 9 k) 8 1)) 4 0 (tw_pay (sg 4 0) (sg 9 k 1))) H := by first | exact hW | (simp only [kx_up_s, kx_up_up] at hW; exact hW) | (simp only [kx_up_s, kx_up_up, upd_s] at hW; exact hW)
        refine W.eq (g2 := F0 m 61 ls []) rfl ?_
        refine lv_aload_n hx hb dX3_claim_61 rfl (lv_at hl 0 rfl) ?_
        refine kx_g F inX0 hW 9 k hk rfl rfl 1 (by decide) L_165 (v := .int (sg 9 k 1)) (by first | rfl | (simp only [kx_up_s]; done) | (simp only [kx_up_s, upd_s]; done) | (simp only [kx_up_s]; rfl) | (simp [kx_up, upd]; done)) dX3_claim_62 ?_
        refine vx_ret ?_
        exact kx_ri F hr hlocks hW hS (by first | exact Nat.le_of_ble_eq_true rfl | omega) (by first | exact Nat.le_of_ble_eq_true rfl | omega) (⟨k, hk, rfl, by rw [en9]; exact tw_b_0 c_10, c_17, by rw [en9]; exact tw_b_0 c_32, rfl, rfl⟩) dX3_claim_65
      · exact kx_thr F hlf htab hlocks (cls := "java/lang/IllegalStateException") (text := "the box is delivered, or insured, or was scanned a short time ago") (ik := 60) (is := 163) (ic := 64) (by decide +kernel) (by decide +kernel) (by decide +kernel) (by decide +kernel) (by decide +kernel) (by decide +kernel) (by decide +kernel) hW hS hl.1 dX3_claim_35 dX3_claim_38 dX3_claim_39 dX3_claim_41 dX3_claim_44 (Nat.le_of_ble_eq_true rfl) (Nat.le_of_ble_eq_true rfl) (by first | exact Nat.le_of_ble_eq_true rfl | omega) (by first | exact Nat.le_of_ble_eq_true rfl | omega) (by first | exact Nat.le_of_ble_eq_true rfl | omega) (by first | exact Nat.le_of_ble_eq_true rfl | omega) (Or.inr ⟨rfl, k, hk, rfl, Or.inr (Or.inr (by rw [en9]; exact tw_b_1 c_32))⟩)
