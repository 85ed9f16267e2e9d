def tw_pay (r : Nat → Int32) (x : Int32) : Nat → Int32 := upd (upd r 1 (r 1 + x)) 2 (r 2 + 1)
def tw_back (r : Nat → Int32) (x : Int32) : Nat → Int32 := upd (upd r 1 (r 1 - x)) 2 (r 2 + 1)
def tw_note (r : Nat → Int32) : Nat → Int32 := upd r 2 (r 2 + 1)

set_option maxHeartbeats 4000000 in
set_option maxRecDepth 100000 in
/-- the insurer pays -/
theorem c_X2_payInsured (l : Launch) (G : kx_G) (z0 : Nat) (ad : kx_A) (nb : Nat) (sg : kx_S) (x : Int32) : kx_M l yX2_payInsured wsX2_payInsured 0 0 0 0 G z0 ad nb sg [.ref (ad 4 0), .int x] (fun r sg' => r = none ∧ sg' = kx_up sg 4 0 (tw_pay (sg 4 0) x)) := by
  refine Met.ofW (cc := cX2_payInsured) (maxL := 2) (ret := none) (by decide) rfl ?_
  intro p e s m args below meth c s₁ B hml hv
  obtain ⟨rfl, hW, hV⟩ := hv
  have hts := atoms_spec (ws := wsX2_payInsured) B.pre
  have F : kx_F p s m c cX2_payInsured 2 RX2 _ wsX2_payInsured G z0 := ⟨B.exec, B.bytes, hml, findClass_of_methodNamed B.named, hts, hV⟩
  have hx := B.exec; have hb := B.bytes; have hr := B.returns; have hlocks := B.notSynchronized
  have hS : va_S (kx_Ad z0) s.heap s.heap [] := va_S.rf
  have L_15 : Cond.fieldLink RX2 15 (TX2 1).1 (TX2 1).2.1 (TX2 1).2.2.1 ∈ wsX2_payInsured := by decide +kernel
  have L_19 : Cond.fieldLink RX2 19 (TX2 2).1 (TX2 2).2.1 (TX2 2).2.2.1 ∈ wsX2_payInsured := by decide +kernel
  have inX2 : ∀ w ∈ u_ws RX2 TX2 3, w ∈ wsX2_payInsured := by decide +kernel
  have hl := lv_entry ([.ref (ad 4 0), .int x]) (n := 2) (Nat.le_of_ble_eq_true rfl)
  rw [lg_entry_eq]
  generalize (lg_sl ([.ref (ad 4 0), .int x]) ++ List.replicate (2 - (lg_sl ([.ref (ad 4 0), .int x])).length) Slot.unset).toArray = ls at hl ⊢
  have hl : lv_has ls 2 [(0, .ref (ad 4 0)), (1, .int x)] := hl
  refine lv_aload_n hx hb dX2_payInsured_0 rfl (lv_at hl 0 rfl) ?_
  refine lv_dup hx hb dX2_payInsured_1 rfl ?_
  refine kx_g F inX2 hW 4 0 ⟨by decide, rfl⟩ rfl rfl 1 (by decide) L_15 (v := .int (sg 4 0 1)) rfl dX2_payInsured_2 ?_
  refine lv_iload_n hx hb dX2_payInsured_5 rfl (lv_at hl 1 rfl) ?_
  refine lv_iadd hx hb dX2_payInsured_6 ?_
  refine kx_p F inX2 tyX2 tyX2_ok nmX2 hW hS 4 0 ⟨by decide, rfl⟩ rfl rfl 1 (by decide) L_15 rfl (v := .int ((sg 4 0 1) + x)) rfl rfl (Nat.le_of_ble_eq_true rfl) (upd (sg 4 0) 1 ((sg 4 0 1) + x)) rfl dX2_payInsured_7 (fun H locs hW hS => ?_)
  have hW : kx_Wd G z0 ad nb (kx_up sg 4 0 (upd (sg 4 0) 1 ((sg 4 0 1) + x))) H := by first | exact hW | (simp only [kx_up_s, kx_up_up] at hW; exact hW) | (simp only [kx_up_s, kx_up_up, upd_s] at hW; exact hW)
  refine lv_aload_n hx hb dX2_payInsured_10 rfl (lv_at hl 0 rfl) ?_
  refine lv_dup hx hb dX2_payInsured_11 rfl ?_
  refine kx_g F inX2 hW 4 0 ⟨by decide, rfl⟩ rfl rfl 2 (by decide) L_19 (v := .int (sg 4 0 2)) (by first | rfl | (simp only [kx_up_s]; done) | (simp only [kx_up_s, upd_s]; done) | (simp only [kx_up_s]; rfl) | (simp [kx_up, upd]; done)) dX2_payInsured_12 ?_
  refine lv_iconst (v := 1) hx hb dX2_payInsured_15 (by decide) ?_
  refine lv_iadd hx hb dX2_payInsured_16 ?_
  refine kx_p F inX2 tyX2 tyX2_ok nmX2 hW hS 4 0 ⟨by decide, rfl⟩ rfl rfl 2 (by decide) L_19 rfl (v := .int ((sg 4 0 2) + 1)) rfl rfl (Nat.le_of_ble_eq_true rfl) (upd ((kx_up sg 4 0 (upd (sg 4 0) 1 ((sg 4 0 1) + x))) 4 0) 2 ((sg 4 0 2) + 1)) rfl dX2_payInsured_17 (fun H locs hW hS => ?_)
  have hW : kx_Wd G z0 ad nb (kx_up sg 4 0 (upd (upd (sg 4 0) 1 ((sg 4 0 1) + x)) 2 ((sg 4 0 2) + 1))) H := by first | exact hW | (simp only [kx_up_s, kx_up_up] at hW; exact hW) | (simp only [kx_up_s, kx_up_up, upd_s] at hW; exact hW)
  exact kx_rv F hr hlocks hW hS (by first | exact Nat.le_of_ble_eq_true rfl | omega) (by first | exact Nat.le_of_ble_eq_true rfl | omega) (⟨rfl, rfl⟩) dX2_payInsured_20

set_option maxHeartbeats 4000000 in
set_option maxRecDepth 100000 in
/-- the insurer claims back -/
theorem c_X2_claimBack (l : Launch) (G : kx_G) (z0 : Nat) (ad : kx_A) (nb : Nat) (sg : kx_S) (x : Int32) : kx_M l yX2_claimBack wsX2_claimBack 0 0 0 0 G z0 ad nb sg [.ref (ad 4 0), .int x] (fun r sg' => r = none ∧ sg' = kx_up sg 4 0 (tw_back (sg 4 0) x)) := by
  refine Met.ofW (cc := cX2_claimBack) (maxL := 2) (ret := none) (by decide) rfl ?_
  intro p e s m args below meth c s₁ B hml hv
  obtain ⟨rfl, hW, hV⟩ := hv
  have hts := atoms_spec (ws := wsX2_claimBack) B.pre
  have F : kx_F p s m c cX2_claimBack 2 RX2 _ wsX2_claimBack G z0 := ⟨B.exec, B.bytes, hml, findClass_of_methodNamed B.named, hts, hV⟩
  have hx := B.exec; have hb := B.bytes; have hr := B.returns; have hlocks := B.notSynchronized
  have hS : va_S (kx_Ad z0) s.heap s.heap [] := va_S.rf
  have L_15 : Cond.fieldLink RX2 15 (TX2 1).1 (TX2 1).2.1 (TX2 1).2.2.1 ∈ wsX2_claimBack := by decide +kernel
  have L_19 : Cond.fieldLink RX2 19 (TX2 2).1 (TX2 2).2.1 (TX2 2).2.2.1 ∈ wsX2_claimBack := by decide +kernel
  have inX2 : ∀ w ∈ u_ws RX2 TX2 3, w ∈ wsX2_claimBack := by decide +kernel
  have hl := lv_entry ([.ref (ad 4 0), .int x]) (n := 2) (Nat.le_of_ble_eq_true rfl)
  rw [lg_entry_eq]
  generalize (lg_sl ([.ref (ad 4 0), .int x]) ++ List.replicate (2 - (lg_sl ([.ref (ad 4 0), .int x])).length) Slot.unset).toArray = ls at hl ⊢
  have hl : lv_has ls 2 [(0, .ref (ad 4 0)), (1, .int x)] := hl
  refine lv_aload_n hx hb dX2_claimBack_0 rfl (lv_at hl 0 rfl) ?_
  refine lv_dup hx hb dX2_claimBack_1 rfl ?_
  refine kx_g F inX2 hW 4 0 ⟨by decide, rfl⟩ rfl rfl 1 (by decide) L_15 (v := .int (sg 4 0 1)) rfl dX2_claimBack_2 ?_
  refine lv_iload_n hx hb dX2_claimBack_5 rfl (lv_at hl 1 rfl) ?_
  refine lv_isub hx hb dX2_claimBack_6 ?_
  refine kx_p F inX2 tyX2 tyX2_ok nmX2 hW hS 4 0 ⟨by decide, rfl⟩ rfl rfl 1 (by decide) L_15 rfl (v := .int ((sg 4 0 1) - x)) rfl rfl (Nat.le_of_ble_eq_true rfl) (upd (sg 4 0) 1 ((sg 4 0 1) - x)) rfl dX2_claimBack_7 (fun H locs hW hS => ?_)
  have hW : kx_Wd G z0 ad nb (kx_up sg 4 0 (upd (sg 4 0) 1 ((sg 4 0 1) - x))) H := by first | exact hW | (simp only [kx_up_s, kx_up_up] at hW; exact hW) | (simp only [kx_up_s, kx_up_up, upd_s] at hW; exact hW)
  refine lv_aload_n hx hb dX2_claimBack_10 rfl (lv_at hl 0 rfl) ?_
  refine lv_dup hx hb dX2_claimBack_11 rfl ?_
  refine kx_g F inX2 hW 4 0 ⟨by decide, rfl⟩ rfl rfl 2 (by decide) L_19 (v := .int (sg 4 0 2)) (by first | rfl | (simp only [kx_up_s]; done) | (simp only [kx_up_s, upd_s]; done) | (simp only [kx_up_s]; rfl) | (simp [kx_up, upd]; done)) dX2_claimBack_12 ?_
  refine lv_iconst (v := 1) hx hb dX2_claimBack_15 (by decide) ?_
  refine lv_iadd hx hb dX2_claimBack_16 ?_
  refine kx_p F inX2 tyX2 tyX2_ok nmX2 hW hS 4 0 ⟨by decide, rfl⟩ rfl rfl 2 (by decide) L_19 rfl (v := .int ((sg 4 0 2) + 1)) rfl rfl (Nat.le_of_ble_eq_true rfl) (upd ((kx_up sg 4 0 (upd (sg 4 0) 1 ((sg 4 0 1) - x))) 4 0) 2 ((sg 4 0 2) + 1)) rfl dX2_claimBack_17 (fun H locs hW hS => ?_)
  have hW : kx_Wd G z0 ad nb (kx_up sg 4 0 (upd (upd (sg 4 0) 1 ((sg 4 0 1) - x)) 2 ((sg 4 0 2) + 1))) H := by first | exact hW | (simp only [kx_up_s, kx_up_up] at hW; exact hW) | (simp only [kx_up_s, kx_up_up, upd_s] at hW; exact hW)
  exact kx_rv F hr hlocks hW hS (by first | exact Nat.le_of_ble_eq_true rfl | omega) (by first | exact Nat.le_of_ble_eq_true rfl | omega) (⟨rfl, rfl⟩) dX2_claimBack_20

set_option maxHeartbeats 4000000 in
set_option maxRecDepth 100000 in
/-- a fee, or what is undone -/
theorem c_X2_writeFee (l : Launch) (G : kx_G) (z0 : Nat) (ad : kx_A) (nb : Nat) (sg : kx_S) (x a : Int32) : kx_M l yX2_writeFee wsX2_writeFee 0 0 0 0 G z0 ad nb sg [.ref (ad 4 0), .int x, .int a] (fun r sg' => r = none ∧ sg' = kx_up (kx_up sg 5 0 (tw_fee (sg 5 0) x a)) 4 0 (tw_note (sg 4 0))) := by
  refine Met.ofW (cc := cX2_writeFee) (maxL := 3) (ret := none) (by decide) rfl ?_
  intro p e s m args below meth c s₁ B hml hv
  obtain ⟨rfl, hW, hV⟩ := hv
  have hts := atoms_spec (ws := wsX2_writeFee) B.pre
  have F : kx_F p s m c cX2_writeFee 3 RX2 _ wsX2_writeFee G z0 := ⟨B.exec, B.bytes, hml, findClass_of_methodNamed B.named, hts, hV⟩
  have hx := B.exec; have hb := B.bytes; have hr := B.returns; have hlocks := B.notSynchronized
  have hS : va_S (kx_Ad z0) s.heap s.heap [] := va_S.rf
  have L_19 : Cond.fieldLink RX2 19 (TX2 2).1 (TX2 2).2.1 (TX2 2).2.2.1 ∈ wsX2_writeFee := by decide +kernel
  have L_9 : Cond.fieldLink RX2 9 (TX2 0).1 (TX2 0).2.1 (TX2 0).2.2.1 ∈ wsX2_writeFee := by decide +kernel
  have inX2 : ∀ w ∈ u_ws RX2 TX2 3, w ∈ wsX2_writeFee := by decide +kernel
  have hl := lv_entry ([.ref (ad 4 0), .int x, .int a]) (n := 3) (Nat.le_of_ble_eq_true rfl)
  rw [lg_entry_eq]
  generalize (lg_sl ([.ref (ad 4 0), .int x, .int a]) ++ List.replicate (3 - (lg_sl ([.ref (ad 4 0), .int x, .int a])).length) Slot.unset).toArray = ls at hl ⊢
  have hl : lv_has ls 3 [(0, .ref (ad 4 0)), (1, .int x), (2, .int a)] := hl
  refine lv_iload_n hx hb dX2_writeFee_0 rfl (lv_at hl 1 rfl) ?_
  refine lv_if_lt (tgt := 19) hx hb dX2_writeFee_1 (by decide) (fun c_1 => ?_) (fun c_1 => ?_)
  · refine lv_aload_n hx hb dX2_writeFee_19 rfl (lv_at hl 0 rfl) ?_
    refine lv_dup hx hb dX2_writeFee_20 rfl ?_
    refine kx_g F inX2 hW 4 0 ⟨by decide, rfl⟩ rfl rfl 2 (by decide) L_19 (v := .int (sg 4 0 2)) rfl dX2_writeFee_21 ?_
    refine lv_iconst (v := 1) hx hb dX2_writeFee_24 (by decide) ?_
    refine lv_iadd hx hb dX2_writeFee_25 ?_
    refine kx_p F inX2 tyX2 tyX2_ok nmX2 hW hS 4 0 ⟨by decide, rfl⟩ rfl rfl 2 (by decide) L_19 rfl (v := .int ((sg 4 0 2) + 1)) rfl rfl (Nat.le_of_ble_eq_true rfl) (upd (sg 4 0) 2 ((sg 4 0 2) + 1)) rfl dX2_writeFee_26 (fun H locs hW hS => ?_)
    have hW : kx_Wd G z0 ad nb (kx_up sg 4 0 (upd (sg 4 0) 2 ((sg 4 0 2) + 1))) H := by first | exact hW | (simp only [kx_up_s, kx_up_up] at hW; exact hW) | (simp only [kx_up_s, kx_up_up, upd_s] at hW; exact hW)
    exact kx_rv F hr hlocks hW hS (by first | exact Nat.le_of_ble_eq_true rfl | omega) (by first | exact Nat.le_of_ble_eq_true rfl | omega) (⟨rfl, by rw [tw_fee_1 c_1, kx_up_id]; rfl⟩) dX2_writeFee_29
  · refine lv_iload_n hx hb dX2_writeFee_4 rfl (lv_at hl 1 rfl) ?_
    refine lv_iconst (v := 4) hx hb dX2_writeFee_5 (by decide) ?_
    refine lv_icmp_ge (tgt := 19) hx hb dX2_writeFee_6 (by decide) (fun c_6 => ?_) (fun c_6 => ?_)
    · refine lv_aload_n hx hb dX2_writeFee_19 rfl (lv_at hl 0 rfl) ?_
      refine lv_dup hx hb dX2_writeFee_20 rfl ?_
      refine kx_g F inX2 hW 4 0 ⟨by decide, rfl⟩ rfl rfl 2 (by decide) L_19 (v := .int (sg 4 0 2)) rfl dX2_writeFee_21 ?_
      refine lv_iconst (v := 1) hx hb dX2_writeFee_24 (by decide) ?_
      refine lv_iadd hx hb dX2_writeFee_25 ?_
      refine kx_p F inX2 tyX2 tyX2_ok nmX2 hW hS 4 0 ⟨by decide, rfl⟩ rfl rfl 2 (by decide) L_19 rfl (v := .int ((sg 4 0 2) + 1)) rfl rfl (Nat.le_of_ble_eq_true rfl) (upd (sg 4 0) 2 ((sg 4 0 2) + 1)) rfl dX2_writeFee_26 (fun H locs hW hS => ?_)
      have hW : kx_Wd G z0 ad nb (kx_up sg 4 0 (upd (sg 4 0) 2 ((sg 4 0 2) + 1))) H := by first | exact hW | (simp only [kx_up_s, kx_up_up] at hW; exact hW) | (simp only [kx_up_s, kx_up_up, upd_s] at hW; exact hW)
      exact kx_rv F hr hlocks hW hS (by first | exact Nat.le_of_ble_eq_true rfl | omega) (by first | exact Nat.le_of_ble_eq_true rfl | omega) (⟨rfl, by rw [tw_fee_2 c_6, kx_up_id]; rfl⟩) dX2_writeFee_29
    · obtain ⟨k, hk, rfl⟩ := tw_in_nI (n := 4) (by decide) c_1 c_6
      refine lv_aload_n hx hb dX2_writeFee_9 rfl (lv_at hl 0 rfl) ?_
      refine kx_g F inX2 hW 4 0 ⟨by decide, rfl⟩ rfl rfl 0 (by decide) L_9 (v := .ref (ad 5 0)) rfl dX2_writeFee_10 ?_
      refine lv_iload_n hx hb dX2_writeFee_13 rfl (lv_at hl 1 rfl) ?_
      refine lv_dup2_11 hx hb dX2_writeFee_14 rfl rfl ?_
      refine kx_ald F hW 5 0 ⟨by decide, rfl⟩ rfl k hk (by decide) (v := sg 5 0 k) rfl dX2_writeFee_15 ?_
      refine lv_iload_n hx hb dX2_writeFee_16 rfl (lv_at hl 2 rfl) ?_
      refine lv_iadd hx hb dX2_writeFee_17 ?_
      refine kx_ast F hW hS 5 0 ⟨by decide, rfl⟩ rfl k hk (by decide) (x := ((sg 5 0 k) + a)) rfl dX2_writeFee_18 (fun H locs hW hS => ?_)
      have hW : kx_Wd G z0 ad nb (kx_up sg 5 0 (upd (sg 5 0) k ((sg 5 0 k) + a))) H := by first | exact hW | (simp only [kx_up_s, kx_up_up] at hW; exact hW) | (simp only [kx_up_s, kx_up_up, upd_s] at hW; exact hW)
      refine lv_aload_n hx hb dX2_writeFee_19 rfl (lv_at hl 0 rfl) ?_
      refine lv_dup hx hb dX2_writeFee_20 rfl ?_
      refine kx_g F inX2 hW 4 0 ⟨by decide, rfl⟩ rfl rfl 2 (by decide) L_19 (v := .int (sg 4 0 2)) (by first | rfl | (simp only [kx_up_s]; done) | (simp only [kx_up_s, upd_s]; done) | (simp only [kx_up_s]; rfl) | (simp [kx_up, upd]; done)) dX2_writeFee_21 ?_
      refine lv_iconst (v := 1) hx hb dX2_writeFee_24 (by decide) ?_
      refine lv_iadd hx hb dX2_writeFee_25 ?_
      refine kx_p F inX2 tyX2 tyX2_ok nmX2 hW hS 4 0 ⟨by decide, rfl⟩ rfl rfl 2 (by decide) L_19 rfl (v := .int ((sg 4 0 2) + 1)) rfl rfl (Nat.le_of_ble_eq_true rfl) (upd ((kx_up sg 5 0 (upd (sg 5 0) k ((sg 5 0 k) + a))) 4 0) 2 ((sg 4 0 2) + 1)) rfl dX2_writeFee_26 (fun H locs hW hS => ?_)
      have hW : kx_Wd G z0 ad nb (kx_up (kx_up sg 5 0 (upd (sg 5 0) k ((sg 5 0 k) + a))) 4 0 (upd (sg 4 0) 2 ((sg 4 0 2) + 1))) H := by first | exact hW | (simp only [kx_up_s, kx_up_up] at hW; exact hW) | (simp only [kx_up_s, kx_up_up, upd_s] at hW; exact hW)
      exact kx_rv F hr hlocks hW hS (by first | exact Nat.le_of_ble_eq_true rfl | omega) (by first | exact Nat.le_of_ble_eq_true rfl | omega) (⟨rfl, by rw [tw_fee_3 hk]; rfl⟩) dX2_writeFee_29

set_option maxHeartbeats 4000000 in
set_option maxRecDepth 100000 in
/-- is the door kept? -/
theorem c_X1_isKept (l : Launch) (G : kx_G) (z0 : Nat) (ad : kx_A) (nb : Nat) (sg : kx_S) (d : Nat) (hd : d < 10) : kx_M l yX1_isKept wsX1_isKept 0 0 0 0 G z0 ad nb sg [.ref (ad 8 d)] (fun r sg' => r = some (.int (tw_b (decide (¬ sg 8 d 2 = -1)))) ∧ sg' = sg) := by
  refine Met.ofW (cc := cX1_isKept) (maxL := 1) (ret := (some .boolean)) (by decide) rfl ?_
  intro p e s m args below meth c s₁ B hml hv
  obtain ⟨rfl, hW, hV⟩ := hv
  have hts := atoms_spec (ws := wsX1_isKept) B.pre
  have F : kx_F p s m c cX1_isKept 1 RX1 _ wsX1_isKept G z0 := ⟨B.exec, B.bytes, hml, findClass_of_methodNamed B.named, hts, hV⟩
  have hx := B.exec; have hb := B.bytes; have hr := B.returns; have hlocks := B.notSynchronized
  have hS : va_S (kx_Ad z0) s.heap s.heap [] := va_S.rf
  have L_19 : Cond.fieldLink RX1 19 (TX1 2).1 (TX1 2).2.1 (TX1 2).2.2.1 ∈ wsX1_isKept := by decide +kernel
  have inX1 : ∀ w ∈ u_ws RX1 TX1 5, w ∈ wsX1_isKept := by decide +kernel
  have hl := lv_entry ([.ref (ad 8 d)]) (n := 1) (Nat.le_of_ble_eq_true rfl)
  rw [lg_entry_eq]
  generalize (lg_sl ([.ref (ad 8 d)]) ++ List.replicate (1 - (lg_sl ([.ref (ad 8 d)])).length) Slot.unset).toArray = ls at hl ⊢
  have hl : lv_has ls 1 [(0, .ref (ad 8 d))] := hl
  refine lv_aload_n hx hb dX1_isKept_0 rfl (lv_at hl 0 rfl) ?_
  refine kx_g F inX1 hW 8 d hd rfl rfl 2 (by decide) L_19 (v := .int (sg 8 d 2)) rfl dX1_isKept_1 ?_
  refine lv_iconst (v := (-1)) hx hb dX1_isKept_4 (by decide) ?_
  refine lv_icmp_eq (tgt := 12) hx hb dX1_isKept_5 (by decide) (fun c_5 => ?_) (fun c_5 => ?_)
  · refine lv_iconst (v := 0) hx hb dX1_isKept_12 (by decide) ?_
    exact kx_rz F hr hlocks hW hS (by first | exact Nat.le_of_ble_eq_true rfl | omega) (by first | exact Nat.le_of_ble_eq_true rfl | omega) (by rfl) (⟨congrArg (fun z => some (Value.int z)) (tw_b_f (decide_eq_false (fun h => h c_5))), rfl⟩) dX1_isKept_13
  · refine lv_iconst (v := 1) hx hb dX1_isKept_8 (by decide) ?_
    refine lv_goto (tgt := 13) hx hb dX1_isKept_9 (by decide) ?_
    exact kx_rz F hr hlocks hW hS (by first | exact Nat.le_of_ble_eq_true rfl | omega) (by first | exact Nat.le_of_ble_eq_true rfl | omega) (by rfl) (⟨congrArg (fun z => some (Value.int z)) (tw_b_t (decide_eq_true c_5)), rfl⟩) dX1_isKept_13

set_option maxHeartbeats 4000000 in
set_option maxRecDepth 100000 in
/-- which scans the next one can follow -/
theorem c_X0_scansAheadOf (l : Launch) (G : kx_G) (z0 : Nat) (ad : kx_A) (nb : Nat) (sg : kx_S) (i : Nat) (hi : i < nb) (n : Nat) (hn : sg 9 i 6 = nI n) (h12 : n ≤ 12) (t q : Int32) : kx_M l yX0_scansAheadOf wsX0_scansAheadOf 3 65 0 0 G z0 ad nb sg [.ref (ad 9 i), .int t, .int q] (fun r sg' => ∃ a : Int32, r = some (.int a) ∧ sg' = sg ∧ tw_tru a (nI 12) = decide (tw_cmn 0 q ≤ t) ∧ ∀ j, j < n → tw_tru a (nI j) = decide (tw_cmn (sg 11 i j) q ≤ t - sg 10 i j)) := by
  refine Met.ofW (cc := cX0_scansAheadOf) (maxL := 5) (ret := (some .int)) (by decide) rfl ?_
  intro p e s m args below meth c s₁ B hml hv
  obtain ⟨rfl, hW, hV⟩ := hv
  have hts := atoms_spec (ws := wsX0_scansAheadOf) B.pre
  have F : kx_F p s m c cX0_scansAheadOf 5 RX0 _ wsX0_scansAheadOf G z0 := ⟨B.exec, B.bytes, hml, findClass_of_methodNamed B.named, hts, hV⟩
  have hx := B.exec; have hb := B.bytes; have hr := B.returns; have hlocks := B.notSynchronized
  have hS : va_S (kx_Ad z0) s.heap s.heap [] := va_S.rf
  have L_15 : Cond.fieldLink RX0 15 (TX0 3).1 (TX0 3).2.1 (TX0 3).2.2.1 ∈ wsX0_scansAheadOf := by decide +kernel
  have L_24 : Cond.fieldLink RX0 24 (TX0 6).1 (TX0 6).2.1 (TX0 6).2.2.1 ∈ wsX0_scansAheadOf := by decide +kernel
  have L_9 : Cond.fieldLink RX0 9 (TX0 2).1 (TX0 2).2.1 (TX0 2).2.2.1 ∈ wsX0_scansAheadOf := by decide +kernel
  have inX0 : ∀ w ∈ u_ws RX0 TX0 11, w ∈ wsX0_scansAheadOf := by decide +kernel
  have hl := lv_entry ([.ref (ad 9 i), .int t, .int q]) (n := 5) (Nat.le_of_ble_eq_true rfl)
  rw [lg_entry_eq]
  generalize (lg_sl ([.ref (ad 9 i), .int t, .int q]) ++ List.replicate (5 - (lg_sl ([.ref (ad 9 i), .int t, .int q])).length) Slot.unset).toArray = ls at hl ⊢
  have hl : lv_has ls 5 [(0, .ref (ad 9 i)), (1, .int t), (2, .int q)] := hl
  have loop : ∀ (j k : Nat) (a : Int32), n = k + j → (∀ j, j < 13 → tw_tru a (nI j) = (if j = 12 then decide (tw_cmn 0 q ≤ t) else if j < k then decide (tw_cmn (sg 11 i j) q ≤ t - sg 10 i j) else false)) → ∀ (H : Heap) (locs : List Loc) (ls : Array Slot), kx_Wd G z0 ad nb sg H → va_S (kx_Ad z0) s.heap H locs → lv_has ls 5 [(4, .int (nI k)), (3, .int a), (0, .ref (ad 9 i)), (1, .int t), (2, .int q)] → W p l e (headSpec wsX0_scansAheadOf { frames := 3, cells := 0, slots := 0, locals := 65 }).room s m ([.ref (ad 9 i), .int t, .int q] : List Value).toArray below meth c H locs 0 0 (MQ below (kx_Q G z0 ad nb (fun r sg' => ∃ a : Int32, r = some (.int a) ∧ sg' = sg ∧ tw_tru a (nI 12) = decide (tw_cmn 0 q ≤ t) ∧ ∀ j, j < n → tw_tru a (nI j) = decide (tw_cmn (sg 11 i j) q ≤ t - sg 10 i j))) ([.ref (ad 9 i), .int t, .int q] : List Value).toArray s 0 0 (kx_Ad z0)) (F0 m 20 ls []) := by
    intro j
    induction j with
    | zero =>
      intro k a hk hL H locs ls hW hS hl
      refine lv_iload hx hb dX0_scansAheadOf_20 (lv_at hl 0 rfl) ?_
      refine lv_aload_n hx hb dX0_scansAheadOf_22 rfl (lv_at hl 2 rfl) ?_
      refine kx_g F inX0 hW 9 i hi rfl rfl 6 (by decide) L_24 (v := .int (nI n)) (congrArg (fun z => some (Value.int z)) hn) dX0_scansAheadOf_23 ?_
      refine lv_icmp_ge (tgt := 65) hx hb dX0_scansAheadOf_26 (by decide) (fun c_26 => ?_) (fun c_26 => ?_)
      · refine lv_iload_n hx hb dX0_scansAheadOf_65 rfl (lv_at hl 1 rfl) ?_
        exact kx_ri F hr hlocks hW hS (by first | exact Nat.le_of_ble_eq_true rfl | omega) (by first | exact Nat.le_of_ble_eq_true rfl | omega) (⟨a, rfl, rfl, (hL 12 (by decide)).trans (by rw [if_pos rfl]), fun j9 hj9 => (hL j9 (by omega)).trans (by rw [if_neg (by omega), if_pos (by omega)])⟩) dX0_scansAheadOf_66
      · exact absurd (nI_le (by omega) (by omega)) c_26
    | succ j ih =>
      intro k a hk hL H locs ls hW hS hl
      refine lv_iload hx hb dX0_scansAheadOf_20 (lv_at hl 0 rfl) ?_
      refine lv_aload_n hx hb dX0_scansAheadOf_22 rfl (lv_at hl 2 rfl) ?_
      refine kx_g F inX0 hW 9 i hi rfl rfl 6 (by decide) L_24 (v := .int (nI n)) (congrArg (fun z => some (Value.int z)) hn) dX0_scansAheadOf_23 ?_
      refine lv_icmp_ge (tgt := 65) hx hb dX0_scansAheadOf_26 (by decide) (fun c_26 => ?_) (fun c_26 => ?_)
      · exact absurd c_26 (nI_ge (by omega) (by omega))
      · refine lv_aload_n hx hb dX0_scansAheadOf_29 rfl (lv_at hl 2 rfl) ?_
        refine kx_g F inX0 hW 9 i hi rfl rfl 3 (by decide) L_15 (v := .ref (ad 11 i)) rfl dX0_scansAheadOf_30 ?_
        refine lv_iload hx hb dX0_scansAheadOf_33 (lv_at hl 0 rfl) ?_
        refine kx_ald F hW 11 i hi rfl k (by omega) (by decide) (v := sg 11 i k) rfl dX0_scansAheadOf_35 ?_
        refine lv_iload_n hx hb dX0_scansAheadOf_36 rfl (lv_at hl 4 rfl) ?_
        refine kx_cN (na := 2) F (c_X3_minutesBetween l G z0 ad nb sg (sg 11 i k) q) gX0_scansAheadOf_X3_minutesBetween_n51 (by decide +kernel) (by decide +kernel) (host := "Whichbox") (by decide +kernel) rfl (by decide +kernel) ⟨Nat.le_of_ble_eq_true rfl, Nat.le_of_ble_eq_true rfl⟩ hW hS (As := [.int (sg 11 i k), .int q]) (rest := []) rfl hl.1 rfl (Nat.le_of_ble_eq_true rfl) dX0_scansAheadOf_37 ⟨by first | exact Nat.le_of_ble_eq_true rfl | omega, by first | exact Nat.le_of_ble_eq_true rfl | omega⟩ (fun r9 sg9 H locs hq hW hS => ?_)
        obtain ⟨rfl, e9⟩ := hq
        rw [e9] at hW
        refine W.eq (g2 := F0 m 40 ls [.int (tw_cmn (sg 11 i k) q)]) rfl ?_
        refine lv_iload_n hx hb dX0_scansAheadOf_40 rfl (lv_at hl 3 rfl) ?_
        refine lv_aload_n hx hb dX0_scansAheadOf_41 rfl (lv_at hl 2 rfl) ?_
        refine kx_g F inX0 hW 9 i hi rfl rfl 2 (by decide) L_9 (v := .ref (ad 10 i)) rfl dX0_scansAheadOf_42 ?_
        refine lv_iload hx hb dX0_scansAheadOf_45 (lv_at hl 0 rfl) ?_
        refine kx_ald F hW 10 i hi rfl k (by omega) (by decide) (v := sg 10 i k) rfl dX0_scansAheadOf_47 ?_
        refine lv_isub hx hb dX0_scansAheadOf_48 ?_
        refine lv_icmp_gt (tgt := 59) hx hb dX0_scansAheadOf_49 (by decide) (fun c_49 => ?_) (fun c_49 => ?_)
        · refine lv_iinc (v := nI (k + 1)) (lv' := [(4, .int (nI (k + 1))), (3, .int a), (0, .ref (ad 9 i)), (1, .int t), (2, .int q)]) hx hb dX0_scansAheadOf_59 hl (k := 0) rfl (nI_1 k) (by decide) rfl (fun ls hl => ?_)
          refine lv_goto (tgt := 20) hx hb dX0_scansAheadOf_62 (by decide) ?_
          exact ih (k + 1) a (by omega) (tw_sa_f (by omega) hL c_49) H locs ls hW hS (lv_sub hl [0, 1, 2, 3, 4] rfl)
        · refine lv_iload_n hx hb dX0_scansAheadOf_52 rfl (lv_at hl 1 rfl) ?_
          refine lv_iconst (v := 1) hx hb dX0_scansAheadOf_53 (by decide) ?_
          refine lv_iload hx hb dX0_scansAheadOf_54 (lv_at hl 0 rfl) ?_
          refine lv_ishl hx hb dX0_scansAheadOf_56 ?_
          refine lv_ior hx hb dX0_scansAheadOf_57 ?_
          refine lv_istore_n (lv' := [(3, .int (a ||| (1 <<< ((nI k) &&& 31)))), (4, .int (nI k)), (0, .ref (ad 9 i)), (1, .int t), (2, .int q)]) hx hb dX0_scansAheadOf_58 rfl hl (by decide) rfl (fun ls hl => ?_)
          refine lv_iinc (v := nI (k + 1)) (lv' := [(4, .int (nI (k + 1))), (3, .int (a ||| (1 <<< ((nI k) &&& 31)))), (0, .ref (ad 9 i)), (1, .int t), (2, .int q)]) hx hb dX0_scansAheadOf_59 hl (k := 1) rfl (nI_1 k) (by decide) rfl (fun ls hl => ?_)
          refine lv_goto (tgt := 20) hx hb dX0_scansAheadOf_62 (by decide) ?_
          exact ih (k + 1) _ (by omega) (tw_sa_t (by omega) hL c_49) H locs ls hW hS (lv_sub hl [0, 1, 2, 3, 4] rfl)
  refine lv_iconst (v := 0) hx hb dX0_scansAheadOf_0 (by decide) ?_
  refine lv_iload_n hx hb dX0_scansAheadOf_1 rfl (lv_at hl 2 rfl) ?_
  refine kx_cN (na := 2) F (c_X3_minutesBetween l G z0 ad nb sg 0 q) gX0_scansAheadOf_X3_minutesBetween_n51 (by decide +kernel) (by decide +kernel) (host := "Whichbox") (by decide +kernel) rfl (by decide +kernel) ⟨Nat.le_of_ble_eq_true rfl, Nat.le_of_ble_eq_true rfl⟩ hW hS (As := [.int 0, .int q]) (rest := []) rfl hl.1 rfl (Nat.le_of_ble_eq_true rfl) dX0_scansAheadOf_2 ⟨by first | exact Nat.le_of_ble_eq_true rfl | omega, by first | exact Nat.le_of_ble_eq_true rfl | omega⟩ (fun r9 sg9 H locs hq hW hS => ?_)
  obtain ⟨rfl, e9⟩ := hq
  rw [e9] at hW
  refine W.eq (g2 := F0 m 5 ls [.int (tw_cmn 0 q)]) rfl ?_
  refine lv_iload_n hx hb dX0_scansAheadOf_5 rfl (lv_at hl 1 rfl) ?_
  refine lv_icmp_gt (tgt := 15) hx hb dX0_scansAheadOf_6 (by decide) (fun c_6 => ?_) (fun c_6 => ?_)
  · refine lv_iconst (v := 0) hx hb dX0_scansAheadOf_15 (by decide) ?_
    refine lv_istore_n (lv' := [(3, .int 0), (0, .ref (ad 9 i)), (1, .int t), (2, .int q)]) hx hb dX0_scansAheadOf_16 rfl hl (by decide) rfl (fun ls hl => ?_)
    refine lv_iconst (v := 0) hx hb dX0_scansAheadOf_17 (by decide) ?_
    refine lv_istore (lv' := [(4, .int 0), (3, .int 0), (0, .ref (ad 9 i)), (1, .int t), (2, .int q)]) hx hb dX0_scansAheadOf_18 hl (by decide) rfl (fun ls hl => ?_)
    exact loop n 0 _ (by omega) (tw_sa_0f c_6) _ _ ls hW hS (lv_sub hl [0, 1, 2, 3, 4] rfl)
  · refine lv_sipush (v := 4096) hx hb dX0_scansAheadOf_9 (by decide) ?_
    refine lv_goto (tgt := 16) hx hb dX0_scansAheadOf_12 (by decide) ?_
    refine lv_istore_n (lv' := [(3, .int 4096), (0, .ref (ad 9 i)), (1, .int t), (2, .int q)]) hx hb dX0_scansAheadOf_16 rfl hl (by decide) rfl (fun ls hl => ?_)
    refine lv_iconst (v := 0) hx hb dX0_scansAheadOf_17 (by decide) ?_
    refine lv_istore (lv' := [(4, .int 0), (3, .int 4096), (0, .ref (ad 9 i)), (1, .int t), (2, .int q)]) hx hb dX0_scansAheadOf_18 hl (by decide) rfl (fun ls hl => ?_)
    exact loop n 0 _ (by omega) (tw_sa_0t c_6) _ _ ls hW hS (lv_sub hl [0, 1, 2, 3, 4] rfl)

set_option maxHeartbeats 4000000 in
set_option maxRecDepth 100000 in
/-- a scan is noted -/
theorem c_X0_note (l : Launch) (G : kx_G) (z0 : Nat) (ad : kx_A) (nb : Nat) (sg : kx_S) (i : Nat) (hi : i < nb) (n : Nat) (hn : sg 9 i 6 = nI n) (h12 : n < 12) (t q mk : Int32) : kx_M l yX0_note wsX0_note 4 89 0 0 G z0 ad nb sg [.ref (ad 9 i), .int t, .int q, .int mk] (fun r sg' => r = some (.int (nI n)) ∧ ∃ a : Int32, (tw_tru a (nI 12) = decide (tw_cmn 0 q ≤ t) ∧ ∀ j, j < n → tw_tru a (nI j) = decide (tw_cmn (sg 11 i j) q ≤ t - sg 10 i j)) ∧ sg' = kx_up (kx_up (kx_up (kx_up (kx_up sg 10 i (upd (sg 10 i) n t)) 11 i (upd (sg 11 i) n q)) 12 i (upd (sg 12 i) n mk)) 13 i (upd (sg 13 i) n a)) 9 i (upd (sg 9 i) 6 (nI (n + 1)))) := by
  refine Met.ofW (cc := cX0_note) (maxL := 5) (ret := (some .int)) (by decide) rfl ?_
  intro p e s m args below meth c s₁ B hml hv
  obtain ⟨rfl, hW, hV⟩ := hv
  have hts := atoms_spec (ws := wsX0_note) B.pre
  have F : kx_F p s m c cX0_note 5 RX0 _ wsX0_note G z0 := ⟨B.exec, B.bytes, hml, findClass_of_methodNamed B.named, hts, hV⟩
  have hx := B.exec; have hb := B.bytes; have hr := B.returns; have hlocks := B.notSynchronized
  have hS : va_S (kx_Ad z0) s.heap s.heap [] := va_S.rf
  have L_15 : Cond.fieldLink RX0 15 (TX0 3).1 (TX0 3).2.1 (TX0 3).2.2.1 ∈ wsX0_note := by decide +kernel
  have L_18 : Cond.fieldLink RX0 18 (TX0 4).1 (TX0 4).2.1 (TX0 4).2.2.1 ∈ wsX0_note := by decide +kernel
  have L_21 : Cond.fieldLink RX0 21 (TX0 5).1 (TX0 5).2.1 (TX0 5).2.2.1 ∈ wsX0_note := by decide +kernel
  have L_24 : Cond.fieldLink RX0 24 (TX0 6).1 (TX0 6).2.1 (TX0 6).2.2.1 ∈ wsX0_note := by decide +kernel
  have L_9 : Cond.fieldLink RX0 9 (TX0 2).1 (TX0 2).2.1 (TX0 2).2.2.1 ∈ wsX0_note := by decide +kernel
  have inX0 : ∀ w ∈ u_ws RX0 TX0 11, w ∈ wsX0_note := by decide +kernel
  have hl := lv_entry ([.ref (ad 9 i), .int t, .int q, .int mk]) (n := 5) (Nat.le_of_ble_eq_true rfl)
  rw [lg_entry_eq]
  generalize (lg_sl ([.ref (ad 9 i), .int t, .int q, .int mk]) ++ List.replicate (5 - (lg_sl ([.ref (ad 9 i), .int t, .int q, .int mk])).length) Slot.unset).toArray = ls at hl ⊢
  have hl : lv_has ls 5 [(0, .ref (ad 9 i)), (1, .int t), (2, .int q), (3, .int mk)] := hl
  refine lv_aload_n hx hb dX0_note_0 rfl (lv_at hl 0 rfl) ?_
  refine kx_g F inX0 hW 9 i hi rfl rfl 6 (by decide) L_24 (v := .int (nI n)) (congrArg (fun z => some (Value.int z)) hn) dX0_note_1 ?_
  refine lv_bipush (v := 12) hx hb dX0_note_4 (by decide) ?_
  refine lv_icmp_lt (tgt := 11) hx hb dX0_note_6 (by decide) (fun c_6 => ?_) (fun c_6 => ?_)
  · refine lv_aload_n hx hb dX0_note_11 rfl (lv_at hl 0 rfl) ?_
    refine kx_g F inX0 hW 9 i hi rfl rfl 6 (by decide) L_24 (v := .int (nI n)) (congrArg (fun z => some (Value.int z)) hn) dX0_note_12 ?_
    refine lv_istore (lv' := [(4, .int (nI n)), (0, .ref (ad 9 i)), (1, .int t), (2, .int q), (3, .int mk)]) hx hb dX0_note_15 hl (by decide) rfl (fun ls hl => ?_)
    refine lv_aload_n hx hb dX0_note_17 rfl (lv_at hl 1 rfl) ?_
    refine kx_g F inX0 hW 9 i hi rfl rfl 2 (by decide) L_9 (v := .ref (ad 10 i)) rfl dX0_note_18 ?_
    refine lv_iload hx hb dX0_note_21 (lv_at hl 0 rfl) ?_
    refine lv_iload_n hx hb dX0_note_23 rfl (lv_at hl 2 rfl) ?_
    refine kx_ast F hW hS 10 i hi rfl n h12 (by decide) (x := t) rfl dX0_note_24 (fun H locs hW hS => ?_)
    have hW : kx_Wd G z0 ad nb (kx_up sg 10 i (upd (sg 10 i) n t)) H := by first | exact hW | (simp only [kx_up_s, kx_up_up] at hW; exact hW) | (simp only [kx_up_s, kx_up_up, upd_s] at hW; exact hW)
    refine lv_aload_n hx hb dX0_note_25 rfl (lv_at hl 1 rfl) ?_
    refine kx_g F inX0 hW 9 i hi rfl rfl 3 (by decide) L_15 (v := .ref (ad 11 i)) rfl dX0_note_26 ?_
    refine lv_iload hx hb dX0_note_29 (lv_at hl 0 rfl) ?_
    refine lv_iload_n hx hb dX0_note_31 rfl (lv_at hl 3 rfl) ?_
    refine kx_ast F hW hS 11 i hi rfl n h12 (by decide) (x := q) rfl dX0_note_32 (fun H locs hW hS => ?_)
    have hW : kx_Wd G z0 ad nb (kx_up (kx_up sg 10 i (upd (sg 10 i) n t)) 11 i (upd (sg 11 i) n q)) H := by first | exact hW | (simp only [kx_up_s, kx_up_up] at hW; exact hW) | (simp only [kx_up_s, kx_up_up, upd_s] at hW; exact hW)
    refine lv_aload_n hx hb dX0_note_33 rfl (lv_at hl 1 rfl) ?_
    refine kx_g F inX0 hW 9 i hi rfl rfl 4 (by decide) L_18 (v := .ref (ad 12 i)) rfl dX0_note_34 ?_
    refine lv_iload hx hb dX0_note_37 (lv_at hl 0 rfl) ?_
    refine lv_iload_n hx hb dX0_note_39 rfl (lv_at hl 4 rfl) ?_
    refine kx_ast F hW hS 12 i hi rfl n h12 (by decide) (x := mk) rfl dX0_note_40 (fun H locs hW hS => ?_)
    have hW : kx_Wd G z0 ad nb (kx_up (kx_up (kx_up sg 10 i (upd (sg 10 i) n t)) 11 i (upd (sg 11 i) n q)) 12 i (upd (sg 12 i) n mk)) H := by first | exact hW | (simp only [kx_up_s, kx_up_up] at hW; exact hW) | (simp only [kx_up_s, kx_up_up, upd_s] at hW; exact hW)
    refine lv_aload_n hx hb dX0_note_41 rfl (lv_at hl 1 rfl) ?_
    refine kx_g F inX0 hW 9 i hi rfl rfl 5 (by decide) L_21 (v := .ref (ad 13 i)) rfl dX0_note_42 ?_
    refine lv_iload hx hb dX0_note_45 (lv_at hl 0 rfl) ?_
    refine lv_aload_n hx hb dX0_note_47 rfl (lv_at hl 1 rfl) ?_
    refine lv_iload_n hx hb dX0_note_48 rfl (lv_at hl 2 rfl) ?_
    refine lv_iload_n hx hb dX0_note_49 rfl (lv_at hl 3 rfl) ?_
    refine kx_cV (na := 2) F (q := 9) (n := i) (c_X0_scansAheadOf l G z0 ad nb (kx_up (kx_up (kx_up sg 10 i (upd (sg 10 i) n t)) 11 i (upd (sg 11 i) n q)) 12 i (upd (sg 12 i) n mk)) i hi n hn (Nat.le_of_lt h12) t q) gX0_note_X0_scansAheadOf rfl (by decide +kernel) ⟨Nat.le_of_ble_eq_true rfl, Nat.le_of_ble_eq_true rfl⟩ hW hS hi rfl rfl (As := [.int t, .int q]) (rest := [.int (nI n), .ref (ad 13 i)]) rfl hl.1 rfl (Nat.le_of_ble_eq_true rfl) dX0_note_50 ⟨by first | exact Nat.le_of_ble_eq_true rfl | omega, by first | exact Nat.le_of_ble_eq_true rfl | omega⟩ (fun r9 sg9 H locs hq hW hS => ?_)
    obtain ⟨a9, rfl, e9, hb1, hb2⟩ := hq
    rw [e9] at hW
    refine W.eq (g2 := F0 m 53 ls [.int a9, .int (nI n), .ref (ad 13 i)]) rfl ?_
    refine kx_ast F hW hS 13 i hi rfl n h12 (by decide) (x := a9) rfl dX0_note_53 (fun H locs hW hS => ?_)
    have hW : kx_Wd G z0 ad nb (kx_up (kx_up (kx_up (kx_up sg 10 i (upd (sg 10 i) n t)) 11 i (upd (sg 11 i) n q)) 12 i (upd (sg 12 i) n mk)) 13 i (upd (sg 13 i) n a9)) H := by first | exact hW | (simp only [kx_up_s, kx_up_up] at hW; exact hW) | (simp only [kx_up_s, kx_up_up, upd_s] at hW; exact hW)
    refine lv_aload_n hx hb dX0_note_54 rfl (lv_at hl 1 rfl) ?_
    refine lv_dup hx hb dX0_note_55 rfl ?_
    refine kx_g F inX0 hW 9 i hi rfl rfl 6 (by decide) L_24 (v := .int (nI n)) (by exact congrArg (fun z => some (Value.int z)) hn) dX0_note_56 ?_
    refine lv_iconst (v := 1) hx hb dX0_note_59 (by decide) ?_
    refine lv_iadd hx hb dX0_note_60 ?_
    rw [nI_1 n]
    refine kx_p F inX0 tyX0 tyX0_ok nmX0 hW hS 9 i hi rfl rfl 6 (by decide) L_24 rfl (v := .int (nI (n + 1))) rfl rfl (Nat.le_of_ble_eq_true rfl) (upd ((kx_up (kx_up (kx_up (kx_up sg 10 i (upd (sg 10 i) n t)) 11 i (upd (sg 11 i) n q)) 12 i (upd (sg 12 i) n mk)) 13 i (upd (sg 13 i) n a9)) 9 i) 6 (nI (n + 1))) rfl dX0_note_61 (fun H locs hW hS => ?_)
    have hW : kx_Wd G z0 ad nb (kx_up (kx_up (kx_up (kx_up (kx_up sg 10 i (upd (sg 10 i) n t)) 11 i (upd (sg 11 i) n q)) 12 i (upd (sg 12 i) n mk)) 13 i (upd (sg 13 i) n a9)) 9 i (upd (sg 9 i) 6 (nI (n + 1)))) H := by first | exact hW | (simp only [kx_up_s, kx_up_up] at hW; exact hW) | (simp only [kx_up_s, kx_up_up, upd_s] at hW; exact hW)
    refine lv_iload hx hb dX0_note_64 (lv_at hl 0 rfl) ?_
    exact kx_ri F hr hlocks hW hS (by first | exact Nat.le_of_ble_eq_true rfl | omega) (by first | exact Nat.le_of_ble_eq_true rfl | omega) (⟨rfl, a9, ⟨hb1, fun j hj => (hb2 j hj).trans (by simp [kx_up, upd, Nat.ne_of_lt hj])⟩, rfl⟩) dX0_note_66
  · exact absurd (nI_lt (b := 12) h12 (by decide)) c_6

set_option maxHeartbeats 4000000 in
set_option maxRecDepth 100000 in
/-- no room for a scan -/
theorem c_X0_note_full (l : Launch) (G : kx_G) (z0 : Nat) (ad : kx_A) (nb : Nat) (sg : kx_S) (i : Nat) (hi : i < nb) (hn : sg 9 i 6 = nI 12) (t q mk : Int32) : kx_M l yX0_note wsX0_note 4 89 0 0 G z0 ad nb sg [.ref (ad 9 i), .int t, .int q, .int mk] (fun r sg' => r = some (.int (-1)) ∧ sg' = sg) := by
  refine Met.ofW (cc := cX0_note) (maxL := 5) (ret := (some .int)) (by decide) rfl ?_
  intro p e s m args below meth c s₁ B hml hv
  obtain ⟨rfl, hW, hV⟩ := hv
  have hts := atoms_spec (ws := wsX0_note) B.pre
  have F : kx_F p s m c cX0_note 5 RX0 _ wsX0_note G z0 := ⟨B.exec, B.bytes, hml, findClass_of_methodNamed B.named, hts, hV⟩
  have hx := B.exec; have hb := B.bytes; have hr := B.returns; have hlocks := B.notSynchronized
  have hS : va_S (kx_Ad z0) s.heap s.heap [] := va_S.rf
  have L_24 : Cond.fieldLink RX0 24 (TX0 6).1 (TX0 6).2.1 (TX0 6).2.2.1 ∈ wsX0_note := by decide +kernel
  have inX0 : ∀ w ∈ u_ws RX0 TX0 11, w ∈ wsX0_note := by decide +kernel
  have hl := lv_entry ([.ref (ad 9 i), .int t, .int q, .int mk]) (n := 5) (Nat.le_of_ble_eq_true rfl)
  rw [lg_entry_eq]
  generalize (lg_sl ([.ref (ad 9 i), .int t, .int q, .int mk]) ++ List.replicate (5 - (lg_sl ([.ref (ad 9 i), .int t, .int q, .int mk])).length) Slot.unset).toArray = ls at hl ⊢
  have hl : lv_has ls 5 [(0, .ref (ad 9 i)), (1, .int t), (2, .int q), (3, .int mk)] := hl
  refine lv_aload_n hx hb dX0_note_0 rfl (lv_at hl 0 rfl) ?_
  refine kx_g F inX0 hW 9 i hi rfl rfl 6 (by decide) L_24 (v := .int (nI 12)) (congrArg (fun z => some (Value.int z)) hn) dX0_note_1 ?_
  refine lv_bipush (v := 12) hx hb dX0_note_4 (by decide) ?_
  refine lv_icmp_lt (tgt := 11) hx hb dX0_note_6 (by decide) (fun c_6 => ?_) (fun c_6 => ?_)
  · exact absurd c_6 (nI_nlt (b := 12) (a := 12) (by decide) (by decide))
  · refine lv_iconst (v := (-1)) hx hb dX0_note_9 (by decide) ?_
    exact kx_ri F hr hlocks hW hS (by first | exact Nat.le_of_ble_eq_true rfl | omega) (by first | exact Nat.le_of_ble_eq_true rfl | omega) (⟨rfl, rfl⟩) dX0_note_10
