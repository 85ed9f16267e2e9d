theorem tm_st_eq {s s' : kx_S} {i n : Nat} (h21 : s' 21 0 = s 21 0) (h22 : s' 22 0 = s 22 0) (h23 : s' 23 0 = s 23 0) (h24 : s' 24 0 = s 24 0) (h29 : s' 29 0 = s 29 0) : tm_st s' i n = tm_st s i n := by
  unfold tm_st tm_S tm_w tm_f tm_s
  rw [h21, h22, h23, h24, h29]
theorem tm_a3_B0 {A B : Bool} {z : Int32} (h : tw_a3 (tw_b A) (tw_b B) z = 0) : A = true ∧ B = true ∧ ¬ z = 0 := by
  cases A
  · exact absurd h (by rw [tw_a3, if_pos (show tw_b false = 0 from rfl)]; decide)
  · cases B
    · exact absurd h (by rw [tw_a3, if_neg (show ¬ tw_b true = 0 by decide), if_pos (show tw_b false = 0 from rfl)]; decide)
    · refine ⟨rfl, rfl, fun e => ?_⟩
      rw [e] at h
      exact absurd h (by decide)
theorem tw_a3_s1 {A : Bool} {y z : Int32} (h : A = false) : tw_a3 (tw_b A) y z = 1 := by rw [h]; exact if_pos rfl
theorem tw_a3_s2 {A B : Bool} {z : Int32} (h : A = true) (h2 : B = false) : tw_a3 (tw_b A) (tw_b B) z = 2 := by rw [h, h2]; exact (if_neg (by decide)).trans (if_pos rfl)
theorem tw_a3_s3 {A B : Bool} (h : A = true) (h2 : B = true) : tw_a3 (tw_b A) (tw_b B) 0 = 3 := by rw [h, h2]; decide
theorem tw_a3_s0 {A B : Bool} (h : A = true) (h2 : B = true) : tw_a3 (tw_b A) (tw_b B) 1 = 0 := by rw [h, h2]; decide
theorem tm_WF_k {mb : Nat} {sg : kx_S} {q : Nat} {r : Nat → Int32} (h : tm_WF mb sg) (h14 : q ≠ 14) (h17 : q ≠ 17) (h23 : q ≠ 23) (h24 : q ≠ 24) : tm_WF mb (kx_up sg q 0 r) := tm_WF_eq h (by rw [kx_up_q (Ne.symm h14)]) (by rw [kx_up_q (Ne.symm h17)]) (by rw [kx_up_q (Ne.symm h23)]) (by rw [kx_up_q (Ne.symm h24)])

set_option maxHeartbeats 4000000 in
set_option maxRecDepth 100000 in
theorem c_X4_setDoor (l : Launch) (G : kx_G) (z0 : Nat) (ad : kx_A) (nb : Nat) (sg : kx_S) (mb : Nat) (hwf : tm_WF mb sg) (x y : Int32) : kx_M l yX4_setDoor wsX4_setDoor 2 42 0 0 G z0 ad nb sg [.ref (ad 14 0), .int x, .int y] (fun r sg' => ((∀ d, d < 10 → ¬ x = nI d) ∧ r = some (.int 0) ∧ tm_Q sg sg' 1) ∨ (∃ d : Nat, d < 10 ∧ x = nI d ∧ tw_in y 1 3 = false ∧ r = some (.int 0) ∧ tm_Q sg sg' 2) ∨ (∃ d : Nat, d < 10 ∧ x = nI d ∧ tw_in y 1 3 = true ∧ ¬ sg 26 0 d = -1 ∧ r = some (.int 0) ∧ tm_Q sg sg' 3) ∨ (∃ d : Nat, d < 10 ∧ x = nI d ∧ tw_in y 1 3 = true ∧ sg 26 0 d = -1 ∧ r = some (.int (sg 25 0 d)) ∧ sg' = kx_up (kx_up sg 14 0 (upd (sg 14 0) 22 0)) 25 0 (upd (sg 25 0) d y))) := by
  refine Met.ofW (cc := cX4_setDoor) (maxL := 5) (ret := (some .int)) (by decide) rfl ?_
  intro p e s m args below meth c s₁ B hml hv
  obtain ⟨rfl, hW, hV⟩ := hv
  have hts := atoms_spec (ws := wsX4_setDoor) B.pre
  have F : kx_F p s m c cX4_setDoor 5 RX4 _ wsX4_setDoor G z0 := ⟨B.exec, B.bytes, hml, findClass_of_methodNamed B.named, hts, hV⟩
  have hx := B.exec; have hb := B.bytes; have hr := B.returns; have hlocks := B.notSynchronized
  have hS : va_S (kx_Ad z0) s.heap s.heap [] := va_S.rf
  have hmb16 := hwf.2.1
  have L_41 : Cond.fieldLink RX4 41 (TX4 12).1 (TX4 12).2.1 (TX4 12).2.2.1 ∈ wsX4_setDoor := by decide +kernel
  have L_44 : Cond.fieldLink RX4 44 (TX4 13).1 (TX4 13).2.1 (TX4 13).2.2.1 ∈ wsX4_setDoor := by decide +kernel
  have inX4 : ∀ w ∈ u_ws RX4 TX4 23, w ∈ wsX4_setDoor := by decide +kernel
  have hl := lv_entry ([.ref (ad 14 0), .int x, .int y]) (n := 5) (Nat.le_of_ble_eq_true rfl)
  rw [lg_entry_eq]
  generalize (lg_sl ([.ref (ad 14 0), .int x, .int y]) ++ List.replicate (5 - (lg_sl ([.ref (ad 14 0), .int x, .int y])).length) Slot.unset).toArray = ls at hl ⊢
  have hl : lv_has ls 5 [(0, .ref (ad 14 0)), (1, .int x), (2, .int y)] := hl
  refine lv_iload_n hx hb dX4_setDoor_0 rfl (lv_at hl 1 rfl) ?_
  refine kx_cS (na := 1) F (c_X4_isDoor l G z0 ad nb sg x) gX4_setDoor_X4_isDoor rfl (by decide +kernel) ⟨Nat.le_of_ble_eq_true rfl, Nat.le_of_ble_eq_true rfl⟩ hW hS (As := [.int x]) (rest := []) rfl hl.1 rfl (Nat.le_of_ble_eq_true rfl) dX4_setDoor_1 ⟨by first | exact Nat.le_of_ble_eq_true rfl | omega, by first | exact Nat.le_of_ble_eq_true rfl | omega⟩ (fun r9 sg9 H locs hq hW hS => ?_)
  obtain ⟨rfl, e9⟩ := hq
  rw [e9] at hW
  refine W.eq (g2 := F0 m 4 ls [.int (tw_b (tw_in x 0 9))]) rfl ?_
  refine lv_istore_n (lv' := [(3, .int (tw_b (tw_in x 0 9))), (0, .ref (ad 14 0)), (1, .int x), (2, .int y)]) hx hb dX4_setDoor_4 rfl hl (by decide) rfl (fun ls hl => ?_)
  refine lv_aload_n hx hb dX4_setDoor_5 rfl (lv_at hl 1 rfl) ?_
  refine lv_iload_n hx hb dX4_setDoor_6 rfl (lv_at hl 0 rfl) ?_
  refine lv_iload_n hx hb dX4_setDoor_7 rfl (lv_at hl 3 rfl) ?_
  refine lv_iconst (v := 1) hx hb dX4_setDoor_8 (by decide) ?_
  refine lv_iconst (v := 3) hx hb dX4_setDoor_9 (by decide) ?_
  refine kx_cS (na := 3) F (c_X4_in l G z0 ad nb sg y 1 3) gX4_setDoor_X4_in rfl (by decide +kernel) ⟨Nat.le_of_ble_eq_true rfl, Nat.le_of_ble_eq_true rfl⟩ hW hS (As := [.int y, .int 1, .int 3]) (rest := [.int (tw_b (tw_in x 0 9)), .ref (ad 14 0)]) rfl hl.1 rfl (Nat.le_of_ble_eq_true rfl) dX4_setDoor_10 ⟨by first | exact Nat.le_of_ble_eq_true rfl | omega, by first | exact Nat.le_of_ble_eq_true rfl | omega⟩ (fun r9 sg9 H locs hq hW hS => ?_)
  obtain ⟨rfl, e9⟩ := hq
  rw [e9] at hW
  refine W.eq (g2 := F0 m 13 ls [.int (tw_b (tw_in y 1 3)), .int (tw_b (tw_in x 0 9)), .ref (ad 14 0)]) rfl ?_
  refine lv_iload_n hx hb dX4_setDoor_13 rfl (lv_at hl 0 rfl) ?_
  refine lv_if_eq (tgt := 31) hx hb dX4_setDoor_14 (by decide) (fun c_14 => ?_) (fun c_14 => ?_)
  · refine lv_iconst (v := 0) hx hb dX4_setDoor_31 (by decide) ?_
    refine kx_cV (na := 3) F (q := 14) (n := 0) (c_X4_asked__ l G z0 ad nb sg (tw_b (tw_in x 0 9)) (tw_b (tw_in y 1 3)) 0) gX4_setDoor_X4_asked__ rfl (by decide +kernel) ⟨Nat.le_of_ble_eq_true rfl, Nat.le_of_ble_eq_true rfl⟩ hW hS ⟨by decide, rfl⟩ rfl rfl (As := [.int (tw_b (tw_in x 0 9)), .int (tw_b (tw_in y 1 3)), .int 0]) (rest := []) rfl hl.1 rfl (Nat.le_of_ble_eq_true rfl) dX4_setDoor_32 ⟨by first | exact Nat.le_of_ble_eq_true rfl | omega, by first | exact Nat.le_of_ble_eq_true rfl | omega⟩ (fun r9 sg9 H locs hq hW hS => ?_)
    obtain ⟨rfl, e9⟩ := hq
    rw [e9] at hW
    have hW : kx_Wd G z0 ad nb (kx_up sg 14 0 (upd (sg 14 0) 22 (tw_a3 (tw_b (tw_in x 0 9)) (tw_b (tw_in y 1 3)) 0))) H := by first | exact hW | (simp only [kx_up_s, kx_up_up] at hW; exact hW) | (simp only [kx_up_s, kx_up_up, upd_s] at hW; exact hW)
    refine W.eq (g2 := F0 m 35 ls [.int (tw_b (decide (tw_a3 (tw_b (tw_in x 0 9)) (tw_b (tw_in y 1 3)) 0 = 0)))]) rfl ?_
    refine lv_if_ne (tgt := 40) hx hb dX4_setDoor_35 (by decide) (fun c_35 => ?_) (fun c_35 => ?_)
    · exact absurd ((tw_a3_s1 (tw_b_0 c_14)).symm.trans (tw_dec1 c_35)) (by decide)
    · refine lv_iconst (v := 0) hx hb dX4_setDoor_38 (by decide) ?_
      exact kx_ri F hr hlocks hW hS (by first | exact Nat.le_of_ble_eq_true rfl | omega) (by first | exact Nat.le_of_ble_eq_true rfl | omega) (Or.inl ⟨tw_nodoor (tw_b_0 c_14), rfl, tm_Q_th (tw_a3_s1 (tw_b_0 c_14))⟩) dX4_setDoor_39
  · obtain ⟨d, hd, rfl⟩ := tw_isdoor (tw_b_1 c_14)
    refine lv_aload_n hx hb dX4_setDoor_17 rfl (lv_at hl 1 rfl) ?_
    refine kx_g F inX4 hW 14 0 ⟨by decide, rfl⟩ rfl rfl 13 (by decide) L_44 (v := .ref (ad 26 0)) rfl dX4_setDoor_18 ?_
    refine lv_iload_n hx hb dX4_setDoor_21 rfl (lv_at hl 2 rfl) ?_
    refine kx_ald F hW 26 0 ⟨by decide, rfl⟩ rfl d (by omega) (by decide) (v := sg 26 0 d) rfl dX4_setDoor_22 ?_
    refine lv_iconst (v := (-1)) hx hb dX4_setDoor_23 (by decide) ?_
    refine lv_icmp_ne (tgt := 31) hx hb dX4_setDoor_24 (by decide) (fun c_24 => ?_) (fun c_24 => ?_)
    · refine lv_iconst (v := 0) hx hb dX4_setDoor_31 (by decide) ?_
      refine kx_cV (na := 3) F (q := 14) (n := 0) (c_X4_asked__ l G z0 ad nb sg (tw_b (tw_in (nI d) 0 9)) (tw_b (tw_in y 1 3)) 0) gX4_setDoor_X4_asked__ rfl (by decide +kernel) ⟨Nat.le_of_ble_eq_true rfl, Nat.le_of_ble_eq_true rfl⟩ hW hS ⟨by decide, rfl⟩ rfl rfl (As := [.int (tw_b (tw_in (nI d) 0 9)), .int (tw_b (tw_in y 1 3)), .int 0]) (rest := []) rfl hl.1 rfl (Nat.le_of_ble_eq_true rfl) dX4_setDoor_32 ⟨by first | exact Nat.le_of_ble_eq_true rfl | omega, by first | exact Nat.le_of_ble_eq_true rfl | omega⟩ (fun r9 sg9 H locs hq hW hS => ?_)
      obtain ⟨rfl, e9⟩ := hq
      rw [e9] at hW
      have hW : kx_Wd G z0 ad nb (kx_up sg 14 0 (upd (sg 14 0) 22 (tw_a3 (tw_b (tw_in (nI d) 0 9)) (tw_b (tw_in y 1 3)) 0))) H := by first | exact hW | (simp only [kx_up_s, kx_up_up] at hW; exact hW) | (simp only [kx_up_s, kx_up_up, upd_s] at hW; exact hW)
      refine W.eq (g2 := F0 m 35 ls [.int (tw_b (decide (tw_a3 (tw_b (tw_in (nI d) 0 9)) (tw_b (tw_in y 1 3)) 0 = 0)))]) rfl ?_
      refine lv_if_ne (tgt := 40) hx hb dX4_setDoor_35 (by decide) (fun c_35 => ?_) (fun c_35 => ?_)
      · exact absurd rfl (tm_a3_B0 (tw_dec1 c_35)).2.2
      · refine lv_iconst (v := 0) hx hb dX4_setDoor_38 (by decide) ?_
        exact kx_ri F hr hlocks hW hS (by first | exact Nat.le_of_ble_eq_true rfl | omega) (by first | exact Nat.le_of_ble_eq_true rfl | omega) (by rcases Bool.eq_false_or_eq_true (tw_in y 1 3) with hR | hR; exact Or.inr (Or.inr (Or.inl ⟨d, hd, rfl, hR, c_24, rfl, tm_Q_th (tw_a3_s3 (tw_b_1 c_14) hR)⟩)); exact Or.inr (Or.inl ⟨d, hd, rfl, hR, rfl, tm_Q_th (tw_a3_s2 (tw_b_1 c_14) hR)⟩)) dX4_setDoor_39
    · refine lv_iconst (v := 1) hx hb dX4_setDoor_27 (by decide) ?_
      refine lv_goto (tgt := 32) hx hb dX4_setDoor_28 (by decide) ?_
      refine kx_cV (na := 3) F (q := 14) (n := 0) (c_X4_asked__ l G z0 ad nb sg (tw_b (tw_in (nI d) 0 9)) (tw_b (tw_in y 1 3)) 1) gX4_setDoor_X4_asked__ rfl (by decide +kernel) ⟨Nat.le_of_ble_eq_true rfl, Nat.le_of_ble_eq_true rfl⟩ hW hS ⟨by decide, rfl⟩ rfl rfl (As := [.int (tw_b (tw_in (nI d) 0 9)), .int (tw_b (tw_in y 1 3)), .int 1]) (rest := []) rfl hl.1 rfl (Nat.le_of_ble_eq_true rfl) dX4_setDoor_32 ⟨by first | exact Nat.le_of_ble_eq_true rfl | omega, by first | exact Nat.le_of_ble_eq_true rfl | omega⟩ (fun r9 sg9 H locs hq hW hS => ?_)
      obtain ⟨rfl, e9⟩ := hq
      rw [e9] at hW
      have hW : kx_Wd G z0 ad nb (kx_up sg 14 0 (upd (sg 14 0) 22 (tw_a3 (tw_b (tw_in (nI d) 0 9)) (tw_b (tw_in y 1 3)) 1))) H := by first | exact hW | (simp only [kx_up_s, kx_up_up] at hW; exact hW) | (simp only [kx_up_s, kx_up_up, upd_s] at hW; exact hW)
      refine W.eq (g2 := F0 m 35 ls [.int (tw_b (decide (tw_a3 (tw_b (tw_in (nI d) 0 9)) (tw_b (tw_in y 1 3)) 1 = 0)))]) rfl ?_
      refine lv_if_ne (tgt := 40) hx hb dX4_setDoor_35 (by decide) (fun c_35 => ?_) (fun c_35 => ?_)
      · have hT9 : tw_a3 (tw_b (tw_in (nI d) 0 9)) (tw_b (tw_in y 1 3)) 1 = 0 := tw_dec1 c_35
        obtain ⟨hA9, hB9, -⟩ := tm_a3_B0 hT9
        rw [hT9] at hW
        refine lv_aload_n hx hb dX4_setDoor_40 rfl (lv_at hl 1 rfl) ?_
        refine kx_g F inX4 hW 14 0 ⟨by decide, rfl⟩ rfl rfl 12 (by decide) L_41 (v := .ref (ad 25 0)) rfl dX4_setDoor_41 ?_
        refine lv_iload_n hx hb dX4_setDoor_44 rfl (lv_at hl 2 rfl) ?_
        refine kx_ald F hW 25 0 ⟨by decide, rfl⟩ rfl d (by omega) (by decide) (v := sg 25 0 d) (by first | rfl | (simp only [kx_up_s]; done) | (simp only [kx_up_s, upd_s]; done) | (simp only [kx_up_s]; rfl) | (simp [kx_up, upd]; done)) dX4_setDoor_45 ?_
        refine lv_istore (lv' := [(4, .int (sg 25 0 d)), (3, .int (tw_b (tw_in (nI d) 0 9))), (0, .ref (ad 14 0)), (1, .int (nI d)), (2, .int y)]) hx hb dX4_setDoor_46 hl (by decide) rfl (fun ls hl => ?_)
        refine lv_aload_n hx hb dX4_setDoor_48 rfl (lv_at hl 2 rfl) ?_
        refine kx_g F inX4 hW 14 0 ⟨by decide, rfl⟩ rfl rfl 12 (by decide) L_41 (v := .ref (ad 25 0)) rfl dX4_setDoor_49 ?_
        refine lv_iload_n hx hb dX4_setDoor_52 rfl (lv_at hl 3 rfl) ?_
        refine lv_iload_n hx hb dX4_setDoor_53 rfl (lv_at hl 4 rfl) ?_
        refine kx_ast F hW hS 25 0 ⟨by decide, rfl⟩ rfl d (by omega) (by decide) (x := y) rfl dX4_setDoor_54 (fun H locs hW hS => ?_)
        have er9 : (kx_up sg 14 0 (upd (sg 14 0) 22 0)) 25 0 = sg 25 0 := by first | rfl | (simp only [kx_up_s]; done) | (simp [kx_up]; done)
        rw [er9] at hW
        have hW : kx_Wd G z0 ad nb (kx_up (kx_up sg 14 0 (upd (sg 14 0) 22 0)) 25 0 (upd (sg 25 0) d y)) H := hW
        refine lv_iload hx hb dX4_setDoor_55 (lv_at hl 0 rfl) ?_
        exact kx_ri F hr hlocks hW hS (by first | exact Nat.le_of_ble_eq_true rfl | omega) (by first | exact Nat.le_of_ble_eq_true rfl | omega) (Or.inr (Or.inr (Or.inr ⟨d, hd, rfl, hB9, c_24, rfl, rfl⟩))) dX4_setDoor_57
      · refine lv_iconst (v := 0) hx hb dX4_setDoor_38 (by decide) ?_
        exact kx_ri F hr hlocks hW hS (by first | exact Nat.le_of_ble_eq_true rfl | omega) (by first | exact Nat.le_of_ble_eq_true rfl | omega) (by rcases Bool.eq_false_or_eq_true (tw_in y 1 3) with hR | hR; exact absurd (tw_a3_s0 (tw_b_1 c_14) hR) (tw_dec0 c_35); exact Or.inr (Or.inl ⟨d, hd, rfl, hR, rfl, tm_Q_th (tw_a3_s2 (tw_b_1 c_14) hR)⟩)) dX4_setDoor_39

set_option maxHeartbeats 4000000 in
set_option maxRecDepth 100000 in
theorem c_X4_keep (l : Launch) (G : kx_G) (z0 : Nat) (ad : kx_A) (nb : Nat) (sg : kx_S) (mb : Nat) (hwf : tm_WF mb sg) (x y : Int32) : kx_M l yX4_keep wsX4_keep 2 43 0 0 G z0 ad nb sg [.ref (ad 14 0), .int x, .int y] (fun r sg' => (((∀ d, d < 10 → ¬ x = nI d) ∨ (∀ k, k < mb → ¬ y = nI k)) ∧ r = some (.int 0) ∧ tm_Q sg sg' 1) ∨ (∃ d k : Nat, d < 10 ∧ x = nI d ∧ k < mb ∧ y = nI k ∧ (¬ sg 26 0 d = -1 ∨ ¬ sg 29 0 d = 0 ∨ ¬ sg 15 0 k ≤ sg 25 0 d) ∧ r = some (.int 0) ∧ tm_Q sg sg' 2) ∨ (∃ d k : Nat, d < 10 ∧ x = nI d ∧ k < mb ∧ y = nI k ∧ sg 26 0 d = -1 ∧ sg 29 0 d = 0 ∧ sg 15 0 k ≤ sg 25 0 d ∧ r = some (.int (tw_code (nI k) (nI d) (sg 14 0 17))) ∧ sg' = kx_up (kx_up (kx_up (kx_up (kx_up sg 14 0 (upd (sg 14 0) 22 0)) 26 0 (upd (sg 26 0) d (nI k))) 27 0 (upd (sg 27 0) d (tw_code (nI k) (nI d) (sg 14 0 17)))) 28 0 (upd (sg 28 0) d 0)) 14 0 (upd (upd (sg 14 0) 22 0) 17 (sg 14 0 17 + 1)))) := by
  refine Met.ofW (cc := cX4_keep) (maxL := 4) (ret := (some .int)) (by decide) rfl ?_
  intro p e s m args below meth c s₁ B hml hv
  obtain ⟨rfl, hW, hV⟩ := hv
  have hts := atoms_spec (ws := wsX4_keep) B.pre
  have F : kx_F p s m c cX4_keep 4 RX4 _ wsX4_keep G z0 := ⟨B.exec, B.bytes, hml, findClass_of_methodNamed B.named, hts, hV⟩
  have hx := B.exec; have hb := B.bytes; have hr := B.returns; have hlocks := B.notSynchronized
  have hS : va_S (kx_Ad z0) s.heap s.heap [] := va_S.rf
  have hmb16 := hwf.2.1
  have L_128 : Cond.fieldLink RX4 128 (TX4 17).1 (TX4 17).2.1 (TX4 17).2.2.1 ∈ wsX4_keep := by decide +kernel
  have L_41 : Cond.fieldLink RX4 41 (TX4 12).1 (TX4 12).2.1 (TX4 12).2.2.1 ∈ wsX4_keep := by decide +kernel
  have L_44 : Cond.fieldLink RX4 44 (TX4 13).1 (TX4 13).2.1 (TX4 13).2.2.1 ∈ wsX4_keep := by decide +kernel
  have L_47 : Cond.fieldLink RX4 47 (TX4 14).1 (TX4 14).2.1 (TX4 14).2.2.1 ∈ wsX4_keep := by decide +kernel
  have L_50 : Cond.fieldLink RX4 50 (TX4 15).1 (TX4 15).2.1 (TX4 15).2.2.1 ∈ wsX4_keep := by decide +kernel
  have L_53 : Cond.fieldLink RX4 53 (TX4 16).1 (TX4 16).2.1 (TX4 16).2.2.1 ∈ wsX4_keep := by decide +kernel
  have L_7 : Cond.fieldLink RX4 7 (TX4 1).1 (TX4 1).2.1 (TX4 1).2.2.1 ∈ wsX4_keep := by decide +kernel
  have inX4 : ∀ w ∈ u_ws RX4 TX4 23, w ∈ wsX4_keep := by decide +kernel
  have hl := lv_entry ([.ref (ad 14 0), .int x, .int y]) (n := 4) (Nat.le_of_ble_eq_true rfl)
  rw [lg_entry_eq]
  generalize (lg_sl ([.ref (ad 14 0), .int x, .int y]) ++ List.replicate (4 - (lg_sl ([.ref (ad 14 0), .int x, .int y])).length) Slot.unset).toArray = ls at hl ⊢
  have hl : lv_has ls 4 [(0, .ref (ad 14 0)), (1, .int x), (2, .int y)] := hl
  refine lv_iload_n hx hb dX4_keep_0 rfl (lv_at hl 1 rfl) ?_
  refine kx_cS (na := 1) F (c_X4_isDoor l G z0 ad nb sg x) gX4_keep_X4_isDoor rfl (by decide +kernel) ⟨Nat.le_of_ble_eq_true rfl, Nat.le_of_ble_eq_true rfl⟩ hW hS (As := [.int x]) (rest := []) rfl hl.1 rfl (Nat.le_of_ble_eq_true rfl) dX4_keep_1 ⟨by first | exact Nat.le_of_ble_eq_true rfl | omega, by first | exact Nat.le_of_ble_eq_true rfl | omega⟩ (fun r9 sg9 H locs hq hW hS => ?_)
  obtain ⟨rfl, e9⟩ := hq
  rw [e9] at hW
  refine W.eq (g2 := F0 m 4 ls [.int (tw_b (tw_in x 0 9))]) rfl ?_
  refine lv_if_eq (tgt := 19) hx hb dX4_keep_4 (by decide) (fun c_4 => ?_) (fun c_4 => ?_)
  · refine lv_iconst (v := 0) hx hb dX4_keep_19 (by decide) ?_
    refine lv_istore_n (lv' := [(3, .int 0), (0, .ref (ad 14 0)), (1, .int x), (2, .int y)]) hx hb dX4_keep_20 rfl hl (by decide) rfl (fun ls hl => ?_)
    refine lv_aload_n hx hb dX4_keep_21 rfl (lv_at hl 1 rfl) ?_
    refine lv_iload_n hx hb dX4_keep_22 rfl (lv_at hl 0 rfl) ?_
    refine lv_iload_n hx hb dX4_keep_23 rfl (lv_at hl 0 rfl) ?_
    refine lv_if_eq (tgt := 65) hx hb dX4_keep_24 (by decide) (fun c_24 => ?_) (fun c_24 => ?_)
    · refine lv_iconst (v := 0) hx hb dX4_keep_65 (by decide) ?_
      refine kx_cV (na := 2) F (q := 14) (n := 0) (c_X4_asked_ l G z0 ad nb sg 0 0) gX4_keep_X4_asked_ rfl (by decide +kernel) ⟨Nat.le_of_ble_eq_true rfl, Nat.le_of_ble_eq_true rfl⟩ hW hS ⟨by decide, rfl⟩ rfl rfl (As := [.int 0, .int 0]) (rest := []) rfl hl.1 rfl (Nat.le_of_ble_eq_true rfl) dX4_keep_66 ⟨by first | exact Nat.le_of_ble_eq_true rfl | omega, by first | exact Nat.le_of_ble_eq_true rfl | omega⟩ (fun r9 sg9 H locs hq hW hS => ?_)
      obtain ⟨rfl, e9⟩ := hq
      rw [e9] at hW
      have hW : kx_Wd G z0 ad nb (kx_up sg 14 0 (upd (sg 14 0) 22 (tw_a2 0 0))) H := by first | exact hW | (simp only [kx_up_s, kx_up_up] at hW; exact hW) | (simp only [kx_up_s, kx_up_up, upd_s] at hW; exact hW)
      refine W.eq (g2 := F0 m 69 ls [.int (tw_b (decide (tw_a2 0 0 = 0)))]) rfl ?_
      refine lv_if_ne (tgt := 74) hx hb dX4_keep_69 (by decide) (fun c_69 => ?_) (fun c_69 => ?_)
      · exact absurd c_69 (by decide)
      · refine lv_iconst (v := 0) hx hb dX4_keep_72 (by decide) ?_
        exact kx_ri F hr hlocks hW hS (by first | exact Nat.le_of_ble_eq_true rfl | omega) (by first | exact Nat.le_of_ble_eq_true rfl | omega) (Or.inl ⟨Or.inl (tw_nodoor (tw_b_0 c_4)), rfl, tm_Q_th (if_pos rfl)⟩) dX4_keep_73
    · exact absurd rfl c_24
  · obtain ⟨d, hd, rfl⟩ := tw_isdoor (tw_b_1 c_4)
    refine lv_aload_n hx hb dX4_keep_7 rfl (lv_at hl 0 rfl) ?_
    refine lv_iload_n hx hb dX4_keep_8 rfl (lv_at hl 2 rfl) ?_
    refine kx_cV (na := 1) F (q := 14) (n := 0) (c_X4_isBox l G z0 ad nb sg y) gX4_keep_X4_isBox rfl (by decide +kernel) ⟨Nat.le_of_ble_eq_true rfl, Nat.le_of_ble_eq_true rfl⟩ hW hS ⟨by decide, rfl⟩ rfl rfl (As := [.int y]) (rest := []) rfl hl.1 rfl (Nat.le_of_ble_eq_true rfl) dX4_keep_9 ⟨by first | exact Nat.le_of_ble_eq_true rfl | omega, by first | exact Nat.le_of_ble_eq_true rfl | omega⟩ (fun r9 sg9 H locs hq hW hS => ?_)
    obtain ⟨rfl, e9⟩ := hq
    rw [e9] at hW
    refine W.eq (g2 := F0 m 12 ls [.int (tw_b (tw_in y 0 (sg 14 0 7 - 1)))]) rfl ?_
    refine lv_if_eq (tgt := 19) hx hb dX4_keep_12 (by decide) (fun c_12 => ?_) (fun c_12 => ?_)
    · refine lv_iconst (v := 0) hx hb dX4_keep_19 (by decide) ?_
      refine lv_istore_n (lv' := [(3, .int 0), (0, .ref (ad 14 0)), (1, .int (nI d)), (2, .int y)]) hx hb dX4_keep_20 rfl hl (by decide) rfl (fun ls hl => ?_)
      refine lv_aload_n hx hb dX4_keep_21 rfl (lv_at hl 1 rfl) ?_
      refine lv_iload_n hx hb dX4_keep_22 rfl (lv_at hl 0 rfl) ?_
      refine lv_iload_n hx hb dX4_keep_23 rfl (lv_at hl 0 rfl) ?_
      refine lv_if_eq (tgt := 65) hx hb dX4_keep_24 (by decide) (fun c_24 => ?_) (fun c_24 => ?_)
      · refine lv_iconst (v := 0) hx hb dX4_keep_65 (by decide) ?_
        refine kx_cV (na := 2) F (q := 14) (n := 0) (c_X4_asked_ l G z0 ad nb sg 0 0) gX4_keep_X4_asked_ rfl (by decide +kernel) ⟨Nat.le_of_ble_eq_true rfl, Nat.le_of_ble_eq_true rfl⟩ hW hS ⟨by decide, rfl⟩ rfl rfl (As := [.int 0, .int 0]) (rest := []) rfl hl.1 rfl (Nat.le_of_ble_eq_true rfl) dX4_keep_66 ⟨by first | exact Nat.le_of_ble_eq_true rfl | omega, by first | exact Nat.le_of_ble_eq_true rfl | omega⟩ (fun r9 sg9 H locs hq hW hS => ?_)
        obtain ⟨rfl, e9⟩ := hq
        rw [e9] at hW
        have hW : kx_Wd G z0 ad nb (kx_up sg 14 0 (upd (sg 14 0) 22 (tw_a2 0 0))) H := by first | exact hW | (simp only [kx_up_s, kx_up_up] at hW; exact hW) | (simp only [kx_up_s, kx_up_up, upd_s] at hW; exact hW)
        refine W.eq (g2 := F0 m 69 ls [.int (tw_b (decide (tw_a2 0 0 = 0)))]) rfl ?_
        refine lv_if_ne (tgt := 74) hx hb dX4_keep_69 (by decide) (fun c_69 => ?_) (fun c_69 => ?_)
        · exact absurd c_69 (by decide)
        · refine lv_iconst (v := 0) hx hb dX4_keep_72 (by decide) ?_
          exact kx_ri F hr hlocks hW hS (by first | exact Nat.le_of_ble_eq_true rfl | omega) (by first | exact Nat.le_of_ble_eq_true rfl | omega) (Or.inl ⟨Or.inr (tw_nobox hwf (tw_b_0 c_12)), rfl, tm_Q_th (if_pos rfl)⟩) dX4_keep_73
      · exact absurd rfl c_24
    · obtain ⟨k, hk, rfl⟩ := tw_isbox hwf (tw_b_1 c_12)
      refine lv_iconst (v := 1) hx hb dX4_keep_15 (by decide) ?_
      refine lv_goto (tgt := 20) hx hb dX4_keep_16 (by decide) ?_
      refine lv_istore_n (lv' := [(3, .int 1), (0, .ref (ad 14 0)), (1, .int (nI d)), (2, .int (nI k))]) hx hb dX4_keep_20 rfl hl (by decide) rfl (fun ls hl => ?_)
      refine lv_aload_n hx hb dX4_keep_21 rfl (lv_at hl 1 rfl) ?_
      refine lv_iload_n hx hb dX4_keep_22 rfl (lv_at hl 0 rfl) ?_
      refine lv_iload_n hx hb dX4_keep_23 rfl (lv_at hl 0 rfl) ?_
      refine lv_if_eq (tgt := 65) hx hb dX4_keep_24 (by decide) (fun c_24 => ?_) (fun c_24 => ?_)
      · exact absurd c_24 (by decide)
      · refine lv_aload_n hx hb dX4_keep_27 rfl (lv_at hl 1 rfl) ?_
        refine kx_g F inX4 hW 14 0 ⟨by decide, rfl⟩ rfl rfl 13 (by decide) L_44 (v := .ref (ad 26 0)) rfl dX4_keep_28 ?_
        refine lv_iload_n hx hb dX4_keep_31 rfl (lv_at hl 2 rfl) ?_
        refine kx_ald F hW 26 0 ⟨by decide, rfl⟩ rfl d (by omega) (by decide) (v := sg 26 0 d) rfl dX4_keep_32 ?_
        refine lv_iconst (v := (-1)) hx hb dX4_keep_33 (by decide) ?_
        refine lv_icmp_ne (tgt := 65) hx hb dX4_keep_34 (by decide) (fun c_34 => ?_) (fun c_34 => ?_)
        · refine lv_iconst (v := 0) hx hb dX4_keep_65 (by decide) ?_
          refine kx_cV (na := 2) F (q := 14) (n := 0) (c_X4_asked_ l G z0 ad nb sg 1 0) gX4_keep_X4_asked_ rfl (by decide +kernel) ⟨Nat.le_of_ble_eq_true rfl, Nat.le_of_ble_eq_true rfl⟩ hW hS ⟨by decide, rfl⟩ rfl rfl (As := [.int 1, .int 0]) (rest := []) rfl hl.1 rfl (Nat.le_of_ble_eq_true rfl) dX4_keep_66 ⟨by first | exact Nat.le_of_ble_eq_true rfl | omega, by first | exact Nat.le_of_ble_eq_true rfl | omega⟩ (fun r9 sg9 H locs hq hW hS => ?_)
          obtain ⟨rfl, e9⟩ := hq
          rw [e9] at hW
          have hW : kx_Wd G z0 ad nb (kx_up sg 14 0 (upd (sg 14 0) 22 (tw_a2 1 0))) H := by first | exact hW | (simp only [kx_up_s, kx_up_up] at hW; exact hW) | (simp only [kx_up_s, kx_up_up, upd_s] at hW; exact hW)
          refine W.eq (g2 := F0 m 69 ls [.int (tw_b (decide (tw_a2 1 0 = 0)))]) rfl ?_
          refine lv_if_ne (tgt := 74) hx hb dX4_keep_69 (by decide) (fun c_69 => ?_) (fun c_69 => ?_)
          · exact absurd c_69 (by decide)
          · refine lv_iconst (v := 0) hx hb dX4_keep_72 (by decide) ?_
            exact kx_ri F hr hlocks hW hS (by first | exact Nat.le_of_ble_eq_true rfl | omega) (by first | exact Nat.le_of_ble_eq_true rfl | omega) (Or.inr (Or.inl ⟨d, k, hd, rfl, hk, rfl, Or.inl c_34, rfl, tm_Q_th rfl⟩)) dX4_keep_73
        · refine lv_aload_n hx hb dX4_keep_37 rfl (lv_at hl 1 rfl) ?_
          refine kx_g F inX4 hW 14 0 ⟨by decide, rfl⟩ rfl rfl 16 (by decide) L_53 (v := .ref (ad 29 0)) rfl dX4_keep_38 ?_
          refine lv_iload_n hx hb dX4_keep_41 rfl (lv_at hl 2 rfl) ?_
          refine kx_zald F hW 29 0 ⟨by decide, rfl⟩ rfl d (by omega) (by decide) (v := sg 29 0 d) rfl dX4_keep_42 ?_
          refine lv_if_ne (tgt := 65) hx hb dX4_keep_43 (by decide) (fun c_43 => ?_) (fun c_43 => ?_)
          · refine lv_iconst (v := 0) hx hb dX4_keep_65 (by decide) ?_
            refine kx_cV (na := 2) F (q := 14) (n := 0) (c_X4_asked_ l G z0 ad nb sg 1 0) gX4_keep_X4_asked_ rfl (by decide +kernel) ⟨Nat.le_of_ble_eq_true rfl, Nat.le_of_ble_eq_true rfl⟩ hW hS ⟨by decide, rfl⟩ rfl rfl (As := [.int 1, .int 0]) (rest := []) rfl hl.1 rfl (Nat.le_of_ble_eq_true rfl) dX4_keep_66 ⟨by first | exact Nat.le_of_ble_eq_true rfl | omega, by first | exact Nat.le_of_ble_eq_true rfl | omega⟩ (fun r9 sg9 H locs hq hW hS => ?_)
            obtain ⟨rfl, e9⟩ := hq
            rw [e9] at hW
            have hW : kx_Wd G z0 ad nb (kx_up sg 14 0 (upd (sg 14 0) 22 (tw_a2 1 0))) H := by first | exact hW | (simp only [kx_up_s, kx_up_up] at hW; exact hW) | (simp only [kx_up_s, kx_up_up, upd_s] at hW; exact hW)
            refine W.eq (g2 := F0 m 69 ls [.int (tw_b (decide (tw_a2 1 0 = 0)))]) rfl ?_
            refine lv_if_ne (tgt := 74) hx hb dX4_keep_69 (by decide) (fun c_69 => ?_) (fun c_69 => ?_)
            · exact absurd c_69 (by decide)
            · refine lv_iconst (v := 0) hx hb dX4_keep_72 (by decide) ?_
              exact kx_ri F hr hlocks hW hS (by first | exact Nat.le_of_ble_eq_true rfl | omega) (by first | exact Nat.le_of_ble_eq_true rfl | omega) (Or.inr (Or.inl ⟨d, k, hd, rfl, hk, rfl, Or.inr (Or.inl c_43), rfl, tm_Q_th rfl⟩)) dX4_keep_73
          · refine lv_aload_n hx hb dX4_keep_46 rfl (lv_at hl 1 rfl) ?_
            refine kx_g F inX4 hW 14 0 ⟨by decide, rfl⟩ rfl rfl 12 (by decide) L_41 (v := .ref (ad 25 0)) rfl dX4_keep_47 ?_
            refine lv_iload_n hx hb dX4_keep_50 rfl (lv_at hl 2 rfl) ?_
            refine kx_ald F hW 25 0 ⟨by decide, rfl⟩ rfl d (by omega) (by decide) (v := sg 25 0 d) rfl dX4_keep_51 ?_
            refine lv_aload_n hx hb dX4_keep_52 rfl (lv_at hl 1 rfl) ?_
            refine kx_g F inX4 hW 14 0 ⟨by decide, rfl⟩ rfl rfl 1 (by decide) L_7 (v := .ref (ad 15 0)) rfl dX4_keep_53 ?_
            refine lv_iload_n hx hb dX4_keep_56 rfl (lv_at hl 3 rfl) ?_
            refine kx_ald F hW 15 0 ⟨by decide, rfl⟩ rfl k (by omega) (by decide) (v := sg 15 0 k) rfl dX4_keep_57 ?_
            refine lv_icmp_lt (tgt := 65) hx hb dX4_keep_58 (by decide) (fun c_58 => ?_) (fun c_58 => ?_)
            · refine lv_iconst (v := 0) hx hb dX4_keep_65 (by decide) ?_
              refine kx_cV (na := 2) F (q := 14) (n := 0) (c_X4_asked_ l G z0 ad nb sg 1 0) gX4_keep_X4_asked_ rfl (by decide +kernel) ⟨Nat.le_of_ble_eq_true rfl, Nat.le_of_ble_eq_true rfl⟩ hW hS ⟨by decide, rfl⟩ rfl rfl (As := [.int 1, .int 0]) (rest := []) rfl hl.1 rfl (Nat.le_of_ble_eq_true rfl) dX4_keep_66 ⟨by first | exact Nat.le_of_ble_eq_true rfl | omega, by first | exact Nat.le_of_ble_eq_true rfl | omega⟩ (fun r9 sg9 H locs hq hW hS => ?_)
              obtain ⟨rfl, e9⟩ := hq
              rw [e9] at hW
              have hW : kx_Wd G z0 ad nb (kx_up sg 14 0 (upd (sg 14 0) 22 (tw_a2 1 0))) H := by first | exact hW | (simp only [kx_up_s, kx_up_up] at hW; exact hW) | (simp only [kx_up_s, kx_up_up, upd_s] at hW; exact hW)
              refine W.eq (g2 := F0 m 69 ls [.int (tw_b (decide (tw_a2 1 0 = 0)))]) rfl ?_
              refine lv_if_ne (tgt := 74) hx hb dX4_keep_69 (by decide) (fun c_69 => ?_) (fun c_69 => ?_)
              · exact absurd c_69 (by decide)
              · refine lv_iconst (v := 0) hx hb dX4_keep_72 (by decide) ?_
                exact kx_ri F hr hlocks hW hS (by first | exact Nat.le_of_ble_eq_true rfl | omega) (by first | exact Nat.le_of_ble_eq_true rfl | omega) (Or.inr (Or.inl ⟨d, k, hd, rfl, hk, rfl, Or.inr (Or.inr (tw_ge2 c_58)), rfl, tm_Q_th rfl⟩)) dX4_keep_73
            · refine lv_iconst (v := 1) hx hb dX4_keep_61 (by decide) ?_
              refine lv_goto (tgt := 66) hx hb dX4_keep_62 (by decide) ?_
              refine kx_cV (na := 2) F (q := 14) (n := 0) (c_X4_asked_ l G z0 ad nb sg 1 1) gX4_keep_X4_asked_ rfl (by decide +kernel) ⟨Nat.le_of_ble_eq_true rfl, Nat.le_of_ble_eq_true rfl⟩ hW hS ⟨by decide, rfl⟩ rfl rfl (As := [.int 1, .int 1]) (rest := []) rfl hl.1 rfl (Nat.le_of_ble_eq_true rfl) dX4_keep_66 ⟨by first | exact Nat.le_of_ble_eq_true rfl | omega, by first | exact Nat.le_of_ble_eq_true rfl | omega⟩ (fun r9 sg9 H locs hq hW hS => ?_)
              obtain ⟨rfl, e9⟩ := hq
              rw [e9] at hW
              have hW : kx_Wd G z0 ad nb (kx_up sg 14 0 (upd (sg 14 0) 22 (tw_a2 1 1))) H := by first | exact hW | (simp only [kx_up_s, kx_up_up] at hW; exact hW) | (simp only [kx_up_s, kx_up_up, upd_s] at hW; exact hW)
              refine W.eq (g2 := F0 m 69 ls [.int (tw_b (decide (tw_a2 1 1 = 0)))]) rfl ?_
              refine lv_if_ne (tgt := 74) hx hb dX4_keep_69 (by decide) (fun c_69 => ?_) (fun c_69 => ?_)
              · have hT9 : tw_a2 1 1 = 0 := by decide
                rw [hT9] at hW
                refine lv_aload_n hx hb dX4_keep_74 rfl (lv_at hl 1 rfl) ?_
                refine kx_g F inX4 hW 14 0 ⟨by decide, rfl⟩ rfl rfl 13 (by decide) L_44 (v := .ref (ad 26 0)) rfl dX4_keep_75 ?_
                refine lv_iload_n hx hb dX4_keep_78 rfl (lv_at hl 2 rfl) ?_
                refine lv_iload_n hx hb dX4_keep_79 rfl (lv_at hl 3 rfl) ?_
                refine kx_ast F hW hS 26 0 ⟨by decide, rfl⟩ rfl d (by omega) (by decide) (x := (nI k)) rfl dX4_keep_80 (fun H locs hW hS => ?_)
                have er9 : (kx_up sg 14 0 (upd (sg 14 0) 22 0)) 26 0 = sg 26 0 := by first | rfl | (simp only [kx_up_s]; done) | (simp [kx_up]; done)
                rw [er9] at hW
                have hW : kx_Wd G z0 ad nb (kx_up (kx_up sg 14 0 (upd (sg 14 0) 22 0)) 26 0 (upd (sg 26 0) d (nI k))) H := hW
                refine lv_aload_n hx hb dX4_keep_81 rfl (lv_at hl 1 rfl) ?_
                refine kx_g F inX4 hW 14 0 ⟨by decide, rfl⟩ rfl rfl 14 (by decide) L_47 (v := .ref (ad 27 0)) rfl dX4_keep_82 ?_
                refine lv_iload_n hx hb dX4_keep_85 rfl (lv_at hl 2 rfl) ?_
                refine lv_bipush (v := 37) hx hb dX4_keep_86 (by decide) ?_
                refine lv_iload_n hx hb dX4_keep_88 rfl (lv_at hl 3 rfl) ?_
                refine lv_imul hx hb dX4_keep_89 ?_
                refine lv_bipush (v := 11) hx hb dX4_keep_90 (by decide) ?_
                refine lv_iload_n hx hb dX4_keep_92 rfl (lv_at hl 2 rfl) ?_
                refine lv_imul hx hb dX4_keep_93 ?_
                refine lv_iadd hx hb dX4_keep_94 ?_
                refine lv_bipush (v := 101) hx hb dX4_keep_95 (by decide) ?_
                refine lv_aload_n hx hb dX4_keep_97 rfl (lv_at hl 1 rfl) ?_
                refine kx_g F inX4 hW 14 0 ⟨by decide, rfl⟩ rfl rfl 17 (by decide) L_128 (v := .int (sg 14 0 17)) (by first | rfl | (simp only [kx_up_s]; done) | (simp only [kx_up_s, upd_s]; done) | (simp only [kx_up_s]; rfl) | (simp [kx_up, upd]; done)) dX4_keep_98 ?_
                refine lv_imul hx hb dX4_keep_101 ?_
                refine lv_iadd hx hb dX4_keep_102 ?_
                refine lv_sipush (v := 1000) hx hb dX4_keep_103 (by decide) ?_
                refine lv_irem hx hb dX4_keep_106 (by decide) ?_
                refine kx_ast F hW hS 27 0 ⟨by decide, rfl⟩ rfl d (by omega) (by decide) (x := ((((37 * (nI k)) + (11 * (nI d))) + (101 * (sg 14 0 17))) - (((37 * (nI k)) + (11 * (nI d))) + (101 * (sg 14 0 17))) / 1000 * 1000)) rfl dX4_keep_107 (fun H locs hW hS => ?_)
                have er9 : (kx_up (kx_up sg 14 0 (upd (sg 14 0) 22 0)) 26 0 (upd (sg 26 0) d (nI k))) 27 0 = sg 27 0 := by first | rfl | (simp only [kx_up_s]; done) | (simp [kx_up]; done)
                rw [er9] at hW
                have hW : kx_Wd G z0 ad nb (kx_up (kx_up (kx_up sg 14 0 (upd (sg 14 0) 22 0)) 26 0 (upd (sg 26 0) d (nI k))) 27 0 (upd (sg 27 0) d ((((37 * (nI k)) + (11 * (nI d))) + (101 * (sg 14 0 17))) - (((37 * (nI k)) + (11 * (nI d))) + (101 * (sg 14 0 17))) / 1000 * 1000))) H := hW
                refine lv_aload_n hx hb dX4_keep_108 rfl (lv_at hl 1 rfl) ?_
                refine kx_g F inX4 hW 14 0 ⟨by decide, rfl⟩ rfl rfl 15 (by decide) L_50 (v := .ref (ad 28 0)) rfl dX4_keep_109 ?_
                refine lv_iload_n hx hb dX4_keep_112 rfl (lv_at hl 2 rfl) ?_
                refine lv_iconst (v := 0) hx hb dX4_keep_113 (by decide) ?_
                refine kx_ast F hW hS 28 0 ⟨by decide, rfl⟩ rfl d (by omega) (by decide) (x := 0) rfl dX4_keep_114 (fun H locs hW hS => ?_)
                have er9 : (kx_up (kx_up (kx_up sg 14 0 (upd (sg 14 0) 22 0)) 26 0 (upd (sg 26 0) d (nI k))) 27 0 (upd (sg 27 0) d ((((37 * (nI k)) + (11 * (nI d))) + (101 * (sg 14 0 17))) - (((37 * (nI k)) + (11 * (nI d))) + (101 * (sg 14 0 17))) / 1000 * 1000))) 28 0 = sg 28 0 := by first | rfl | (simp only [kx_up_s]; done) | (simp [kx_up]; done)
                rw [er9] at hW
                have hW : kx_Wd G z0 ad nb (kx_up (kx_up (kx_up (kx_up sg 14 0 (upd (sg 14 0) 22 0)) 26 0 (upd (sg 26 0) d (nI k))) 27 0 (upd (sg 27 0) d ((((37 * (nI k)) + (11 * (nI d))) + (101 * (sg 14 0 17))) - (((37 * (nI k)) + (11 * (nI d))) + (101 * (sg 14 0 17))) / 1000 * 1000))) 28 0 (upd (sg 28 0) d 0)) H := hW
                refine lv_aload_n hx hb dX4_keep_115 rfl (lv_at hl 1 rfl) ?_
                refine lv_dup hx hb dX4_keep_116 rfl ?_
                refine kx_g F inX4 hW 14 0 ⟨by decide, rfl⟩ rfl rfl 17 (by decide) L_128 (v := .int (sg 14 0 17)) (by first | rfl | (simp only [kx_up_s]; done) | (simp only [kx_up_s, upd_s]; done) | (simp only [kx_up_s]; rfl) | (simp [kx_up, upd]; done)) dX4_keep_117 ?_
                refine lv_iconst (v := 1) hx hb dX4_keep_120 (by decide) ?_
                refine lv_iadd hx hb dX4_keep_121 ?_
                refine kx_p F inX4 tyX4 tyX4_ok nmX4 hW hS 14 0 ⟨by decide, rfl⟩ rfl rfl 17 (by decide) L_128 rfl (v := .int ((sg 14 0 17) + 1)) rfl rfl (Nat.le_of_ble_eq_true rfl) (upd ((kx_up (kx_up (kx_up (kx_up sg 14 0 (upd (sg 14 0) 22 0)) 26 0 (upd (sg 26 0) d (nI k))) 27 0 (upd (sg 27 0) d ((((37 * (nI k)) + (11 * (nI d))) + (101 * (sg 14 0 17))) - (((37 * (nI k)) + (11 * (nI d))) + (101 * (sg 14 0 17))) / 1000 * 1000))) 28 0 (upd (sg 28 0) d 0)) 14 0) 17 ((sg 14 0 17) + 1)) rfl dX4_keep_122 (fun H locs hW hS => ?_)
                have er9 : (kx_up (kx_up (kx_up (kx_up sg 14 0 (upd (sg 14 0) 22 0)) 26 0 (upd (sg 26 0) d (nI k))) 27 0 (upd (sg 27 0) d ((((37 * (nI k)) + (11 * (nI d))) + (101 * (sg 14 0 17))) - (((37 * (nI k)) + (11 * (nI d))) + (101 * (sg 14 0 17))) / 1000 * 1000))) 28 0 (upd (sg 28 0) d 0)) 14 0 = upd (sg 14 0) 22 0 := by first | rfl | (simp only [kx_up_s]; done) | (simp [kx_up]; done)
                rw [er9] at hW
                have hW : kx_Wd G z0 ad nb (kx_up (kx_up (kx_up (kx_up (kx_up sg 14 0 (upd (sg 14 0) 22 0)) 26 0 (upd (sg 26 0) d (nI k))) 27 0 (upd (sg 27 0) d ((((37 * (nI k)) + (11 * (nI d))) + (101 * (sg 14 0 17))) - (((37 * (nI k)) + (11 * (nI d))) + (101 * (sg 14 0 17))) / 1000 * 1000))) 28 0 (upd (sg 28 0) d 0)) 14 0 (upd (upd (sg 14 0) 22 0) 17 ((sg 14 0 17) + 1))) H := hW
                refine lv_aload_n hx hb dX4_keep_125 rfl (lv_at hl 1 rfl) ?_
                refine kx_g F inX4 hW 14 0 ⟨by decide, rfl⟩ rfl rfl 14 (by decide) L_47 (v := .ref (ad 27 0)) rfl dX4_keep_126 ?_
                refine lv_iload_n hx hb dX4_keep_129 rfl (lv_at hl 2 rfl) ?_
                refine kx_ald F hW 27 0 ⟨by decide, rfl⟩ rfl d (by omega) (by decide) (v := ((((37 * (nI k)) + (11 * (nI d))) + (101 * (sg 14 0 17))) - (((37 * (nI k)) + (11 * (nI d))) + (101 * (sg 14 0 17))) / 1000 * 1000)) (by first | rfl | (simp only [kx_up_s]; done) | (simp only [kx_up_s, upd_s]; done) | (simp only [kx_up_s]; rfl) | (simp [kx_up, upd]; done)) dX4_keep_130 ?_
                exact kx_ri F hr hlocks hW hS (by first | exact Nat.le_of_ble_eq_true rfl | omega) (by first | exact Nat.le_of_ble_eq_true rfl | omega) (Or.inr (Or.inr ⟨d, k, hd, rfl, hk, rfl, c_34, Classical.not_not.mp (fun h => h c_43), tw_nlt c_58, rfl, rfl⟩)) dX4_keep_131
              · exact absurd c_69 (by decide)

set_option maxHeartbeats 4000000 in
set_option maxRecDepth 100000 in
theorem c_X4_open (l : Launch) (G : kx_G) (z0 : Nat) (ad : kx_A) (nb : Nat) (sg : kx_S) (mb : Nat) (hwf : tm_WF mb sg) (hkp : ∀ d, d < 10 → sg 26 0 d = -1 ∨ ∃ b : Nat, b < mb ∧ sg 26 0 d = nI b) (x y : Int32) : kx_M l yX4_open wsX4_open 5 119 0 0 G z0 ad nb sg [.ref (ad 14 0), .int x, .int y] (fun r sg' => ((∀ d, d < 10 → ¬ x = nI d) ∧ r = some (.int 0) ∧ tm_Q sg sg' 1) ∨ (∃ d : Nat, d < 10 ∧ x = nI d ∧ tw_in y 0 999 = false ∧ r = some (.int 0) ∧ tm_Q sg sg' 2) ∨ (∃ d : Nat, d < 10 ∧ x = nI d ∧ tw_in y 0 999 = true ∧ (sg 26 0 d = -1 ∨ ¬ sg 29 0 d = 0) ∧ r = some (.int 0) ∧ tm_Q sg sg' 3) ∨ (∃ d : Nat, d < 10 ∧ x = nI d ∧ tw_in y 0 999 = true ∧ ¬ sg 26 0 d = -1 ∧ sg 29 0 d = 0 ∧ ((¬ y = sg 27 0 d ∧ r = some (.int (-1)) ∧ tm_SA mb (kx_up (kx_up (kx_up sg 14 0 (upd (sg 14 0) 22 0)) 28 0 (upd (sg 28 0) d (sg 28 0 d + 1))) 29 0 (upd (sg 29 0) d (if sg 28 0 d + 1 = 3 then (1 : Int32) else 0))) sg') ∨ (y = sg 27 0 d ∧ ∃ k : Nat, k < mb ∧ sg 26 0 d = nI k ∧ r = some (.int (nI k)) ∧ ((tm_n sg k < 12 ∧ tm_SA mb (tm_add (kx_up (kx_up sg 14 0 (upd (sg 14 0) 22 0)) 26 0 (upd (sg 26 0) d (-1))) k (tm_n sg k) 30 (nI (4 + d))) sg') ∨ (tm_n sg k = 12 ∧ sg' = kx_up (kx_up sg 14 0 (upd (sg 14 0) 22 0)) 26 0 (upd (sg 26 0) d (-1)))))))) := by
  refine Met.ofW (cc := cX4_open) (maxL := 5) (ret := (some .int)) (by decide) rfl ?_
  intro p e s m args below meth c s₁ B hml hv
  obtain ⟨rfl, hW, hV⟩ := hv
  have hts := atoms_spec (ws := wsX4_open) B.pre
  have F : kx_F p s m c cX4_open 5 RX4 _ wsX4_open G z0 := ⟨B.exec, B.bytes, hml, findClass_of_methodNamed B.named, hts, hV⟩
  have hx := B.exec; have hb := B.bytes; have hr := B.returns; have hlocks := B.notSynchronized
  have hS : va_S (kx_Ad z0) s.heap s.heap [] := va_S.rf
  have hmb16 := hwf.2.1
  have L_16 : Cond.fieldLink RX4 16 (TX4 3).1 (TX4 3).2.1 (TX4 3).2.2.1 ∈ wsX4_open := by decide +kernel
  have L_44 : Cond.fieldLink RX4 44 (TX4 13).1 (TX4 13).2.1 (TX4 13).2.2.1 ∈ wsX4_open := by decide +kernel
  have L_47 : Cond.fieldLink RX4 47 (TX4 14).1 (TX4 14).2.1 (TX4 14).2.2.1 ∈ wsX4_open := by decide +kernel
  have L_50 : Cond.fieldLink RX4 50 (TX4 15).1 (TX4 15).2.1 (TX4 15).2.2.1 ∈ wsX4_open := by decide +kernel
  have L_53 : Cond.fieldLink RX4 53 (TX4 16).1 (TX4 16).2.1 (TX4 16).2.2.1 ∈ wsX4_open := by decide +kernel
  have inX4 : ∀ w ∈ u_ws RX4 TX4 23, w ∈ wsX4_open := by decide +kernel
  have hl := lv_entry ([.ref (ad 14 0), .int x, .int y]) (n := 5) (Nat.le_of_ble_eq_true rfl)
  rw [lg_entry_eq]
  generalize (lg_sl ([.ref (ad 14 0), .int x, .int y]) ++ List.replicate (5 - (lg_sl ([.ref (ad 14 0), .int x, .int y])).length) Slot.unset).toArray = ls at hl ⊢
  have hl : lv_has ls 5 [(0, .ref (ad 14 0)), (1, .int x), (2, .int y)] := hl
  refine lv_iload_n hx hb dX4_open_0 rfl (lv_at hl 1 rfl) ?_
  refine kx_cS (na := 1) F (c_X4_isDoor l G z0 ad nb sg x) gX4_open_X4_isDoor rfl (by decide +kernel) ⟨Nat.le_of_ble_eq_true rfl, Nat.le_of_ble_eq_true rfl⟩ hW hS (As := [.int x]) (rest := []) rfl hl.1 rfl (Nat.le_of_ble_eq_true rfl) dX4_open_1 ⟨by first | exact Nat.le_of_ble_eq_true rfl | omega, by first | exact Nat.le_of_ble_eq_true rfl | omega⟩ (fun r9 sg9 H locs hq hW hS => ?_)
  obtain ⟨rfl, e9⟩ := hq
  rw [e9] at hW
  refine W.eq (g2 := F0 m 4 ls [.int (tw_b (tw_in x 0 9))]) rfl ?_
  refine lv_istore_n (lv' := [(3, .int (tw_b (tw_in x 0 9))), (0, .ref (ad 14 0)), (1, .int x), (2, .int y)]) hx hb dX4_open_4 rfl hl (by decide) rfl (fun ls hl => ?_)
  refine lv_aload_n hx hb dX4_open_5 rfl (lv_at hl 1 rfl) ?_
  refine lv_iload_n hx hb dX4_open_6 rfl (lv_at hl 0 rfl) ?_
  refine lv_iload_n hx hb dX4_open_7 rfl (lv_at hl 3 rfl) ?_
  refine lv_iconst (v := 0) hx hb dX4_open_8 (by decide) ?_
  refine lv_sipush (v := 999) hx hb dX4_open_9 (by decide) ?_
  refine kx_cS (na := 3) F (c_X4_in l G z0 ad nb sg y 0 999) gX4_open_X4_in rfl (by decide +kernel) ⟨Nat.le_of_ble_eq_true rfl, Nat.le_of_ble_eq_true rfl⟩ hW hS (As := [.int y, .int 0, .int 999]) (rest := [.int (tw_b (tw_in x 0 9)), .ref (ad 14 0)]) rfl hl.1 rfl (Nat.le_of_ble_eq_true rfl) dX4_open_12 ⟨by first | exact Nat.le_of_ble_eq_true rfl | omega, by first | exact Nat.le_of_ble_eq_true rfl | omega⟩ (fun r9 sg9 H locs hq hW hS => ?_)
  obtain ⟨rfl, e9⟩ := hq
  rw [e9] at hW
  refine W.eq (g2 := F0 m 15 ls [.int (tw_b (tw_in y 0 999)), .int (tw_b (tw_in x 0 9)), .ref (ad 14 0)]) rfl ?_
  refine lv_iload_n hx hb dX4_open_15 rfl (lv_at hl 0 rfl) ?_
  refine lv_if_eq (tgt := 42) hx hb dX4_open_16 (by decide) (fun c_16 => ?_) (fun c_16 => ?_)
  · refine lv_iconst (v := 0) hx hb dX4_open_42 (by decide) ?_
    refine kx_cV (na := 3) F (q := 14) (n := 0) (c_X4_asked__ l G z0 ad nb sg (tw_b (tw_in x 0 9)) (tw_b (tw_in y 0 999)) 0) gX4_open_X4_asked__ rfl (by decide +kernel) ⟨Nat.le_of_ble_eq_true rfl, Nat.le_of_ble_eq_true rfl⟩ hW hS ⟨by decide, rfl⟩ rfl rfl (As := [.int (tw_b (tw_in x 0 9)), .int (tw_b (tw_in y 0 999)), .int 0]) (rest := []) rfl hl.1 rfl (Nat.le_of_ble_eq_true rfl) dX4_open_43 ⟨by first | exact Nat.le_of_ble_eq_true rfl | omega, by first | exact Nat.le_of_ble_eq_true rfl | omega⟩ (fun r9 sg9 H locs hq hW hS => ?_)
    obtain ⟨rfl, e9⟩ := hq
    rw [e9] at hW
    have hW : kx_Wd G z0 ad nb (kx_up sg 14 0 (upd (sg 14 0) 22 (tw_a3 (tw_b (tw_in x 0 9)) (tw_b (tw_in y 0 999)) 0))) H := by first | exact hW | (simp only [kx_up_s, kx_up_up] at hW; exact hW) | (simp only [kx_up_s, kx_up_up, upd_s] at hW; exact hW)
    refine W.eq (g2 := F0 m 46 ls [.int (tw_b (decide (tw_a3 (tw_b (tw_in x 0 9)) (tw_b (tw_in y 0 999)) 0 = 0)))]) rfl ?_
    refine lv_if_ne (tgt := 51) hx hb dX4_open_46 (by decide) (fun c_46 => ?_) (fun c_46 => ?_)
    · exact absurd ((tw_a3_s1 (tw_b_0 c_16)).symm.trans (tw_dec1 c_46)) (by decide)
    · refine lv_iconst (v := 0) hx hb dX4_open_49 (by decide) ?_
      exact kx_ri F hr hlocks hW hS (by first | exact Nat.le_of_ble_eq_true rfl | omega) (by first | exact Nat.le_of_ble_eq_true rfl | omega) (Or.inl ⟨tw_nodoor (tw_b_0 c_16), rfl, tm_Q_th (tw_a3_s1 (tw_b_0 c_16))⟩) dX4_open_50
  · obtain ⟨d, hd, rfl⟩ := tw_isdoor (tw_b_1 c_16)
    refine lv_aload_n hx hb dX4_open_19 rfl (lv_at hl 1 rfl) ?_
    refine kx_g F inX4 hW 14 0 ⟨by decide, rfl⟩ rfl rfl 13 (by decide) L_44 (v := .ref (ad 26 0)) rfl dX4_open_20 ?_
    refine lv_iload_n hx hb dX4_open_23 rfl (lv_at hl 2 rfl) ?_
    refine kx_ald F hW 26 0 ⟨by decide, rfl⟩ rfl d (by omega) (by decide) (v := sg 26 0 d) rfl dX4_open_24 ?_
    refine lv_iconst (v := (-1)) hx hb dX4_open_25 (by decide) ?_
    refine lv_icmp_eq (tgt := 42) hx hb dX4_open_26 (by decide) (fun c_26 => ?_) (fun c_26 => ?_)
    · refine lv_iconst (v := 0) hx hb dX4_open_42 (by decide) ?_
      refine kx_cV (na := 3) F (q := 14) (n := 0) (c_X4_asked__ l G z0 ad nb sg (tw_b (tw_in (nI d) 0 9)) (tw_b (tw_in y 0 999)) 0) gX4_open_X4_asked__ rfl (by decide +kernel) ⟨Nat.le_of_ble_eq_true rfl, Nat.le_of_ble_eq_true rfl⟩ hW hS ⟨by decide, rfl⟩ rfl rfl (As := [.int (tw_b (tw_in (nI d) 0 9)), .int (tw_b (tw_in y 0 999)), .int 0]) (rest := []) rfl hl.1 rfl (Nat.le_of_ble_eq_true rfl) dX4_open_43 ⟨by first | exact Nat.le_of_ble_eq_true rfl | omega, by first | exact Nat.le_of_ble_eq_true rfl | omega⟩ (fun r9 sg9 H locs hq hW hS => ?_)
      obtain ⟨rfl, e9⟩ := hq
      rw [e9] at hW
      have hW : kx_Wd G z0 ad nb (kx_up sg 14 0 (upd (sg 14 0) 22 (tw_a3 (tw_b (tw_in (nI d) 0 9)) (tw_b (tw_in y 0 999)) 0))) H := by first | exact hW | (simp only [kx_up_s, kx_up_up] at hW; exact hW) | (simp only [kx_up_s, kx_up_up, upd_s] at hW; exact hW)
      refine W.eq (g2 := F0 m 46 ls [.int (tw_b (decide (tw_a3 (tw_b (tw_in (nI d) 0 9)) (tw_b (tw_in y 0 999)) 0 = 0)))]) rfl ?_
      refine lv_if_ne (tgt := 51) hx hb dX4_open_46 (by decide) (fun c_46 => ?_) (fun c_46 => ?_)
      · exact absurd rfl (tm_a3_B0 (tw_dec1 c_46)).2.2
      · refine lv_iconst (v := 0) hx hb dX4_open_49 (by decide) ?_
        exact kx_ri F hr hlocks hW hS (by first | exact Nat.le_of_ble_eq_true rfl | omega) (by first | exact Nat.le_of_ble_eq_true rfl | omega) (by rcases Bool.eq_false_or_eq_true (tw_in y 0 999) with hR | hR; exact Or.inr (Or.inr (Or.inl ⟨d, hd, rfl, hR, Or.inl c_26, rfl, tm_Q_th (tw_a3_s3 (tw_b_1 c_16) hR)⟩)); exact Or.inr (Or.inl ⟨d, hd, rfl, hR, rfl, tm_Q_th (tw_a3_s2 (tw_b_1 c_16) hR)⟩)) dX4_open_50
    · refine lv_aload_n hx hb dX4_open_29 rfl (lv_at hl 1 rfl) ?_
      refine kx_g F inX4 hW 14 0 ⟨by decide, rfl⟩ rfl rfl 16 (by decide) L_53 (v := .ref (ad 29 0)) rfl dX4_open_30 ?_
      refine lv_iload_n hx hb dX4_open_33 rfl (lv_at hl 2 rfl) ?_
      refine kx_zald F hW 29 0 ⟨by decide, rfl⟩ rfl d (by omega) (by decide) (v := sg 29 0 d) rfl dX4_open_34 ?_
      refine lv_if_ne (tgt := 42) hx hb dX4_open_35 (by decide) (fun c_35 => ?_) (fun c_35 => ?_)
      · refine lv_iconst (v := 0) hx hb dX4_open_42 (by decide) ?_
        refine kx_cV (na := 3) F (q := 14) (n := 0) (c_X4_asked__ l G z0 ad nb sg (tw_b (tw_in (nI d) 0 9)) (tw_b (tw_in y 0 999)) 0) gX4_open_X4_asked__ rfl (by decide +kernel) ⟨Nat.le_of_ble_eq_true rfl, Nat.le_of_ble_eq_true rfl⟩ hW hS ⟨by decide, rfl⟩ rfl rfl (As := [.int (tw_b (tw_in (nI d) 0 9)), .int (tw_b (tw_in y 0 999)), .int 0]) (rest := []) rfl hl.1 rfl (Nat.le_of_ble_eq_true rfl) dX4_open_43 ⟨by first | exact Nat.le_of_ble_eq_true rfl | omega, by first | exact Nat.le_of_ble_eq_true rfl | omega⟩ (fun r9 sg9 H locs hq hW hS => ?_)
        obtain ⟨rfl, e9⟩ := hq
        rw [e9] at hW
        have hW : kx_Wd G z0 ad nb (kx_up sg 14 0 (upd (sg 14 0) 22 (tw_a3 (tw_b (tw_in (nI d) 0 9)) (tw_b (tw_in y 0 999)) 0))) H := by first | exact hW | (simp only [kx_up_s, kx_up_up] at hW; exact hW) | (simp only [kx_up_s, kx_up_up, upd_s] at hW; exact hW)
        refine W.eq (g2 := F0 m 46 ls [.int (tw_b (decide (tw_a3 (tw_b (tw_in (nI d) 0 9)) (tw_b (tw_in y 0 999)) 0 = 0)))]) rfl ?_
        refine lv_if_ne (tgt := 51) hx hb dX4_open_46 (by decide) (fun c_46 => ?_) (fun c_46 => ?_)
        · exact absurd rfl (tm_a3_B0 (tw_dec1 c_46)).2.2
        · refine lv_iconst (v := 0) hx hb dX4_open_49 (by decide) ?_
          exact kx_ri F hr hlocks hW hS (by first | exact Nat.le_of_ble_eq_true rfl | omega) (by first | exact Nat.le_of_ble_eq_true rfl | omega) (by rcases Bool.eq_false_or_eq_true (tw_in y 0 999) with hR | hR; exact Or.inr (Or.inr (Or.inl ⟨d, hd, rfl, hR, Or.inr c_35, rfl, tm_Q_th (tw_a3_s3 (tw_b_1 c_16) hR)⟩)); exact Or.inr (Or.inl ⟨d, hd, rfl, hR, rfl, tm_Q_th (tw_a3_s2 (tw_b_1 c_16) hR)⟩)) dX4_open_50
      · refine lv_iconst (v := 1) hx hb dX4_open_38 (by decide) ?_
        refine lv_goto (tgt := 43) hx hb dX4_open_39 (by decide) ?_
        refine kx_cV (na := 3) F (q := 14) (n := 0) (c_X4_asked__ l G z0 ad nb sg (tw_b (tw_in (nI d) 0 9)) (tw_b (tw_in y 0 999)) 1) gX4_open_X4_asked__ rfl (by decide +kernel) ⟨Nat.le_of_ble_eq_true rfl, Nat.le_of_ble_eq_true rfl⟩ hW hS ⟨by decide, rfl⟩ rfl rfl (As := [.int (tw_b (tw_in (nI d) 0 9)), .int (tw_b (tw_in y 0 999)), .int 1]) (rest := []) rfl hl.1 rfl (Nat.le_of_ble_eq_true rfl) dX4_open_43 ⟨by first | exact Nat.le_of_ble_eq_true rfl | omega, by first | exact Nat.le_of_ble_eq_true rfl | omega⟩ (fun r9 sg9 H locs hq hW hS => ?_)
        obtain ⟨rfl, e9⟩ := hq
        rw [e9] at hW
        have hW : kx_Wd G z0 ad nb (kx_up sg 14 0 (upd (sg 14 0) 22 (tw_a3 (tw_b (tw_in (nI d) 0 9)) (tw_b (tw_in y 0 999)) 1))) H := by first | exact hW | (simp only [kx_up_s, kx_up_up] at hW; exact hW) | (simp only [kx_up_s, kx_up_up, upd_s] at hW; exact hW)
        refine W.eq (g2 := F0 m 46 ls [.int (tw_b (decide (tw_a3 (tw_b (tw_in (nI d) 0 9)) (tw_b (tw_in y 0 999)) 1 = 0)))]) rfl ?_
        refine lv_if_ne (tgt := 51) hx hb dX4_open_46 (by decide) (fun c_46 => ?_) (fun c_46 => ?_)
        · have hT9 : tw_a3 (tw_b (tw_in (nI d) 0 9)) (tw_b (tw_in y 0 999)) 1 = 0 := tw_dec1 c_46
          obtain ⟨hA9, hB9, -⟩ := tm_a3_B0 hT9
          rw [hT9] at hW
          refine lv_iload_n hx hb dX4_open_51 rfl (lv_at hl 3 rfl) ?_
          refine lv_aload_n hx hb dX4_open_52 rfl (lv_at hl 1 rfl) ?_
          refine kx_g F inX4 hW 14 0 ⟨by decide, rfl⟩ rfl rfl 14 (by decide) L_47 (v := .ref (ad 27 0)) rfl dX4_open_53 ?_
          refine lv_iload_n hx hb dX4_open_56 rfl (lv_at hl 2 rfl) ?_
          refine kx_ald F hW 27 0 ⟨by decide, rfl⟩ rfl d (by omega) (by decide) (v := sg 27 0 d) (by first | rfl | (simp only [kx_up_s]; done) | (simp only [kx_up_s, upd_s]; done) | (simp only [kx_up_s]; rfl) | (simp [kx_up, upd]; done)) dX4_open_57 ?_
          refine lv_icmp_eq (tgt := 98) hx hb dX4_open_58 (by decide) (fun c_58 => ?_) (fun c_58 => ?_)
          · obtain ⟨k, hk, hkd⟩ := (hkp d hd).resolve_left c_26
            obtain ⟨n9, hn9, h129, hwho9⟩ := hwf.2.2.1 k hk
            have en9 := tm_n_eq hn9 h129
            refine lv_aload_n hx hb dX4_open_98 rfl (lv_at hl 1 rfl) ?_
            refine kx_g F inX4 hW 14 0 ⟨by decide, rfl⟩ rfl rfl 13 (by decide) L_44 (v := .ref (ad 26 0)) rfl dX4_open_99 ?_
            refine lv_iload_n hx hb dX4_open_102 rfl (lv_at hl 2 rfl) ?_
            refine kx_ald F hW 26 0 ⟨by decide, rfl⟩ rfl d (by omega) (by decide) (v := nI k) (by simp [kx_up]; exact hkd) dX4_open_103 ?_
            refine lv_istore (lv' := [(4, .int (nI k)), (3, .int (tw_b (tw_in (nI d) 0 9))), (0, .ref (ad 14 0)), (1, .int (nI d)), (2, .int y)]) hx hb dX4_open_104 hl (by decide) rfl (fun ls hl => ?_)
            refine lv_aload_n hx hb dX4_open_106 rfl (lv_at hl 2 rfl) ?_
            refine kx_g F inX4 hW 14 0 ⟨by decide, rfl⟩ rfl rfl 13 (by decide) L_44 (v := .ref (ad 26 0)) rfl dX4_open_107 ?_
            refine lv_iload_n hx hb dX4_open_110 rfl (lv_at hl 3 rfl) ?_
            refine lv_iconst (v := (-1)) hx hb dX4_open_111 (by decide) ?_
            refine kx_ast F hW hS 26 0 ⟨by decide, rfl⟩ rfl d (by omega) (by decide) (x := (-1)) rfl dX4_open_112 (fun H locs hW hS => ?_)
            have er9 : (kx_up sg 14 0 (upd (sg 14 0) 22 0)) 26 0 = sg 26 0 := by first | rfl | (simp only [kx_up_s]; done) | (simp [kx_up]; done)
            rw [er9] at hW
            have hW : kx_Wd G z0 ad nb (kx_up (kx_up sg 14 0 (upd (sg 14 0) 22 0)) 26 0 (upd (sg 26 0) d (-1))) H := hW
            refine lv_aload_n hx hb dX4_open_113 rfl (lv_at hl 2 rfl) ?_
            refine kx_g F inX4 hW 14 0 ⟨by decide, rfl⟩ rfl rfl 3 (by decide) L_16 (v := .ref (ad 17 0)) rfl dX4_open_114 ?_
            refine lv_iload hx hb dX4_open_117 (lv_at hl 0 rfl) ?_
            refine kx_ald F hW 17 0 ⟨by decide, rfl⟩ rfl k (by omega) (by decide) (v := nI n9) hn9 dX4_open_119 ?_
            refine lv_bipush (v := 12) hx hb dX4_open_120 (by decide) ?_
            refine lv_icmp_ge (tgt := 137) hx hb dX4_open_122 (by decide) (fun c_122 => ?_) (fun c_122 => ?_)
            · refine lv_iload hx hb dX4_open_137 (lv_at hl 0 rfl) ?_
              exact kx_ri F hr hlocks hW hS (by first | exact Nat.le_of_ble_eq_true rfl | omega) (by first | exact Nat.le_of_ble_eq_true rfl | omega) (Or.inr (Or.inr (Or.inr ⟨d, hd, rfl, hB9, c_26, Classical.not_not.mp (fun h => h c_35), Or.inr ⟨c_58, k, hk, hkd, rfl, Or.inr ⟨by rw [en9]; exact tw_ge12 h129 c_122, rfl⟩⟩⟩))) dX4_open_139
            · refine lv_aload_n hx hb dX4_open_125 rfl (lv_at hl 2 rfl) ?_
              refine lv_iload hx hb dX4_open_126 (lv_at hl 0 rfl) ?_
              refine lv_bipush (v := 30) hx hb dX4_open_128 (by decide) ?_
              refine lv_iconst (v := 4) hx hb dX4_open_130 (by decide) ?_
              refine lv_iload_n hx hb dX4_open_131 rfl (lv_at hl 3 rfl) ?_
              refine lv_iadd hx hb dX4_open_132 ?_
              rw [show (4 : Int32) + nI d = nI (4 + d) from nI_add 4 d]
              have hlt9 := tw_nlt12 h129 c_122
              refine kx_cV (na := 3) F (q := 14) (n := 0) (c_X4_adds l G z0 ad nb (kx_up (kx_up sg 14 0 (upd (sg 14 0) 22 0)) 26 0 (upd (sg 26 0) d (-1))) mb (tm_WF_k (tm_WF_th hwf) (by decide) (by decide) (by decide) (by decide)) k hk n9 hn9 hlt9 30 (nI (4 + d)) (Or.inr ⟨4 + d, by omega, rfl⟩)) gX4_open_X4_adds rfl (by decide +kernel) ⟨Nat.le_of_ble_eq_true rfl, Nat.le_of_ble_eq_true rfl⟩ hW hS ⟨by decide, rfl⟩ rfl rfl (As := [.int (nI k), .int 30, .int (nI (4 + d))]) (rest := []) rfl hl.1 rfl (Nat.le_of_ble_eq_true rfl) dX4_open_133 ⟨by first | exact Nat.le_of_ble_eq_true rfl | omega, by first | exact Nat.le_of_ble_eq_true rfl | omega⟩ (fun r9 sg9 H locs hq hW hS => ?_)
              obtain ⟨rfl, hsa9⟩ := hq
              have hW : kx_Wd G z0 ad nb (sg9) H := by first | exact hW | (simp only [kx_up_s, kx_up_up] at hW; exact hW) | (simp only [kx_up_s, kx_up_up, upd_s] at hW; exact hW)
              refine W.eq (g2 := F0 m 136 ls [.int (nI n9)]) rfl ?_
              refine lv_pop hx hb dX4_open_136 rfl ?_
              refine lv_iload hx hb dX4_open_137 (lv_at hl 0 rfl) ?_
              exact kx_ri F hr hlocks hW hS (by first | exact Nat.le_of_ble_eq_true rfl | omega) (by first | exact Nat.le_of_ble_eq_true rfl | omega) (Or.inr (Or.inr (Or.inr ⟨d, hd, rfl, hB9, c_26, Classical.not_not.mp (fun h => h c_35), Or.inr ⟨c_58, k, hk, hkd, rfl, Or.inl ⟨by rw [en9]; exact hlt9, by rw [en9]; exact hsa9⟩⟩⟩))) dX4_open_139
          · refine lv_aload_n hx hb dX4_open_61 rfl (lv_at hl 1 rfl) ?_
            refine kx_g F inX4 hW 14 0 ⟨by decide, rfl⟩ rfl rfl 15 (by decide) L_50 (v := .ref (ad 28 0)) rfl dX4_open_62 ?_
            refine lv_iload_n hx hb dX4_open_65 rfl (lv_at hl 2 rfl) ?_
            refine lv_dup2_11 hx hb dX4_open_66 rfl rfl ?_
            refine kx_ald F hW 28 0 ⟨by decide, rfl⟩ rfl d (by omega) (by decide) (v := sg 28 0 d) (by first | rfl | (simp only [kx_up_s]; done) | (simp only [kx_up_s, upd_s]; done) | (simp only [kx_up_s]; rfl) | (simp [kx_up, upd]; done)) dX4_open_67 ?_
            refine lv_iconst (v := 1) hx hb dX4_open_68 (by decide) ?_
            refine lv_iadd hx hb dX4_open_69 ?_
            refine kx_ast F hW hS 28 0 ⟨by decide, rfl⟩ rfl d (by omega) (by decide) (x := ((sg 28 0 d) + 1)) rfl dX4_open_70 (fun H locs hW hS => ?_)
            have er9 : (kx_up sg 14 0 (upd (sg 14 0) 22 0)) 28 0 = sg 28 0 := by first | rfl | (simp only [kx_up_s]; done) | (simp [kx_up]; done)
            rw [er9] at hW
            have hW : kx_Wd G z0 ad nb (kx_up (kx_up sg 14 0 (upd (sg 14 0) 22 0)) 28 0 (upd (sg 28 0) d ((sg 28 0 d) + 1))) H := hW
            refine lv_aload_n hx hb dX4_open_71 rfl (lv_at hl 1 rfl) ?_
            refine kx_g F inX4 hW 14 0 ⟨by decide, rfl⟩ rfl rfl 16 (by decide) L_53 (v := .ref (ad 29 0)) rfl dX4_open_72 ?_
            refine lv_iload_n hx hb dX4_open_75 rfl (lv_at hl 2 rfl) ?_
            refine lv_aload_n hx hb dX4_open_76 rfl (lv_at hl 1 rfl) ?_
            refine kx_g F inX4 hW 14 0 ⟨by decide, rfl⟩ rfl rfl 15 (by decide) L_50 (v := .ref (ad 28 0)) rfl dX4_open_77 ?_
            refine lv_iload_n hx hb dX4_open_80 rfl (lv_at hl 2 rfl) ?_
            refine kx_ald F hW 28 0 ⟨by decide, rfl⟩ rfl d (by omega) (by decide) (v := ((sg 28 0 d) + 1)) (by first | rfl | (simp only [kx_up_s]; done) | (simp only [kx_up_s, upd_s]; done) | (simp only [kx_up_s]; rfl) | (simp [kx_up, upd]; done)) dX4_open_81 ?_
            refine lv_iconst (v := 3) hx hb dX4_open_82 (by decide) ?_
            refine lv_icmp_ne (tgt := 90) hx hb dX4_open_83 (by decide) (fun c_83 => ?_) (fun c_83 => ?_)
            · refine lv_iconst (v := 0) hx hb dX4_open_90 (by decide) ?_
              have hj9 : (if sg 28 0 d + 1 = 3 then (1 : Int32) else 0) = 0 := if_neg c_83
              refine kx_zast F hW hS 29 0 ⟨by decide, rfl⟩ rfl d (by omega) (by decide) (x := 0) rfl rfl dX4_open_91 (fun H locs hW hS => ?_)
              have er9 : (kx_up (kx_up sg 14 0 (upd (sg 14 0) 22 0)) 28 0 (upd (sg 28 0) d ((sg 28 0 d) + 1))) 29 0 = sg 29 0 := by first | rfl | (simp only [kx_up_s]; done) | (simp [kx_up]; done)
              rw [er9] at hW
              have hW : kx_Wd G z0 ad nb (kx_up (kx_up (kx_up sg 14 0 (upd (sg 14 0) 22 0)) 28 0 (upd (sg 28 0) d ((sg 28 0 d) + 1))) 29 0 (upd (sg 29 0) d 0)) H := hW
              refine lv_aload_n hx hb dX4_open_92 rfl (lv_at hl 1 rfl) ?_
              refine kx_cV (na := 0) F (q := 14) (n := 0) (c_X4_settles l G z0 ad nb (kx_up (kx_up (kx_up sg 14 0 (upd (sg 14 0) 22 0)) 28 0 (upd (sg 28 0) d ((sg 28 0 d) + 1))) 29 0 (upd (sg 29 0) d 0)) mb (tm_WF_k (tm_WF_k (tm_WF_th hwf) (by decide) (by decide) (by decide) (by decide)) (by decide) (by decide) (by decide) (by decide))) gX4_open_X4_settles rfl (by decide +kernel) ⟨Nat.le_of_ble_eq_true rfl, Nat.le_of_ble_eq_true rfl⟩ hW hS ⟨by decide, rfl⟩ rfl rfl (As := []) (rest := []) rfl hl.1 rfl (Nat.le_of_ble_eq_true rfl) dX4_open_93 ⟨by first | exact Nat.le_of_ble_eq_true rfl | omega, by first | exact Nat.le_of_ble_eq_true rfl | omega⟩ (fun r9 sg9 H locs hq hW hS => ?_)
              obtain ⟨rfl, hsa9⟩ := hq
              have hW : kx_Wd G z0 ad nb (sg9) H := by first | exact hW | (simp only [kx_up_s, kx_up_up] at hW; exact hW) | (simp only [kx_up_s, kx_up_up, upd_s] at hW; exact hW)
              refine W.eq (g2 := F0 m 96 ls []) rfl ?_
              refine lv_iconst (v := (-1)) hx hb dX4_open_96 (by decide) ?_
              exact kx_ri F hr hlocks hW hS (by first | exact Nat.le_of_ble_eq_true rfl | omega) (by first | exact Nat.le_of_ble_eq_true rfl | omega) (Or.inr (Or.inr (Or.inr ⟨d, hd, rfl, hB9, c_26, Classical.not_not.mp (fun h => h c_35), Or.inl ⟨c_58, rfl, by rw [hj9]; exact hsa9⟩⟩))) dX4_open_97
            · refine lv_iconst (v := 1) hx hb dX4_open_86 (by decide) ?_
              refine lv_goto (tgt := 91) hx hb dX4_open_87 (by decide) ?_
              have hj9 : (if sg 28 0 d + 1 = 3 then (1 : Int32) else 0) = 1 := if_pos c_83
              refine kx_zast F hW hS 29 0 ⟨by decide, rfl⟩ rfl d (by omega) (by decide) (x := 1) rfl rfl dX4_open_91 (fun H locs hW hS => ?_)
              have er9 : (kx_up (kx_up sg 14 0 (upd (sg 14 0) 22 0)) 28 0 (upd (sg 28 0) d ((sg 28 0 d) + 1))) 29 0 = sg 29 0 := by first | rfl | (simp only [kx_up_s]; done) | (simp [kx_up]; done)
              rw [er9] at hW
              have hW : kx_Wd G z0 ad nb (kx_up (kx_up (kx_up sg 14 0 (upd (sg 14 0) 22 0)) 28 0 (upd (sg 28 0) d ((sg 28 0 d) + 1))) 29 0 (upd (sg 29 0) d 1)) H := hW
              refine lv_aload_n hx hb dX4_open_92 rfl (lv_at hl 1 rfl) ?_
              refine kx_cV (na := 0) F (q := 14) (n := 0) (c_X4_settles l G z0 ad nb (kx_up (kx_up (kx_up sg 14 0 (upd (sg 14 0) 22 0)) 28 0 (upd (sg 28 0) d ((sg 28 0 d) + 1))) 29 0 (upd (sg 29 0) d 1)) mb (tm_WF_k (tm_WF_k (tm_WF_th hwf) (by decide) (by decide) (by decide) (by decide)) (by decide) (by decide) (by decide) (by decide))) gX4_open_X4_settles rfl (by decide +kernel) ⟨Nat.le_of_ble_eq_true rfl, Nat.le_of_ble_eq_true rfl⟩ hW hS ⟨by decide, rfl⟩ rfl rfl (As := []) (rest := []) rfl hl.1 rfl (Nat.le_of_ble_eq_true rfl) dX4_open_93 ⟨by first | exact Nat.le_of_ble_eq_true rfl | omega, by first | exact Nat.le_of_ble_eq_true rfl | omega⟩ (fun r9 sg9 H locs hq hW hS => ?_)
              obtain ⟨rfl, hsa9⟩ := hq
              have hW : kx_Wd G z0 ad nb (sg9) H := by first | exact hW | (simp only [kx_up_s, kx_up_up] at hW; exact hW) | (simp only [kx_up_s, kx_up_up, upd_s] at hW; exact hW)
              refine W.eq (g2 := F0 m 96 ls []) rfl ?_
              refine lv_iconst (v := (-1)) hx hb dX4_open_96 (by decide) ?_
              exact kx_ri F hr hlocks hW hS (by first | exact Nat.le_of_ble_eq_true rfl | omega) (by first | exact Nat.le_of_ble_eq_true rfl | omega) (Or.inr (Or.inr (Or.inr ⟨d, hd, rfl, hB9, c_26, Classical.not_not.mp (fun h => h c_35), Or.inl ⟨c_58, rfl, by rw [hj9]; exact hsa9⟩⟩))) dX4_open_97
        · refine lv_iconst (v := 0) hx hb dX4_open_49 (by decide) ?_
          exact kx_ri F hr hlocks hW hS (by first | exact Nat.le_of_ble_eq_true rfl | omega) (by first | exact Nat.le_of_ble_eq_true rfl | omega) (by rcases Bool.eq_false_or_eq_true (tw_in y 0 999) with hR | hR; exact absurd (tw_a3_s0 (tw_b_1 c_16) hR) (tw_dec0 c_46); exact Or.inr (Or.inl ⟨d, hd, rfl, hR, rfl, tm_Q_th (tw_a3_s2 (tw_b_1 c_16) hR)⟩)) dX4_open_50

set_option maxHeartbeats 4000000 in
set_option maxRecDepth 100000 in
theorem c_X4_jam (l : Launch) (G : kx_G) (z0 : Nat) (ad : kx_A) (nb : Nat) (sg : kx_S) (mb : Nat) (hwf : tm_WF mb sg) (hj : ∀ d, d < 10 → tw_01 (sg 29 0 d)) (x z : Int32) (hz : tw_01 z) : kx_M l yX4_jam wsX4_jam 4 95 0 0 G z0 ad nb sg [.ref (ad 14 0), .int x, .int z] (fun r sg' => ((∀ d, d < 10 → ¬ x = nI d) ∧ r = some (.int 0) ∧ tm_Q sg sg' 1) ∨ (∃ d : Nat, d < 10 ∧ x = nI d ∧ r = some (.int (sg 29 0 d)) ∧ tm_SA mb (kx_up (kx_up (kx_up sg 14 0 (upd (sg 14 0) 22 0)) 29 0 (upd (sg 29 0) d z)) 28 0 (upd (sg 28 0) d (if z = 0 then 0 else sg 28 0 d))) sg')) := by
  refine Met.ofW (cc := cX4_jam) (maxL := 4) (ret := (some .boolean)) (by decide) rfl ?_
  intro p e s m args below meth c s₁ B hml hv
  obtain ⟨rfl, hW, hV⟩ := hv
  have hts := atoms_spec (ws := wsX4_jam) B.pre
  have F : kx_F p s m c cX4_jam 4 RX4 _ wsX4_jam G z0 := ⟨B.exec, B.bytes, hml, findClass_of_methodNamed B.named, hts, hV⟩
  have hx := B.exec; have hb := B.bytes; have hr := B.returns; have hlocks := B.notSynchronized
  have hS : va_S (kx_Ad z0) s.heap s.heap [] := va_S.rf
  have hmb16 := hwf.2.1
  have L_50 : Cond.fieldLink RX4 50 (TX4 15).1 (TX4 15).2.1 (TX4 15).2.2.1 ∈ wsX4_jam := by decide +kernel
  have L_53 : Cond.fieldLink RX4 53 (TX4 16).1 (TX4 16).2.1 (TX4 16).2.2.1 ∈ wsX4_jam := by decide +kernel
  have inX4 : ∀ w ∈ u_ws RX4 TX4 23, w ∈ wsX4_jam := by decide +kernel
  have hl := lv_entry ([.ref (ad 14 0), .int x, .int z]) (n := 4) (Nat.le_of_ble_eq_true rfl)
  rw [lg_entry_eq]
  generalize (lg_sl ([.ref (ad 14 0), .int x, .int z]) ++ List.replicate (4 - (lg_sl ([.ref (ad 14 0), .int x, .int z])).length) Slot.unset).toArray = ls at hl ⊢
  have hl : lv_has ls 4 [(0, .ref (ad 14 0)), (1, .int x), (2, .int z)] := hl
  refine lv_aload_n hx hb dX4_jam_0 rfl (lv_at hl 0 rfl) ?_
  refine lv_iload_n hx hb dX4_jam_1 rfl (lv_at hl 1 rfl) ?_
  refine kx_cS (na := 1) F (c_X4_isDoor l G z0 ad nb sg x) gX4_jam_X4_isDoor rfl (by decide +kernel) ⟨Nat.le_of_ble_eq_true rfl, Nat.le_of_ble_eq_true rfl⟩ hW hS (As := [.int x]) (rest := [.ref (ad 14 0)]) rfl hl.1 rfl (Nat.le_of_ble_eq_true rfl) dX4_jam_2 ⟨by first | exact Nat.le_of_ble_eq_true rfl | omega, by first | exact Nat.le_of_ble_eq_true rfl | omega⟩ (fun r9 sg9 H locs hq hW hS => ?_)
  obtain ⟨rfl, e9⟩ := hq
  rw [e9] at hW
  refine W.eq (g2 := F0 m 5 ls [.int (tw_b (tw_in x 0 9)), .ref (ad 14 0)]) rfl ?_
  refine kx_cV (na := 1) F (q := 14) (n := 0) (c_X4_asked l G z0 ad nb sg (tw_b (tw_in x 0 9)) (tw_b_01 _)) gX4_jam_X4_asked rfl (by decide +kernel) ⟨Nat.le_of_ble_eq_true rfl, Nat.le_of_ble_eq_true rfl⟩ hW hS ⟨by decide, rfl⟩ rfl rfl (As := [.int (tw_b (tw_in x 0 9))]) (rest := []) rfl hl.1 rfl (Nat.le_of_ble_eq_true rfl) dX4_jam_5 ⟨by first | exact Nat.le_of_ble_eq_true rfl | omega, by first | exact Nat.le_of_ble_eq_true rfl | omega⟩ (fun r9 sg9 H locs hq hW hS => ?_)
  obtain ⟨rfl, e9⟩ := hq
  rw [e9] at hW
  have hW : kx_Wd G z0 ad nb (kx_up sg 14 0 (upd (sg 14 0) 22 (tw_a1 (tw_b (tw_in x 0 9))))) H := by first | exact hW | (simp only [kx_up_s, kx_up_up] at hW; exact hW) | (simp only [kx_up_s, kx_up_up, upd_s] at hW; exact hW)
  refine W.eq (g2 := F0 m 8 ls [.int (tw_b (tw_in x 0 9))]) rfl ?_
  refine lv_if_ne (tgt := 13) hx hb dX4_jam_8 (by decide) (fun c_8 => ?_) (fun c_8 => ?_)
  · obtain ⟨d, hd, rfl⟩ := tw_isdoor (tw_b_1 c_8)
    have hT9 : tw_a1 (tw_b (tw_in (nI d) 0 9)) = 0 := if_neg c_8
    rw [hT9] at hW
    refine lv_aload_n hx hb dX4_jam_13 rfl (lv_at hl 0 rfl) ?_
    refine kx_g F inX4 hW 14 0 ⟨by decide, rfl⟩ rfl rfl 16 (by decide) L_53 (v := .ref (ad 29 0)) rfl dX4_jam_14 ?_
    refine lv_iload_n hx hb dX4_jam_17 rfl (lv_at hl 1 rfl) ?_
    refine kx_zald F hW 29 0 ⟨by decide, rfl⟩ rfl d (by omega) (by decide) (v := sg 29 0 d) (by first | rfl | (simp only [kx_up_s]; done) | (simp only [kx_up_s, upd_s]; done) | (simp only [kx_up_s]; rfl) | (simp [kx_up, upd]; done)) dX4_jam_18 ?_
    refine lv_istore_n (lv' := [(3, .int (sg 29 0 d)), (0, .ref (ad 14 0)), (1, .int (nI d)), (2, .int z)]) hx hb dX4_jam_19 rfl hl (by decide) rfl (fun ls hl => ?_)
    refine lv_aload_n hx hb dX4_jam_20 rfl (lv_at hl 1 rfl) ?_
    refine kx_g F inX4 hW 14 0 ⟨by decide, rfl⟩ rfl rfl 16 (by decide) L_53 (v := .ref (ad 29 0)) rfl dX4_jam_21 ?_
    refine lv_iload_n hx hb dX4_jam_24 rfl (lv_at hl 2 rfl) ?_
    refine lv_iload_n hx hb dX4_jam_25 rfl (lv_at hl 3 rfl) ?_
    refine kx_zast F hW hS 29 0 ⟨by decide, rfl⟩ rfl d (by omega) (by decide) (x := z) (tw_01_nar hz) rfl dX4_jam_26 (fun H locs hW hS => ?_)
    have er9 : (kx_up sg 14 0 (upd (sg 14 0) 22 0)) 29 0 = sg 29 0 := by first | rfl | (simp only [kx_up_s]; done) | (simp [kx_up]; done)
    rw [er9] at hW
    have hW : kx_Wd G z0 ad nb (kx_up (kx_up sg 14 0 (upd (sg 14 0) 22 0)) 29 0 (upd (sg 29 0) d z)) H := hW
    refine lv_aload_n hx hb dX4_jam_27 rfl (lv_at hl 1 rfl) ?_
    refine kx_g F inX4 hW 14 0 ⟨by decide, rfl⟩ rfl rfl 15 (by decide) L_50 (v := .ref (ad 28 0)) rfl dX4_jam_28 ?_
    refine lv_iload_n hx hb dX4_jam_31 rfl (lv_at hl 2 rfl) ?_
    refine lv_iload_n hx hb dX4_jam_32 rfl (lv_at hl 3 rfl) ?_
    refine lv_if_eq (tgt := 45) hx hb dX4_jam_33 (by decide) (fun c_33 => ?_) (fun c_33 => ?_)
    · refine lv_iconst (v := 0) hx hb dX4_jam_45 (by decide) ?_
      have hj9 : (if z = 0 then 0 else sg 28 0 d) = 0 := if_pos c_33
      refine kx_ast F hW hS 28 0 ⟨by decide, rfl⟩ rfl d (by omega) (by decide) (x := 0) rfl dX4_jam_46 (fun H locs hW hS => ?_)
      have er9 : (kx_up (kx_up sg 14 0 (upd (sg 14 0) 22 0)) 29 0 (upd (sg 29 0) d z)) 28 0 = sg 28 0 := by first | rfl | (simp only [kx_up_s]; done) | (simp [kx_up]; done)
      rw [er9] at hW
      have hW : kx_Wd G z0 ad nb (kx_up (kx_up (kx_up sg 14 0 (upd (sg 14 0) 22 0)) 29 0 (upd (sg 29 0) d z)) 28 0 (upd (sg 28 0) d 0)) H := hW
      refine lv_aload_n hx hb dX4_jam_47 rfl (lv_at hl 1 rfl) ?_
      refine kx_cV (na := 0) F (q := 14) (n := 0) (c_X4_settles l G z0 ad nb (kx_up (kx_up (kx_up sg 14 0 (upd (sg 14 0) 22 0)) 29 0 (upd (sg 29 0) d z)) 28 0 (upd (sg 28 0) d 0)) mb (tm_WF_k (tm_WF_k (tm_WF_th hwf) (by decide) (by decide) (by decide) (by decide)) (by decide) (by decide) (by decide) (by decide))) gX4_jam_X4_settles rfl (by decide +kernel) ⟨Nat.le_of_ble_eq_true rfl, Nat.le_of_ble_eq_true rfl⟩ hW hS ⟨by decide, rfl⟩ rfl rfl (As := []) (rest := []) rfl hl.1 rfl (Nat.le_of_ble_eq_true rfl) dX4_jam_48 ⟨by first | exact Nat.le_of_ble_eq_true rfl | omega, by first | exact Nat.le_of_ble_eq_true rfl | omega⟩ (fun r9 sg9 H locs hq hW hS => ?_)
      obtain ⟨rfl, hsa9⟩ := hq
      have hW : kx_Wd G z0 ad nb (sg9) H := by first | exact hW | (simp only [kx_up_s, kx_up_up] at hW; exact hW) | (simp only [kx_up_s, kx_up_up, upd_s] at hW; exact hW)
      refine W.eq (g2 := F0 m 51 ls []) rfl ?_
      refine lv_iload_n hx hb dX4_jam_51 rfl (lv_at hl 0 rfl) ?_
      exact kx_rz F hr hlocks hW hS (by first | exact Nat.le_of_ble_eq_true rfl | omega) (by first | exact Nat.le_of_ble_eq_true rfl | omega) (tw_01_nar (hj d hd)) (Or.inr ⟨d, hd, rfl, rfl, by rw [hj9]; exact hsa9⟩) dX4_jam_52
    · refine lv_aload_n hx hb dX4_jam_36 rfl (lv_at hl 1 rfl) ?_
      refine kx_g F inX4 hW 14 0 ⟨by decide, rfl⟩ rfl rfl 15 (by decide) L_50 (v := .ref (ad 28 0)) rfl dX4_jam_37 ?_
      refine lv_iload_n hx hb dX4_jam_40 rfl (lv_at hl 2 rfl) ?_
      refine kx_ald F hW 28 0 ⟨by decide, rfl⟩ rfl d (by omega) (by decide) (v := sg 28 0 d) (by first | rfl | (simp only [kx_up_s]; done) | (simp only [kx_up_s, upd_s]; done) | (simp only [kx_up_s]; rfl) | (simp [kx_up, upd]; done)) dX4_jam_41 ?_
      refine lv_goto (tgt := 46) hx hb dX4_jam_42 (by decide) ?_
      have hj9 : (if z = 0 then 0 else sg 28 0 d) = sg 28 0 d := if_neg c_33
      refine kx_ast F hW hS 28 0 ⟨by decide, rfl⟩ rfl d (by omega) (by decide) (x := (sg 28 0 d)) rfl dX4_jam_46 (fun H locs hW hS => ?_)
      have er9 : (kx_up (kx_up sg 14 0 (upd (sg 14 0) 22 0)) 29 0 (upd (sg 29 0) d z)) 28 0 = sg 28 0 := by first | rfl | (simp only [kx_up_s]; done) | (simp [kx_up]; done)
      rw [er9] at hW
      have hW : kx_Wd G z0 ad nb (kx_up (kx_up (kx_up sg 14 0 (upd (sg 14 0) 22 0)) 29 0 (upd (sg 29 0) d z)) 28 0 (upd (sg 28 0) d (sg 28 0 d))) H := hW
      refine lv_aload_n hx hb dX4_jam_47 rfl (lv_at hl 1 rfl) ?_
      refine kx_cV (na := 0) F (q := 14) (n := 0) (c_X4_settles l G z0 ad nb (kx_up (kx_up (kx_up sg 14 0 (upd (sg 14 0) 22 0)) 29 0 (upd (sg 29 0) d z)) 28 0 (upd (sg 28 0) d (sg 28 0 d))) mb (tm_WF_k (tm_WF_k (tm_WF_th hwf) (by decide) (by decide) (by decide) (by decide)) (by decide) (by decide) (by decide) (by decide))) gX4_jam_X4_settles rfl (by decide +kernel) ⟨Nat.le_of_ble_eq_true rfl, Nat.le_of_ble_eq_true rfl⟩ hW hS ⟨by decide, rfl⟩ rfl rfl (As := []) (rest := []) rfl hl.1 rfl (Nat.le_of_ble_eq_true rfl) dX4_jam_48 ⟨by first | exact Nat.le_of_ble_eq_true rfl | omega, by first | exact Nat.le_of_ble_eq_true rfl | omega⟩ (fun r9 sg9 H locs hq hW hS => ?_)
      obtain ⟨rfl, hsa9⟩ := hq
      have hW : kx_Wd G z0 ad nb (sg9) H := by first | exact hW | (simp only [kx_up_s, kx_up_up] at hW; exact hW) | (simp only [kx_up_s, kx_up_up, upd_s] at hW; exact hW)
      refine W.eq (g2 := F0 m 51 ls []) rfl ?_
      refine lv_iload_n hx hb dX4_jam_51 rfl (lv_at hl 0 rfl) ?_
      exact kx_rz F hr hlocks hW hS (by first | exact Nat.le_of_ble_eq_true rfl | omega) (by first | exact Nat.le_of_ble_eq_true rfl | omega) (tw_01_nar (hj d hd)) (Or.inr ⟨d, hd, rfl, rfl, by rw [hj9]; exact hsa9⟩) dX4_jam_52
  · refine lv_iconst (v := 0) hx hb dX4_jam_11 (by decide) ?_
    exact kx_rz F hr hlocks hW hS (by first | exact Nat.le_of_ble_eq_true rfl | omega) (by first | exact Nat.le_of_ble_eq_true rfl | omega) (by rfl) (Or.inl ⟨tw_nodoor (tw_b_0 c_8), rfl, tm_Q_th (if_pos c_8)⟩) dX4_jam_12

theorem tw_n0 {n : Nat} (c : ¬ nI n = 0) : ∃ m : Nat, n = m + 1 := by
  cases n with
  | zero => exact absurd rfl c
  | succ m => exact ⟨m, rfl⟩
theorem tw_n00 {n : Nat} (h : n ≤ 12) (c : nI n = 0) : n = 0 := (nI_eq (a := n) (b := 0) (by omega) (by decide)).mp c
theorem tw_ix1 {k n m : Nat} (h : n = m + 1) : ((12 : Int32) * nI k + nI n) - 1 = nI (12 * k + m) := by rw [tw_ix, h, ← Nat.add_assoc, tw_m1]

set_option maxHeartbeats 8000000 in
set_option maxRecDepth 100000 in
theorem c_X4_claim (l : Launch) (G : kx_G) (z0 : Nat) (ad : kx_A) (nb : Nat) (sg : kx_S) (mb : Nat) (hwf : tm_WF mb sg) (x : Int32) : kx_M l yX4_claim wsX4_claim 3 72 0 0 G z0 ad nb sg [.ref (ad 14 0), .int x] (fun r sg' => ((∀ k, k < mb → ¬ x = nI k) ∧ r = some (.int 0) ∧ tm_Q sg sg' 1) ∨ (∃ k : Nat, k < mb ∧ x = nI k ∧ (¬ sg 18 0 k = 0 ∨ tw_last (tm_st sg k (tm_n sg k)) (tm_pl sg k) (tm_n sg k) = 30 ∨ ∃ m : Nat, tm_n sg k = m + 1 ∧ ¬ 1000 ≤ sg 14 0 0 - sg 22 0 (12 * k + m)) ∧ r = some (.int 0) ∧ tm_Q sg sg' 2) ∨ (∃ k : Nat, k < mb ∧ x = nI k ∧ sg 18 0 k = 0 ∧ ¬ tw_last (tm_st sg k (tm_n sg k)) (tm_pl sg k) (tm_n sg k) = 30 ∧ (tm_n sg k = 0 ∨ ∃ m : Nat, tm_n sg k = m + 1 ∧ 1000 ≤ sg 14 0 0 - sg 22 0 (12 * k + m)) ∧ r = some (.int (sg 16 0 k)) ∧ (∀ q m, ¬ (q = 14 ∧ m = 0) → q ≠ 18 → q ≠ 30 → q ≠ 31 → sg' q m = sg q m) ∧ sg' 18 0 = upd (sg 18 0) k 1 ∧ sg' 14 0 = upd (upd (upd (sg 14 0) 22 0) 18 (sg 14 0 18 + sg 16 0 k)) 19 (sg 14 0 19 + 1))) := by
  refine Met.ofW (cc := cX4_claim) (maxL := 4) (ret := (some .int)) (by decide) rfl ?_
  intro p e s m args below meth c s₁ B hml hv
  obtain ⟨rfl, hW, hV⟩ := hv
  have hts := atoms_spec (ws := wsX4_claim) B.pre
  have F : kx_F p s m c cX4_claim 4 RX4 _ wsX4_claim G z0 := ⟨B.exec, B.bytes, hml, findClass_of_methodNamed B.named, hts, hV⟩
  have hx := B.exec; have hb := B.bytes; have hr := B.returns; have hlocks := B.notSynchronized
  have hS : va_S (kx_Ad z0) s.heap s.heap [] := va_S.rf
  have hmb16 := hwf.2.1
  have L_107 : Cond.fieldLink RX4 107 (TX4 0).1 (TX4 0).2.1 (TX4 0).2.2.1 ∈ wsX4_claim := by decide +kernel
  have L_13 : Cond.fieldLink RX4 13 (TX4 2).1 (TX4 2).2.1 (TX4 2).2.2.1 ∈ wsX4_claim := by decide +kernel
  have L_16 : Cond.fieldLink RX4 16 (TX4 3).1 (TX4 3).2.1 (TX4 3).2.2.1 ∈ wsX4_claim := by decide +kernel
  have L_19 : Cond.fieldLink RX4 19 (TX4 4).1 (TX4 4).2.1 (TX4 4).2.2.1 ∈ wsX4_claim := by decide +kernel
  have L_32 : Cond.fieldLink RX4 32 (TX4 9).1 (TX4 9).2.1 (TX4 9).2.2.1 ∈ wsX4_claim := by decide +kernel
  have L_91 : Cond.fieldLink RX4 91 (TX4 18).1 (TX4 18).2.1 (TX4 18).2.2.1 ∈ wsX4_claim := by decide +kernel
  have L_94 : Cond.fieldLink RX4 94 (TX4 19).1 (TX4 19).2.1 (TX4 19).2.2.1 ∈ wsX4_claim := by decide +kernel
  have inX4 : ∀ w ∈ u_ws RX4 TX4 23, w ∈ wsX4_claim := by decide +kernel
  have hl := lv_entry ([.ref (ad 14 0), .int x]) (n := 4) (Nat.le_of_ble_eq_true rfl)
  rw [lg_entry_eq]
  generalize (lg_sl ([.ref (ad 14 0), .int x]) ++ List.replicate (4 - (lg_sl ([.ref (ad 14 0), .int x])).length) Slot.unset).toArray = ls at hl ⊢
  have hl : lv_has ls 4 [(0, .ref (ad 14 0)), (1, .int x)] := hl
  refine lv_aload_n hx hb dX4_claim_0 rfl (lv_at hl 0 rfl) ?_
  refine lv_iload_n hx hb dX4_claim_1 rfl (lv_at hl 1 rfl) ?_
  refine kx_cV (na := 1) F (q := 14) (n := 0) (c_X4_isBox l G z0 ad nb sg x) gX4_claim_X4_isBox rfl (by decide +kernel) ⟨Nat.le_of_ble_eq_true rfl, Nat.le_of_ble_eq_true rfl⟩ hW hS ⟨by decide, rfl⟩ rfl rfl (As := [.int x]) (rest := []) rfl hl.1 rfl (Nat.le_of_ble_eq_true rfl) dX4_claim_2 ⟨by first | exact Nat.le_of_ble_eq_true rfl | omega, by first | exact Nat.le_of_ble_eq_true rfl | omega⟩ (fun r9 sg9 H locs hq hW hS => ?_)
  obtain ⟨rfl, e9⟩ := hq
  rw [e9] at hW
  refine W.eq (g2 := F0 m 5 ls [.int (tw_b (tw_in x 0 (sg 14 0 7 - 1)))]) rfl ?_
  refine lv_istore_n (lv' := [(2, .int (tw_b (tw_in x 0 (sg 14 0 7 - 1)))), (0, .ref (ad 14 0)), (1, .int x)]) hx hb dX4_claim_5 rfl hl (by decide) rfl (fun ls hl => ?_)
  refine lv_iload_n hx hb dX4_claim_6 rfl (lv_at hl 0 rfl) ?_
  refine lv_if_eq (tgt := 76) hx hb dX4_claim_7 (by decide) (fun c_7 => ?_) (fun c_7 => ?_)
  · refine lv_iconst (v := 0) hx hb dX4_claim_76 (by decide) ?_
    refine lv_istore_n (lv' := [(3, .int 0), (2, .int (tw_b (tw_in x 0 (sg 14 0 7 - 1)))), (0, .ref (ad 14 0)), (1, .int x)]) hx hb dX4_claim_77 rfl hl (by decide) rfl (fun ls hl => ?_)
    refine lv_aload_n hx hb dX4_claim_78 rfl (lv_at hl 2 rfl) ?_
    refine lv_iload_n hx hb dX4_claim_79 rfl (lv_at hl 1 rfl) ?_
    refine lv_iload_n hx hb dX4_claim_80 rfl (lv_at hl 0 rfl) ?_
    refine kx_cV (na := 2) F (q := 14) (n := 0) (c_X4_asked_ l G z0 ad nb sg (tw_b (tw_in x 0 (sg 14 0 7 - 1))) 0) gX4_claim_X4_asked_ rfl (by decide +kernel) ⟨Nat.le_of_ble_eq_true rfl, Nat.le_of_ble_eq_true rfl⟩ hW hS ⟨by decide, rfl⟩ rfl rfl (As := [.int (tw_b (tw_in x 0 (sg 14 0 7 - 1))), .int 0]) (rest := []) rfl hl.1 rfl (Nat.le_of_ble_eq_true rfl) dX4_claim_81 ⟨by first | exact Nat.le_of_ble_eq_true rfl | omega, by first | exact Nat.le_of_ble_eq_true rfl | omega⟩ (fun r9 sg9 H locs hq hW hS => ?_)
    obtain ⟨rfl, e9⟩ := hq
    rw [e9] at hW
    have hW : kx_Wd G z0 ad nb (kx_up sg 14 0 (upd (sg 14 0) 22 (tw_a2 (tw_b (tw_in x 0 (sg 14 0 7 - 1))) 0))) H := by first | exact hW | (simp only [kx_up_s, kx_up_up] at hW; exact hW) | (simp only [kx_up_s, kx_up_up, upd_s] at hW; exact hW)
    refine W.eq (g2 := F0 m 84 ls [.int (tw_b (decide (tw_a2 (tw_b (tw_in x 0 (sg 14 0 7 - 1))) 0 = 0)))]) rfl ?_
    refine lv_if_ne (tgt := 89) hx hb dX4_claim_84 (by decide) (fun c_84 => ?_) (fun c_84 => ?_)
    · exfalso; have hz := tw_dec1 c_84; rw [tw_b_0 c_7] at hz; exact absurd hz (by decide)
    · refine lv_iconst (v := 0) hx hb dX4_claim_87 (by decide) ?_
      exact kx_ri F hr hlocks hW hS (by first | exact Nat.le_of_ble_eq_true rfl | omega) (by first | exact Nat.le_of_ble_eq_true rfl | omega) (Or.inl ⟨tw_nobox hwf (tw_b_0 c_7), rfl, tm_Q_th (by rw [tw_b_0 c_7]; decide)⟩) dX4_claim_88
  · obtain ⟨k, hk, rfl⟩ := tw_isbox hwf (tw_b_1 c_7)
    obtain ⟨n9, hn9, h129, hwho9⟩ := hwf.2.2.1 k hk
    have en9 := tm_n_eq hn9 h129
    refine lv_aload_n hx hb dX4_claim_10 rfl (lv_at hl 1 rfl) ?_
    refine kx_g F inX4 hW 14 0 ⟨by decide, rfl⟩ rfl rfl 4 (by decide) L_19 (v := .ref (ad 18 0)) rfl dX4_claim_11 ?_
    refine lv_iload_n hx hb dX4_claim_14 rfl (lv_at hl 2 rfl) ?_
    refine kx_zald F hW 18 0 ⟨by decide, rfl⟩ rfl k (by omega) (by decide) (v := sg 18 0 k) rfl dX4_claim_15 ?_
    refine lv_if_ne (tgt := 76) hx hb dX4_claim_16 (by decide) (fun c_16 => ?_) (fun c_16 => ?_)
    · refine lv_iconst (v := 0) hx hb dX4_claim_76 (by decide) ?_
      refine lv_istore_n (lv' := [(3, .int 0), (2, .int (tw_b (tw_in (nI k) 0 (sg 14 0 7 - 1)))), (0, .ref (ad 14 0)), (1, .int (nI k))]) hx hb dX4_claim_77 rfl hl (by decide) rfl (fun ls hl => ?_)
      refine lv_aload_n hx hb dX4_claim_78 rfl (lv_at hl 2 rfl) ?_
      refine lv_iload_n hx hb dX4_claim_79 rfl (lv_at hl 1 rfl) ?_
      refine lv_iload_n hx hb dX4_claim_80 rfl (lv_at hl 0 rfl) ?_
      refine kx_cV (na := 2) F (q := 14) (n := 0) (c_X4_asked_ l G z0 ad nb sg (tw_b (tw_in (nI k) 0 (sg 14 0 7 - 1))) 0) gX4_claim_X4_asked_ rfl (by decide +kernel) ⟨Nat.le_of_ble_eq_true rfl, Nat.le_of_ble_eq_true rfl⟩ hW hS ⟨by decide, rfl⟩ rfl rfl (As := [.int (tw_b (tw_in (nI k) 0 (sg 14 0 7 - 1))), .int 0]) (rest := []) rfl hl.1 rfl (Nat.le_of_ble_eq_true rfl) dX4_claim_81 ⟨by first | exact Nat.le_of_ble_eq_true rfl | omega, by first | exact Nat.le_of_ble_eq_true rfl | omega⟩ (fun r9 sg9 H locs hq hW hS => ?_)
      obtain ⟨rfl, e9⟩ := hq
      rw [e9] at hW
      have hW : kx_Wd G z0 ad nb (kx_up sg 14 0 (upd (sg 14 0) 22 (tw_a2 (tw_b (tw_in (nI k) 0 (sg 14 0 7 - 1))) 0))) H := by first | exact hW | (simp only [kx_up_s, kx_up_up] at hW; exact hW) | (simp only [kx_up_s, kx_up_up, upd_s] at hW; exact hW)
      refine W.eq (g2 := F0 m 84 ls [.int (tw_b (decide (tw_a2 (tw_b (tw_in (nI k) 0 (sg 14 0 7 - 1))) 0 = 0)))]) rfl ?_
      refine lv_if_ne (tgt := 89) hx hb dX4_claim_84 (by decide) (fun c_84 => ?_) (fun c_84 => ?_)
      · exfalso; have hz := tw_dec1 c_84; rw [tw_b_1 c_7] at hz; exact absurd hz (by decide)
      · refine lv_iconst (v := 0) hx hb dX4_claim_87 (by decide) ?_
        exact kx_ri F hr hlocks hW hS (by first | exact Nat.le_of_ble_eq_true rfl | omega) (by first | exact Nat.le_of_ble_eq_true rfl | omega) (Or.inr (Or.inl ⟨k, hk, rfl, Or.inl c_16, rfl, tm_Q_th (by rw [tw_b_1 c_7]; decide)⟩)) dX4_claim_88
    · refine lv_aload_n hx hb dX4_claim_19 rfl (lv_at hl 1 rfl) ?_
      refine lv_iload_n hx hb dX4_claim_20 rfl (lv_at hl 2 rfl) ?_
      refine lv_aload_n hx hb dX4_claim_21 rfl (lv_at hl 1 rfl) ?_
      refine lv_iload_n hx hb dX4_claim_22 rfl (lv_at hl 2 rfl) ?_
      refine kx_cV (na := 1) F (q := 14) (n := 0) (c_X4_storyOf l G z0 ad nb sg k (by omega) n9 hn9 h129 hwho9 hwf.2.2.2) gX4_claim_X4_storyOf rfl (by decide +kernel) ⟨Nat.le_of_ble_eq_true rfl, Nat.le_of_ble_eq_true rfl⟩ hW hS ⟨by decide, rfl⟩ rfl rfl (As := [.int (nI k)]) (rest := [.int (nI k), .ref (ad 14 0)]) rfl hl.1 rfl (Nat.le_of_ble_eq_true rfl) dX4_claim_23 ⟨by first | exact Nat.le_of_ble_eq_true rfl | omega, by first | exact Nat.le_of_ble_eq_true rfl | omega⟩ (fun r9 sg9 H locs hq hW hS => ?_)
      obtain ⟨rfl, f9, g9, e9⟩ := hq
      rw [e9] at hW
      have hW : kx_Wd G z0 ad nb (kx_up (kx_up sg 30 0 f9) 31 0 g9) H := by first | exact hW | (simp only [kx_up_s, kx_up_up] at hW; exact hW) | (simp only [kx_up_s, kx_up_up, upd_s] at hW; exact hW)
      refine W.eq (g2 := F0 m 26 ls [.int (tm_st sg k n9), .int (nI k), .ref (ad 14 0)]) rfl ?_
      refine kx_cV (na := 2) F (q := 14) (n := 0) (c_X4_placeBy l G z0 ad nb (kx_up (kx_up sg 30 0 f9) 31 0 g9) k (by omega) n9 hn9 h129 (tm_st sg k n9)) gX4_claim_X4_placeBy rfl (by decide +kernel) ⟨Nat.le_of_ble_eq_true rfl, Nat.le_of_ble_eq_true rfl⟩ hW hS ⟨by decide, rfl⟩ rfl rfl (As := [.int (nI k), .int (tm_st sg k n9)]) (rest := []) rfl hl.1 rfl (Nat.le_of_ble_eq_true rfl) dX4_claim_26 ⟨by first | exact Nat.le_of_ble_eq_true rfl | omega, by first | exact Nat.le_of_ble_eq_true rfl | omega⟩ (fun r9 sg9 H locs hq hW hS => ?_)
      have hq : r9 = some (.int (tw_last (tm_st sg k n9) (tm_pl sg k) n9)) ∧ sg9 = kx_up (kx_up sg 30 0 f9) 31 0 g9 := hq
      obtain ⟨rfl, e9⟩ := hq
      rw [e9] at hW
      refine W.eq (g2 := F0 m 29 ls [.int (tw_last (tm_st sg k n9) (tm_pl sg k) n9)]) rfl ?_
      refine lv_bipush (v := 30) hx hb dX4_claim_29 (by decide) ?_
      refine lv_icmp_eq (tgt := 76) hx hb dX4_claim_31 (by decide) (fun c_31 => ?_) (fun c_31 => ?_)
      · refine lv_iconst (v := 0) hx hb dX4_claim_76 (by decide) ?_
        refine lv_istore_n (lv' := [(3, .int 0), (2, .int (tw_b (tw_in (nI k) 0 (sg 14 0 7 - 1)))), (0, .ref (ad 14 0)), (1, .int (nI k))]) hx hb dX4_claim_77 rfl hl (by decide) rfl (fun ls hl => ?_)
        refine lv_aload_n hx hb dX4_claim_78 rfl (lv_at hl 2 rfl) ?_
        refine lv_iload_n hx hb dX4_claim_79 rfl (lv_at hl 1 rfl) ?_
        refine lv_iload_n hx hb dX4_claim_80 rfl (lv_at hl 0 rfl) ?_
        refine kx_cV (na := 2) F (q := 14) (n := 0) (c_X4_asked_ l G z0 ad nb (kx_up (kx_up sg 30 0 f9) 31 0 g9) (tw_b (tw_in (nI k) 0 (sg 14 0 7 - 1))) 0) gX4_claim_X4_asked_ rfl (by decide +kernel) ⟨Nat.le_of_ble_eq_true rfl, Nat.le_of_ble_eq_true rfl⟩ hW hS ⟨by decide, rfl⟩ rfl rfl (As := [.int (tw_b (tw_in (nI k) 0 (sg 14 0 7 - 1))), .int 0]) (rest := []) rfl hl.1 rfl (Nat.le_of_ble_eq_true rfl) dX4_claim_81 ⟨by first | exact Nat.le_of_ble_eq_true rfl | omega, by first | exact Nat.le_of_ble_eq_true rfl | omega⟩ (fun r9 sg9 H locs hq hW hS => ?_)
        obtain ⟨rfl, e9⟩ := hq
        rw [e9] at hW
        have hW : kx_Wd G z0 ad nb (kx_up (kx_up (kx_up sg 30 0 f9) 31 0 g9) 14 0 (upd (sg 14 0) 22 (tw_a2 (tw_b (tw_in (nI k) 0 (sg 14 0 7 - 1))) 0))) H := by first | exact hW | (simp only [kx_up_s, kx_up_up] at hW; exact hW) | (simp only [kx_up_s, kx_up_up, upd_s] at hW; exact hW)
        refine W.eq (g2 := F0 m 84 ls [.int (tw_b (decide (tw_a2 (tw_b (tw_in (nI k) 0 (sg 14 0 7 - 1))) 0 = 0)))]) rfl ?_
        refine lv_if_ne (tgt := 89) hx hb dX4_claim_84 (by decide) (fun c_84 => ?_) (fun c_84 => ?_)
        · exfalso; have hz := tw_dec1 c_84; rw [tw_b_1 c_7] at hz; exact absurd hz (by decide)
        · refine lv_iconst (v := 0) hx hb dX4_claim_87 (by decide) ?_
          exact kx_ri F hr hlocks hW hS (by first | exact Nat.le_of_ble_eq_true rfl | omega) (by first | exact Nat.le_of_ble_eq_true rfl | omega) (Or.inr (Or.inl ⟨k, hk, rfl, Or.inr (Or.inl (by rw [en9]; exact c_31)), rfl, tm_Q_cs (by rw [tw_b_1 c_7]; decide) f9 g9⟩)) dX4_claim_88
      · refine lv_aload_n hx hb dX4_claim_34 rfl (lv_at hl 1 rfl) ?_
        refine kx_g F inX4 hW 14 0 ⟨by decide, rfl⟩ rfl rfl 3 (by decide) L_16 (v := .ref (ad 17 0)) rfl dX4_claim_35 ?_
        refine lv_iload_n hx hb dX4_claim_38 rfl (lv_at hl 2 rfl) ?_
        refine kx_ald F hW 17 0 ⟨by decide, rfl⟩ rfl k (by omega) (by decide) (v := nI n9) (by simp [kx_up]; exact hn9) dX4_claim_39 ?_
        refine lv_if_eq (tgt := 72) hx hb dX4_claim_40 (by decide) (fun c_40 => ?_) (fun c_40 => ?_)
        · refine lv_iconst (v := 1) hx hb dX4_claim_72 (by decide) ?_
          refine lv_goto (tgt := 77) hx hb dX4_claim_73 (by decide) ?_
          refine lv_istore_n (lv' := [(3, .int 1), (2, .int (tw_b (tw_in (nI k) 0 (sg 14 0 7 - 1)))), (0, .ref (ad 14 0)), (1, .int (nI k))]) hx hb dX4_claim_77 rfl hl (by decide) rfl (fun ls hl => ?_)
          refine lv_aload_n hx hb dX4_claim_78 rfl (lv_at hl 2 rfl) ?_
          refine lv_iload_n hx hb dX4_claim_79 rfl (lv_at hl 1 rfl) ?_
          refine lv_iload_n hx hb dX4_claim_80 rfl (lv_at hl 0 rfl) ?_
          refine kx_cV (na := 2) F (q := 14) (n := 0) (c_X4_asked_ l G z0 ad nb (kx_up (kx_up sg 30 0 f9) 31 0 g9) (tw_b (tw_in (nI k) 0 (sg 14 0 7 - 1))) 1) gX4_claim_X4_asked_ rfl (by decide +kernel) ⟨Nat.le_of_ble_eq_true rfl, Nat.le_of_ble_eq_true rfl⟩ hW hS ⟨by decide, rfl⟩ rfl rfl (As := [.int (tw_b (tw_in (nI k) 0 (sg 14 0 7 - 1))), .int 1]) (rest := []) rfl hl.1 rfl (Nat.le_of_ble_eq_true rfl) dX4_claim_81 ⟨by first | exact Nat.le_of_ble_eq_true rfl | omega, by first | exact Nat.le_of_ble_eq_true rfl | omega⟩ (fun r9 sg9 H locs hq hW hS => ?_)
          obtain ⟨rfl, e9⟩ := hq
          rw [e9] at hW
          have hW : kx_Wd G z0 ad nb (kx_up (kx_up (kx_up sg 30 0 f9) 31 0 g9) 14 0 (upd (sg 14 0) 22 (tw_a2 (tw_b (tw_in (nI k) 0 (sg 14 0 7 - 1))) 1))) H := by first | exact hW | (simp only [kx_up_s, kx_up_up] at hW; exact hW) | (simp only [kx_up_s, kx_up_up, upd_s] at hW; exact hW)
          refine W.eq (g2 := F0 m 84 ls [.int (tw_b (decide (tw_a2 (tw_b (tw_in (nI k) 0 (sg 14 0 7 - 1))) 1 = 0)))]) rfl ?_
          refine lv_if_ne (tgt := 89) hx hb dX4_claim_84 (by decide) (fun c_84 => ?_) (fun c_84 => ?_)
          · have hT9 : tw_a2 (tw_b (tw_in (nI k) 0 (sg 14 0 7 - 1))) 1 = 0 := tw_dec1 c_84
            rw [hT9] at hW
            refine lv_aload_n hx hb dX4_claim_89 rfl (lv_at hl 2 rfl) ?_
            refine kx_g F inX4 hW 14 0 ⟨by decide, rfl⟩ rfl rfl 4 (by decide) L_19 (v := .ref (ad 18 0)) rfl dX4_claim_90 ?_
            refine lv_iload_n hx hb dX4_claim_93 rfl (lv_at hl 3 rfl) ?_
            refine lv_iconst (v := 1) hx hb dX4_claim_94 (by decide) ?_
            refine kx_zast F hW hS 18 0 ⟨by decide, rfl⟩ rfl k (by omega) (by decide) (x := 1) rfl rfl dX4_claim_95 (fun H locs hW hS => ?_)
            have er9 : (kx_up (kx_up (kx_up sg 30 0 f9) 31 0 g9) 14 0 (upd (sg 14 0) 22 0)) 18 0 = sg 18 0 := by first | rfl | (simp only [kx_up_s]; done) | (simp [kx_up]; done)
            rw [er9] at hW
            have hW : kx_Wd G z0 ad nb (kx_up (kx_up (kx_up (kx_up sg 30 0 f9) 31 0 g9) 14 0 (upd (sg 14 0) 22 0)) 18 0 (upd (sg 18 0) k 1)) H := hW
            refine lv_aload_n hx hb dX4_claim_96 rfl (lv_at hl 2 rfl) ?_
            refine lv_dup hx hb dX4_claim_97 rfl ?_
            refine kx_g F inX4 hW 14 0 ⟨by decide, rfl⟩ rfl rfl 18 (by decide) L_91 (v := .int (sg 14 0 18)) (by first | rfl | (simp only [kx_up_s]; done) | (simp only [kx_up_s, upd_s]; done) | (simp only [kx_up_s]; rfl) | (simp [kx_up, upd]; done)) dX4_claim_98 ?_
            refine lv_aload_n hx hb dX4_claim_101 rfl (lv_at hl 2 rfl) ?_
            refine kx_g F inX4 hW 14 0 ⟨by decide, rfl⟩ rfl rfl 2 (by decide) L_13 (v := .ref (ad 16 0)) rfl dX4_claim_102 ?_
            refine lv_iload_n hx hb dX4_claim_105 rfl (lv_at hl 3 rfl) ?_
            refine kx_ald F hW 16 0 ⟨by decide, rfl⟩ rfl k (by omega) (by decide) (v := sg 16 0 k) (by first | rfl | (simp only [kx_up_s]; done) | (simp only [kx_up_s, upd_s]; done) | (simp only [kx_up_s]; rfl) | (simp [kx_up, upd]; done)) dX4_claim_106 ?_
            refine lv_iadd hx hb dX4_claim_107 ?_
            refine kx_p F inX4 tyX4 tyX4_ok nmX4 hW hS 14 0 ⟨by decide, rfl⟩ rfl rfl 18 (by decide) L_91 rfl (v := .int ((sg 14 0 18) + (sg 16 0 k))) rfl rfl (Nat.le_of_ble_eq_true rfl) (upd ((kx_up (kx_up (kx_up (kx_up sg 30 0 f9) 31 0 g9) 14 0 (upd (sg 14 0) 22 0)) 18 0 (upd (sg 18 0) k 1)) 14 0) 18 ((sg 14 0 18) + (sg 16 0 k))) rfl dX4_claim_108 (fun H locs hW hS => ?_)
            have er9 : (kx_up (kx_up (kx_up (kx_up sg 30 0 f9) 31 0 g9) 14 0 (upd (sg 14 0) 22 0)) 18 0 (upd (sg 18 0) k 1)) 14 0 = upd (sg 14 0) 22 0 := by first | rfl | (simp only [kx_up_s]; done) | (simp [kx_up]; done)
            rw [er9] at hW
            have hW : kx_Wd G z0 ad nb (kx_up (kx_up (kx_up (kx_up (kx_up sg 30 0 f9) 31 0 g9) 14 0 (upd (sg 14 0) 22 0)) 18 0 (upd (sg 18 0) k 1)) 14 0 (upd (upd (sg 14 0) 22 0) 18 ((sg 14 0 18) + (sg 16 0 k)))) H := hW
            refine lv_aload_n hx hb dX4_claim_111 rfl (lv_at hl 2 rfl) ?_
            refine lv_dup hx hb dX4_claim_112 rfl ?_
            refine kx_g F inX4 hW 14 0 ⟨by decide, rfl⟩ rfl rfl 19 (by decide) L_94 (v := .int (sg 14 0 19)) (by first | rfl | (simp only [kx_up_s]; done) | (simp only [kx_up_s, upd_s]; done) | (simp only [kx_up_s]; rfl) | (simp [kx_up, upd]; done)) dX4_claim_113 ?_
            refine lv_iconst (v := 1) hx hb dX4_claim_116 (by decide) ?_
            refine lv_iadd hx hb dX4_claim_117 ?_
            refine kx_p F inX4 tyX4 tyX4_ok nmX4 hW hS 14 0 ⟨by decide, rfl⟩ rfl rfl 19 (by decide) L_94 rfl (v := .int ((sg 14 0 19) + 1)) rfl rfl (Nat.le_of_ble_eq_true rfl) (upd ((kx_up (kx_up (kx_up (kx_up (kx_up sg 30 0 f9) 31 0 g9) 14 0 (upd (sg 14 0) 22 0)) 18 0 (upd (sg 18 0) k 1)) 14 0 (upd (upd (sg 14 0) 22 0) 18 ((sg 14 0 18) + (sg 16 0 k)))) 14 0) 19 ((sg 14 0 19) + 1)) rfl dX4_claim_118 (fun H locs hW hS => ?_)
            have er9 : (kx_up (kx_up (kx_up (kx_up (kx_up sg 30 0 f9) 31 0 g9) 14 0 (upd (sg 14 0) 22 0)) 18 0 (upd (sg 18 0) k 1)) 14 0 (upd (upd (sg 14 0) 22 0) 18 ((sg 14 0 18) + (sg 16 0 k)))) 14 0 = upd (upd (sg 14 0) 22 0) 18 ((sg 14 0 18) + (sg 16 0 k)) := by first | rfl | (simp only [kx_up_s]; done) | (simp [kx_up]; done)
            rw [er9] at hW
            rw [kx_up_up] at hW
            have hW : kx_Wd G z0 ad nb (kx_up (kx_up (kx_up (kx_up (kx_up sg 30 0 f9) 31 0 g9) 14 0 (upd (sg 14 0) 22 0)) 18 0 (upd (sg 18 0) k 1)) 14 0 (upd (upd (upd (sg 14 0) 22 0) 18 ((sg 14 0 18) + (sg 16 0 k))) 19 ((sg 14 0 19) + 1))) H := hW
            refine lv_aload_n hx hb dX4_claim_121 rfl (lv_at hl 2 rfl) ?_
            refine kx_g F inX4 hW 14 0 ⟨by decide, rfl⟩ rfl rfl 2 (by decide) L_13 (v := .ref (ad 16 0)) rfl dX4_claim_122 ?_
            refine lv_iload_n hx hb dX4_claim_125 rfl (lv_at hl 3 rfl) ?_
            refine kx_ald F hW 16 0 ⟨by decide, rfl⟩ rfl k (by omega) (by decide) (v := sg 16 0 k) (by first | rfl | (simp only [kx_up_s]; done) | (simp only [kx_up_s, upd_s]; done) | (simp only [kx_up_s]; rfl) | (simp [kx_up, upd]; done)) dX4_claim_126 ?_
            exact kx_ri F hr hlocks hW hS (by first | exact Nat.le_of_ble_eq_true rfl | omega) (by first | exact Nat.le_of_ble_eq_true rfl | omega) (Or.inr (Or.inr ⟨k, hk, rfl, Classical.not_not.mp (fun h => h c_16), by rw [en9]; exact c_31, Or.inl (by rw [en9]; exact tw_n00 h129 c_40), rfl, fun q m h1 h2 h3 h4 => by simp [kx_up, h1, h2, h3, h4], by simp [kx_up], by simp [kx_up]⟩)) dX4_claim_127
          · exfalso; have hz := tw_dec0 c_84; rw [tw_b_1 c_7] at hz; exact absurd (by decide) hz
        · obtain ⟨m9, em9⟩ := tw_n0 c_40
          refine lv_aload_n hx hb dX4_claim_43 rfl (lv_at hl 1 rfl) ?_
          refine kx_g F inX4 hW 14 0 ⟨by decide, rfl⟩ rfl rfl 0 (by decide) L_107 (v := .int (sg 14 0 0)) (by first | rfl | (simp only [kx_up_s]; done) | (simp only [kx_up_s, upd_s]; done) | (simp only [kx_up_s]; rfl) | (simp [kx_up, upd]; done)) dX4_claim_44 ?_
          refine lv_aload_n hx hb dX4_claim_47 rfl (lv_at hl 1 rfl) ?_
          refine kx_g F inX4 hW 14 0 ⟨by decide, rfl⟩ rfl rfl 9 (by decide) L_32 (v := .ref (ad 22 0)) rfl dX4_claim_48 ?_
          refine lv_bipush (v := 12) hx hb dX4_claim_51 (by decide) ?_
          refine lv_iload_n hx hb dX4_claim_53 rfl (lv_at hl 2 rfl) ?_
          refine lv_imul hx hb dX4_claim_54 ?_
          refine lv_aload_n hx hb dX4_claim_55 rfl (lv_at hl 1 rfl) ?_
          refine kx_g F inX4 hW 14 0 ⟨by decide, rfl⟩ rfl rfl 3 (by decide) L_16 (v := .ref (ad 17 0)) rfl dX4_claim_56 ?_
          refine lv_iload_n hx hb dX4_claim_59 rfl (lv_at hl 2 rfl) ?_
          refine kx_ald F hW 17 0 ⟨by decide, rfl⟩ rfl k (by omega) (by decide) (v := nI n9) (by simp [kx_up]; exact hn9) dX4_claim_60 ?_
          refine lv_iadd hx hb dX4_claim_61 ?_
          refine lv_iconst (v := 1) hx hb dX4_claim_62 (by decide) ?_
          refine lv_isub hx hb dX4_claim_63 ?_
          rw [tw_ix1 em9]
          refine kx_ald F hW 22 0 ⟨by decide, rfl⟩ rfl (12 * k + m9) (by omega) (by decide) (v := sg 22 0 (12 * k + m9)) (by first | rfl | (simp only [kx_up_s]; done) | (simp only [kx_up_s, upd_s]; done) | (simp only [kx_up_s]; rfl) | (simp [kx_up, upd]; done)) dX4_claim_64 ?_
          refine lv_isub hx hb dX4_claim_65 ?_
          refine lv_sipush (v := 1000) hx hb dX4_claim_66 (by decide) ?_
          refine lv_icmp_lt (tgt := 76) hx hb dX4_claim_69 (by decide) (fun c_69 => ?_) (fun c_69 => ?_)
          · refine lv_iconst (v := 0) hx hb dX4_claim_76 (by decide) ?_
            refine lv_istore_n (lv' := [(3, .int 0), (2, .int (tw_b (tw_in (nI k) 0 (sg 14 0 7 - 1)))), (0, .ref (ad 14 0)), (1, .int (nI k))]) hx hb dX4_claim_77 rfl hl (by decide) rfl (fun ls hl => ?_)
            refine lv_aload_n hx hb dX4_claim_78 rfl (lv_at hl 2 rfl) ?_
            refine lv_iload_n hx hb dX4_claim_79 rfl (lv_at hl 1 rfl) ?_
            refine lv_iload_n hx hb dX4_claim_80 rfl (lv_at hl 0 rfl) ?_
            refine kx_cV (na := 2) F (q := 14) (n := 0) (c_X4_asked_ l G z0 ad nb (kx_up (kx_up sg 30 0 f9) 31 0 g9) (tw_b (tw_in (nI k) 0 (sg 14 0 7 - 1))) 0) gX4_claim_X4_asked_ rfl (by decide +kernel) ⟨Nat.le_of_ble_eq_true rfl, Nat.le_of_ble_eq_true rfl⟩ hW hS ⟨by decide, rfl⟩ rfl rfl (As := [.int (tw_b (tw_in (nI k) 0 (sg 14 0 7 - 1))), .int 0]) (rest := []) rfl hl.1 rfl (Nat.le_of_ble_eq_true rfl) dX4_claim_81 ⟨by first | exact Nat.le_of_ble_eq_true rfl | omega, by first | exact Nat.le_of_ble_eq_true rfl | omega⟩ (fun r9 sg9 H locs hq hW hS => ?_)
            obtain ⟨rfl, e9⟩ := hq
            rw [e9] at hW
            have hW : kx_Wd G z0 ad nb (kx_up (kx_up (kx_up sg 30 0 f9) 31 0 g9) 14 0 (upd (sg 14 0) 22 (tw_a2 (tw_b (tw_in (nI k) 0 (sg 14 0 7 - 1))) 0))) H := by first | exact hW | (simp only [kx_up_s, kx_up_up] at hW; exact hW) | (simp only [kx_up_s, kx_up_up, upd_s] at hW; exact hW)
            refine W.eq (g2 := F0 m 84 ls [.int (tw_b (decide (tw_a2 (tw_b (tw_in (nI k) 0 (sg 14 0 7 - 1))) 0 = 0)))]) rfl ?_
            refine lv_if_ne (tgt := 89) hx hb dX4_claim_84 (by decide) (fun c_84 => ?_) (fun c_84 => ?_)
            · exfalso; have hz := tw_dec1 c_84; rw [tw_b_1 c_7] at hz; exact absurd hz (by decide)
            · refine lv_iconst (v := 0) hx hb dX4_claim_87 (by decide) ?_
              exact kx_ri F hr hlocks hW hS (by first | exact Nat.le_of_ble_eq_true rfl | omega) (by first | exact Nat.le_of_ble_eq_true rfl | omega) (Or.inr (Or.inl ⟨k, hk, rfl, Or.inr (Or.inr ⟨m9, by rw [en9]; exact em9, tw_ge2 c_69⟩), rfl, tm_Q_cs (by rw [tw_b_1 c_7]; decide) f9 g9⟩)) dX4_claim_88
          · refine lv_iconst (v := 1) hx hb dX4_claim_72 (by decide) ?_
            refine lv_goto (tgt := 77) hx hb dX4_claim_73 (by decide) ?_
            refine lv_istore_n (lv' := [(3, .int 1), (2, .int (tw_b (tw_in (nI k) 0 (sg 14 0 7 - 1)))), (0, .ref (ad 14 0)), (1, .int (nI k))]) hx hb dX4_claim_77 rfl hl (by decide) rfl (fun ls hl => ?_)
            refine lv_aload_n hx hb dX4_claim_78 rfl (lv_at hl 2 rfl) ?_
            refine lv_iload_n hx hb dX4_claim_79 rfl (lv_at hl 1 rfl) ?_
            refine lv_iload_n hx hb dX4_claim_80 rfl (lv_at hl 0 rfl) ?_
            refine kx_cV (na := 2) F (q := 14) (n := 0) (c_X4_asked_ l G z0 ad nb (kx_up (kx_up sg 30 0 f9) 31 0 g9) (tw_b (tw_in (nI k) 0 (sg 14 0 7 - 1))) 1) gX4_claim_X4_asked_ rfl (by decide +kernel) ⟨Nat.le_of_ble_eq_true rfl, Nat.le_of_ble_eq_true rfl⟩ hW hS ⟨by decide, rfl⟩ rfl rfl (As := [.int (tw_b (tw_in (nI k) 0 (sg 14 0 7 - 1))), .int 1]) (rest := []) rfl hl.1 rfl (Nat.le_of_ble_eq_true rfl) dX4_claim_81 ⟨by first | exact Nat.le_of_ble_eq_true rfl | omega, by first | exact Nat.le_of_ble_eq_true rfl | omega⟩ (fun r9 sg9 H locs hq hW hS => ?_)
            obtain ⟨rfl, e9⟩ := hq
            rw [e9] at hW
            have hW : kx_Wd G z0 ad nb (kx_up (kx_up (kx_up sg 30 0 f9) 31 0 g9) 14 0 (upd (sg 14 0) 22 (tw_a2 (tw_b (tw_in (nI k) 0 (sg 14 0 7 - 1))) 1))) H := by first | exact hW | (simp only [kx_up_s, kx_up_up] at hW; exact hW) | (simp only [kx_up_s, kx_up_up, upd_s] at hW; exact hW)
            refine W.eq (g2 := F0 m 84 ls [.int (tw_b (decide (tw_a2 (tw_b (tw_in (nI k) 0 (sg 14 0 7 - 1))) 1 = 0)))]) rfl ?_
            refine lv_if_ne (tgt := 89) hx hb dX4_claim_84 (by decide) (fun c_84 => ?_) (fun c_84 => ?_)
            · have hT9 : tw_a2 (tw_b (tw_in (nI k) 0 (sg 14 0 7 - 1))) 1 = 0 := tw_dec1 c_84
              rw [hT9] at hW
              refine lv_aload_n hx hb dX4_claim_89 rfl (lv_at hl 2 rfl) ?_
              refine kx_g F inX4 hW 14 0 ⟨by decide, rfl⟩ rfl rfl 4 (by decide) L_19 (v := .ref (ad 18 0)) rfl dX4_claim_90 ?_
              refine lv_iload_n hx hb dX4_claim_93 rfl (lv_at hl 3 rfl) ?_
              refine lv_iconst (v := 1) hx hb dX4_claim_94 (by decide) ?_
              refine kx_zast F hW hS 18 0 ⟨by decide, rfl⟩ rfl k (by omega) (by decide) (x := 1) rfl rfl dX4_claim_95 (fun H locs hW hS => ?_)
              have er9 : (kx_up (kx_up (kx_up sg 30 0 f9) 31 0 g9) 14 0 (upd (sg 14 0) 22 0)) 18 0 = sg 18 0 := by first | rfl | (simp only [kx_up_s]; done) | (simp [kx_up]; done)
              rw [er9] at hW
              have hW : kx_Wd G z0 ad nb (kx_up (kx_up (kx_up (kx_up sg 30 0 f9) 31 0 g9) 14 0 (upd (sg 14 0) 22 0)) 18 0 (upd (sg 18 0) k 1)) H := hW
              refine lv_aload_n hx hb dX4_claim_96 rfl (lv_at hl 2 rfl) ?_
              refine lv_dup hx hb dX4_claim_97 rfl ?_
              refine kx_g F inX4 hW 14 0 ⟨by decide, rfl⟩ rfl rfl 18 (by decide) L_91 (v := .int (sg 14 0 18)) (by first | rfl | (simp only [kx_up_s]; done) | (simp only [kx_up_s, upd_s]; done) | (simp only [kx_up_s]; rfl) | (simp [kx_up, upd]; done)) dX4_claim_98 ?_
              refine lv_aload_n hx hb dX4_claim_101 rfl (lv_at hl 2 rfl) ?_
              refine kx_g F inX4 hW 14 0 ⟨by decide, rfl⟩ rfl rfl 2 (by decide) L_13 (v := .ref (ad 16 0)) rfl dX4_claim_102 ?_
              refine lv_iload_n hx hb dX4_claim_105 rfl (lv_at hl 3 rfl) ?_
              refine kx_ald F hW 16 0 ⟨by decide, rfl⟩ rfl k (by omega) (by decide) (v := sg 16 0 k) (by first | rfl | (simp only [kx_up_s]; done) | (simp only [kx_up_s, upd_s]; done) | (simp only [kx_up_s]; rfl) | (simp [kx_up, upd]; done)) dX4_claim_106 ?_
              refine lv_iadd hx hb dX4_claim_107 ?_
              refine kx_p F inX4 tyX4 tyX4_ok nmX4 hW hS 14 0 ⟨by decide, rfl⟩ rfl rfl 18 (by decide) L_91 rfl (v := .int ((sg 14 0 18) + (sg 16 0 k))) rfl rfl (Nat.le_of_ble_eq_true rfl) (upd ((kx_up (kx_up (kx_up (kx_up sg 30 0 f9) 31 0 g9) 14 0 (upd (sg 14 0) 22 0)) 18 0 (upd (sg 18 0) k 1)) 14 0) 18 ((sg 14 0 18) + (sg 16 0 k))) rfl dX4_claim_108 (fun H locs hW hS => ?_)
              have er9 : (kx_up (kx_up (kx_up (kx_up sg 30 0 f9) 31 0 g9) 14 0 (upd (sg 14 0) 22 0)) 18 0 (upd (sg 18 0) k 1)) 14 0 = upd (sg 14 0) 22 0 := by first | rfl | (simp only [kx_up_s]; done) | (simp [kx_up]; done)
              rw [er9] at hW
              have hW : kx_Wd G z0 ad nb (kx_up (kx_up (kx_up (kx_up (kx_up sg 30 0 f9) 31 0 g9) 14 0 (upd (sg 14 0) 22 0)) 18 0 (upd (sg 18 0) k 1)) 14 0 (upd (upd (sg 14 0) 22 0) 18 ((sg 14 0 18) + (sg 16 0 k)))) H := hW
              refine lv_aload_n hx hb dX4_claim_111 rfl (lv_at hl 2 rfl) ?_
              refine lv_dup hx hb dX4_claim_112 rfl ?_
              refine kx_g F inX4 hW 14 0 ⟨by decide, rfl⟩ rfl rfl 19 (by decide) L_94 (v := .int (sg 14 0 19)) (by first | rfl | (simp only [kx_up_s]; done) | (simp only [kx_up_s, upd_s]; done) | (simp only [kx_up_s]; rfl) | (simp [kx_up, upd]; done)) dX4_claim_113 ?_
              refine lv_iconst (v := 1) hx hb dX4_claim_116 (by decide) ?_
              refine lv_iadd hx hb dX4_claim_117 ?_
              refine kx_p F inX4 tyX4 tyX4_ok nmX4 hW hS 14 0 ⟨by decide, rfl⟩ rfl rfl 19 (by decide) L_94 rfl (v := .int ((sg 14 0 19) + 1)) rfl rfl (Nat.le_of_ble_eq_true rfl) (upd ((kx_up (kx_up (kx_up (kx_up (kx_up sg 30 0 f9) 31 0 g9) 14 0 (upd (sg 14 0) 22 0)) 18 0 (upd (sg 18 0) k 1)) 14 0 (upd (upd (sg 14 0) 22 0) 18 ((sg 14 0 18) + (sg 16 0 k)))) 14 0) 19 ((sg 14 0 19) + 1)) rfl dX4_claim_118 (fun H locs hW hS => ?_)
              have er9 : (kx_up (kx_up (kx_up (kx_up (kx_up sg 30 0 f9) 31 0 g9) 14 0 (upd (sg 14 0) 22 0)) 18 0 (upd (sg 18 0) k 1)) 14 0 (upd (upd (sg 14 0) 22 0) 18 ((sg 14 0 18) + (sg 16 0 k)))) 14 0 = upd (upd (sg 14 0) 22 0) 18 ((sg 14 0 18) + (sg 16 0 k)) := by first | rfl | (simp only [kx_up_s]; done) | (simp [kx_up]; done)
              rw [er9] at hW
              rw [kx_up_up] at hW
              have hW : kx_Wd G z0 ad nb (kx_up (kx_up (kx_up (kx_up (kx_up sg 30 0 f9) 31 0 g9) 14 0 (upd (sg 14 0) 22 0)) 18 0 (upd (sg 18 0) k 1)) 14 0 (upd (upd (upd (sg 14 0) 22 0) 18 ((sg 14 0 18) + (sg 16 0 k))) 19 ((sg 14 0 19) + 1))) H := hW
              refine lv_aload_n hx hb dX4_claim_121 rfl (lv_at hl 2 rfl) ?_
              refine kx_g F inX4 hW 14 0 ⟨by decide, rfl⟩ rfl rfl 2 (by decide) L_13 (v := .ref (ad 16 0)) rfl dX4_claim_122 ?_
              refine lv_iload_n hx hb dX4_claim_125 rfl (lv_at hl 3 rfl) ?_
              refine kx_ald F hW 16 0 ⟨by decide, rfl⟩ rfl k (by omega) (by decide) (v := sg 16 0 k) (by first | rfl | (simp only [kx_up_s]; done) | (simp only [kx_up_s, upd_s]; done) | (simp only [kx_up_s]; rfl) | (simp [kx_up, upd]; done)) dX4_claim_126 ?_
              exact kx_ri F hr hlocks hW hS (by first | exact Nat.le_of_ble_eq_true rfl | omega) (by first | exact Nat.le_of_ble_eq_true rfl | omega) (Or.inr (Or.inr ⟨k, hk, rfl, Classical.not_not.mp (fun h => h c_16), by rw [en9]; exact c_31, Or.inr ⟨m9, by rw [en9]; exact em9, tw_nlt c_69⟩, rfl, fun q m h1 h2 h3 h4 => by simp [kx_up, h1, h2, h3, h4], by simp [kx_up], by simp [kx_up]⟩)) dX4_claim_127
            · exfalso; have hz := tw_dec0 c_84; rw [tw_b_1 c_7] at hz; exact absurd (by decide) hz
