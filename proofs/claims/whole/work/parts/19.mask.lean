set_option maxHeartbeats 4000000 in
set_option maxRecDepth 100000 in
theorem c_X4_time (l : Launch) (G : kx_G) (z0 : Nat) (ad : kx_A) (nb : Nat) (sg : kx_S) (mb : Nat) (hwf : tm_WF mb sg)  : kx_M l yX4_time wsX4_time 1 21 0 0 G z0 ad nb sg [.ref (ad 14 0)] (fun r sg' => r = some (.int (sg 14 0 0)) ∧ tm_Q sg sg' 0) := by
  refine Met.ofW (cc := cX4_time) (maxL := 1) (ret := (some .int)) (by decide) rfl ?_
  intro p e s m args below meth c s₁ B hml hv
  obtain ⟨rfl, hW, hV⟩ := hv
  have hts := atoms_spec (ws := wsX4_time) B.pre
  have F : kx_F p s m c cX4_time 1 RX4 _ wsX4_time G z0 := ⟨B.exec, B.bytes, hml, findClass_of_methodNamed B.named, hts, hV⟩
  have hx := B.exec; have hb := B.bytes; have hr := B.returns; have hlocks := B.notSynchronized
  have hS : va_S (kx_Ad z0) s.heap s.heap [] := va_S.rf
  have hmb16 := hwf.2.1
  have L_107 : Cond.fieldLink RX4 107 (TX4 0).1 (TX4 0).2.1 (TX4 0).2.2.1 ∈ wsX4_time := by decide +kernel
  have inX4 : ∀ w ∈ u_ws RX4 TX4 23, w ∈ wsX4_time := by decide +kernel
  have hl := lv_entry ([.ref (ad 14 0)]) (n := 1) (Nat.le_of_ble_eq_true rfl)
  rw [lg_entry_eq]
  generalize (lg_sl ([.ref (ad 14 0)]) ++ List.replicate (1 - (lg_sl ([.ref (ad 14 0)])).length) Slot.unset).toArray = ls at hl ⊢
  have hl : lv_has ls 1 [(0, .ref (ad 14 0))] := hl
  refine lv_aload_n hx hb dX4_time_0 rfl (lv_at hl 0 rfl) ?_
  refine lv_aload_n hx hb dX4_time_1 rfl (lv_at hl 0 rfl) ?_
  refine kx_g F inX4 hW 14 0 ⟨by decide, rfl⟩ rfl rfl 0 (by decide) L_107 (v := .int (sg 14 0 0)) rfl dX4_time_2 ?_
  refine kx_cV (na := 1) F (q := 14) (n := 0) (c_X4_told l G z0 ad nb sg (sg 14 0 0)) gX4_time_X4_told rfl (by decide +kernel) ⟨Nat.le_of_ble_eq_true rfl, Nat.le_of_ble_eq_true rfl⟩ hW hS ⟨by decide, rfl⟩ rfl rfl (As := [.int (sg 14 0 0)]) (rest := []) rfl hl.1 rfl (Nat.le_of_ble_eq_true rfl) dX4_time_5 ⟨by first | exact Nat.le_of_ble_eq_true rfl | omega, by first | exact Nat.le_of_ble_eq_true rfl | omega⟩ (fun r9 sg9 H locs hq hW hS => ?_)
  obtain ⟨rfl, e9⟩ := hq
  rw [e9] at hW
  have hW : kx_Wd G z0 ad nb (kx_up sg 14 0 (upd (sg 14 0) 22 0)) H := by first | exact hW | (simp only [kx_up_s, kx_up_up] at hW; exact hW) | (simp only [kx_up_s, kx_up_up, upd_s] at hW; exact hW)
  refine W.eq (g2 := F0 m 8 ls [.int (sg 14 0 0)]) rfl ?_
  exact kx_ri F hr hlocks hW hS (by first | exact Nat.le_of_ble_eq_true rfl | omega) (by first | exact Nat.le_of_ble_eq_true rfl | omega) (⟨rfl, tm_Q_th rfl⟩) dX4_time_8

set_option maxHeartbeats 4000000 in
set_option maxRecDepth 100000 in
theorem c_X4_boxes (l : Launch) (G : kx_G) (z0 : Nat) (ad : kx_A) (nb : Nat) (sg : kx_S) (mb : Nat) (hwf : tm_WF mb sg)  : kx_M l yX4_boxes wsX4_boxes 1 21 0 0 G z0 ad nb sg [.ref (ad 14 0)] (fun r sg' => r = some (.int (sg 14 0 7)) ∧ tm_Q sg sg' 0) := by
  refine Met.ofW (cc := cX4_boxes) (maxL := 1) (ret := (some .int)) (by decide) rfl ?_
  intro p e s m args below meth c s₁ B hml hv
  obtain ⟨rfl, hW, hV⟩ := hv
  have hts := atoms_spec (ws := wsX4_boxes) B.pre
  have F : kx_F p s m c cX4_boxes 1 RX4 _ wsX4_boxes G z0 := ⟨B.exec, B.bytes, hml, findClass_of_methodNamed B.named, hts, hV⟩
  have hx := B.exec; have hb := B.bytes; have hr := B.returns; have hlocks := B.notSynchronized
  have hS : va_S (kx_Ad z0) s.heap s.heap [] := va_S.rf
  have hmb16 := hwf.2.1
  have L_66 : Cond.fieldLink RX4 66 (TX4 7).1 (TX4 7).2.1 (TX4 7).2.2.1 ∈ wsX4_boxes := by decide +kernel
  have inX4 : ∀ w ∈ u_ws RX4 TX4 23, w ∈ wsX4_boxes := by decide +kernel
  have hl := lv_entry ([.ref (ad 14 0)]) (n := 1) (Nat.le_of_ble_eq_true rfl)
  rw [lg_entry_eq]
  generalize (lg_sl ([.ref (ad 14 0)]) ++ List.replicate (1 - (lg_sl ([.ref (ad 14 0)])).length) Slot.unset).toArray = ls at hl ⊢
  have hl : lv_has ls 1 [(0, .ref (ad 14 0))] := hl
  refine lv_aload_n hx hb dX4_boxes_0 rfl (lv_at hl 0 rfl) ?_
  refine lv_aload_n hx hb dX4_boxes_1 rfl (lv_at hl 0 rfl) ?_
  refine kx_g F inX4 hW 14 0 ⟨by decide, rfl⟩ rfl rfl 7 (by decide) L_66 (v := .int (sg 14 0 7)) rfl dX4_boxes_2 ?_
  refine kx_cV (na := 1) F (q := 14) (n := 0) (c_X4_told l G z0 ad nb sg (sg 14 0 7)) gX4_boxes_X4_told rfl (by decide +kernel) ⟨Nat.le_of_ble_eq_true rfl, Nat.le_of_ble_eq_true rfl⟩ hW hS ⟨by decide, rfl⟩ rfl rfl (As := [.int (sg 14 0 7)]) (rest := []) rfl hl.1 rfl (Nat.le_of_ble_eq_true rfl) dX4_boxes_5 ⟨by first | exact Nat.le_of_ble_eq_true rfl | omega, by first | exact Nat.le_of_ble_eq_true rfl | omega⟩ (fun r9 sg9 H locs hq hW hS => ?_)
  obtain ⟨rfl, e9⟩ := hq
  rw [e9] at hW
  have hW : kx_Wd G z0 ad nb (kx_up sg 14 0 (upd (sg 14 0) 22 0)) H := by first | exact hW | (simp only [kx_up_s, kx_up_up] at hW; exact hW) | (simp only [kx_up_s, kx_up_up, upd_s] at hW; exact hW)
  refine W.eq (g2 := F0 m 8 ls [.int (sg 14 0 7)]) rfl ?_
  exact kx_ri F hr hlocks hW hS (by first | exact Nat.le_of_ble_eq_true rfl | omega) (by first | exact Nat.le_of_ble_eq_true rfl | omega) (⟨rfl, tm_Q_th rfl⟩) dX4_boxes_8

set_option maxHeartbeats 4000000 in
set_option maxRecDepth 100000 in
theorem c_X4_insurers (l : Launch) (G : kx_G) (z0 : Nat) (ad : kx_A) (nb : Nat) (sg : kx_S) (mb : Nat) (hwf : tm_WF mb sg)  : kx_M l yX4_insurers wsX4_insurers 1 21 0 0 G z0 ad nb sg [.ref (ad 14 0)] (fun r sg' => r = some (.int (sg 14 0 18)) ∧ tm_Q sg sg' 0) := by
  refine Met.ofW (cc := cX4_insurers) (maxL := 1) (ret := (some .int)) (by decide) rfl ?_
  intro p e s m args below meth c s₁ B hml hv
  obtain ⟨rfl, hW, hV⟩ := hv
  have hts := atoms_spec (ws := wsX4_insurers) B.pre
  have F : kx_F p s m c cX4_insurers 1 RX4 _ wsX4_insurers G z0 := ⟨B.exec, B.bytes, hml, findClass_of_methodNamed B.named, hts, hV⟩
  have hx := B.exec; have hb := B.bytes; have hr := B.returns; have hlocks := B.notSynchronized
  have hS : va_S (kx_Ad z0) s.heap s.heap [] := va_S.rf
  have hmb16 := hwf.2.1
  have L_91 : Cond.fieldLink RX4 91 (TX4 18).1 (TX4 18).2.1 (TX4 18).2.2.1 ∈ wsX4_insurers := by decide +kernel
  have inX4 : ∀ w ∈ u_ws RX4 TX4 23, w ∈ wsX4_insurers := by decide +kernel
  have hl := lv_entry ([.ref (ad 14 0)]) (n := 1) (Nat.le_of_ble_eq_true rfl)
  rw [lg_entry_eq]
  generalize (lg_sl ([.ref (ad 14 0)]) ++ List.replicate (1 - (lg_sl ([.ref (ad 14 0)])).length) Slot.unset).toArray = ls at hl ⊢
  have hl : lv_has ls 1 [(0, .ref (ad 14 0))] := hl
  refine lv_aload_n hx hb dX4_insurers_0 rfl (lv_at hl 0 rfl) ?_
  refine lv_aload_n hx hb dX4_insurers_1 rfl (lv_at hl 0 rfl) ?_
  refine kx_g F inX4 hW 14 0 ⟨by decide, rfl⟩ rfl rfl 18 (by decide) L_91 (v := .int (sg 14 0 18)) rfl dX4_insurers_2 ?_
  refine kx_cV (na := 1) F (q := 14) (n := 0) (c_X4_told l G z0 ad nb sg (sg 14 0 18)) gX4_insurers_X4_told rfl (by decide +kernel) ⟨Nat.le_of_ble_eq_true rfl, Nat.le_of_ble_eq_true rfl⟩ hW hS ⟨by decide, rfl⟩ rfl rfl (As := [.int (sg 14 0 18)]) (rest := []) rfl hl.1 rfl (Nat.le_of_ble_eq_true rfl) dX4_insurers_5 ⟨by first | exact Nat.le_of_ble_eq_true rfl | omega, by first | exact Nat.le_of_ble_eq_true rfl | omega⟩ (fun r9 sg9 H locs hq hW hS => ?_)
  obtain ⟨rfl, e9⟩ := hq
  rw [e9] at hW
  have hW : kx_Wd G z0 ad nb (kx_up sg 14 0 (upd (sg 14 0) 22 0)) H := by first | exact hW | (simp only [kx_up_s, kx_up_up] at hW; exact hW) | (simp only [kx_up_s, kx_up_up, upd_s] at hW; exact hW)
  refine W.eq (g2 := F0 m 8 ls [.int (sg 14 0 18)]) rfl ?_
  exact kx_ri F hr hlocks hW hS (by first | exact Nat.le_of_ble_eq_true rfl | omega) (by first | exact Nat.le_of_ble_eq_true rfl | omega) (⟨rfl, tm_Q_th rfl⟩) dX4_insurers_8

set_option maxHeartbeats 4000000 in
set_option maxRecDepth 100000 in
theorem c_X4_entries (l : Launch) (G : kx_G) (z0 : Nat) (ad : kx_A) (nb : Nat) (sg : kx_S) (mb : Nat) (hwf : tm_WF mb sg)  : kx_M l yX4_entries wsX4_entries 1 21 0 0 G z0 ad nb sg [.ref (ad 14 0)] (fun r sg' => r = some (.int (sg 14 0 19)) ∧ tm_Q sg sg' 0) := by
  refine Met.ofW (cc := cX4_entries) (maxL := 1) (ret := (some .int)) (by decide) rfl ?_
  intro p e s m args below meth c s₁ B hml hv
  obtain ⟨rfl, hW, hV⟩ := hv
  have hts := atoms_spec (ws := wsX4_entries) B.pre
  have F : kx_F p s m c cX4_entries 1 RX4 _ wsX4_entries G z0 := ⟨B.exec, B.bytes, hml, findClass_of_methodNamed B.named, hts, hV⟩
  have hx := B.exec; have hb := B.bytes; have hr := B.returns; have hlocks := B.notSynchronized
  have hS : va_S (kx_Ad z0) s.heap s.heap [] := va_S.rf
  have hmb16 := hwf.2.1
  have L_94 : Cond.fieldLink RX4 94 (TX4 19).1 (TX4 19).2.1 (TX4 19).2.2.1 ∈ wsX4_entries := by decide +kernel
  have inX4 : ∀ w ∈ u_ws RX4 TX4 23, w ∈ wsX4_entries := by decide +kernel
  have hl := lv_entry ([.ref (ad 14 0)]) (n := 1) (Nat.le_of_ble_eq_true rfl)
  rw [lg_entry_eq]
  generalize (lg_sl ([.ref (ad 14 0)]) ++ List.replicate (1 - (lg_sl ([.ref (ad 14 0)])).length) Slot.unset).toArray = ls at hl ⊢
  have hl : lv_has ls 1 [(0, .ref (ad 14 0))] := hl
  refine lv_aload_n hx hb dX4_entries_0 rfl (lv_at hl 0 rfl) ?_
  refine lv_aload_n hx hb dX4_entries_1 rfl (lv_at hl 0 rfl) ?_
  refine kx_g F inX4 hW 14 0 ⟨by decide, rfl⟩ rfl rfl 19 (by decide) L_94 (v := .int (sg 14 0 19)) rfl dX4_entries_2 ?_
  refine kx_cV (na := 1) F (q := 14) (n := 0) (c_X4_told l G z0 ad nb sg (sg 14 0 19)) gX4_entries_X4_told rfl (by decide +kernel) ⟨Nat.le_of_ble_eq_true rfl, Nat.le_of_ble_eq_true rfl⟩ hW hS ⟨by decide, rfl⟩ rfl rfl (As := [.int (sg 14 0 19)]) (rest := []) rfl hl.1 rfl (Nat.le_of_ble_eq_true rfl) dX4_entries_5 ⟨by first | exact Nat.le_of_ble_eq_true rfl | omega, by first | exact Nat.le_of_ble_eq_true rfl | omega⟩ (fun r9 sg9 H locs hq hW hS => ?_)
  obtain ⟨rfl, e9⟩ := hq
  rw [e9] at hW
  have hW : kx_Wd G z0 ad nb (kx_up sg 14 0 (upd (sg 14 0) 22 0)) H := by first | exact hW | (simp only [kx_up_s, kx_up_up] at hW; exact hW) | (simp only [kx_up_s, kx_up_up, upd_s] at hW; exact hW)
  refine W.eq (g2 := F0 m 8 ls [.int (sg 14 0 19)]) rfl ?_
  exact kx_ri F hr hlocks hW hS (by first | exact Nat.le_of_ble_eq_true rfl | omega) (by first | exact Nat.le_of_ble_eq_true rfl | omega) (⟨rfl, tm_Q_th rfl⟩) dX4_entries_8

set_option maxHeartbeats 4000000 in
set_option maxRecDepth 100000 in
theorem c_X4_scans (l : Launch) (G : kx_G) (z0 : Nat) (ad : kx_A) (nb : Nat) (sg : kx_S) (mb : Nat) (hwf : tm_WF mb sg) (x : Int32) : kx_M l yX4_scans wsX4_scans 2 43 0 0 G z0 ad nb sg [.ref (ad 14 0), .int x] (fun r sg' => ((∀ k, k < mb → ¬ x = nI k) ∧ r = some (.int 0) ∧ tm_Q sg sg' 1) ∨ (∃ k : Nat, k < mb ∧ x = nI k ∧ r = some (.int (sg 17 0 k)) ∧ tm_Q sg sg' 0)) := by
  refine Met.ofW (cc := cX4_scans) (maxL := 2) (ret := (some .int)) (by decide) rfl ?_
  intro p e s m args below meth c s₁ B hml hv
  obtain ⟨rfl, hW, hV⟩ := hv
  have hts := atoms_spec (ws := wsX4_scans) B.pre
  have F : kx_F p s m c cX4_scans 2 RX4 _ wsX4_scans G z0 := ⟨B.exec, B.bytes, hml, findClass_of_methodNamed B.named, hts, hV⟩
  have hx := B.exec; have hb := B.bytes; have hr := B.returns; have hlocks := B.notSynchronized
  have hS : va_S (kx_Ad z0) s.heap s.heap [] := va_S.rf
  have hmb16 := hwf.2.1
  have L_16 : Cond.fieldLink RX4 16 (TX4 3).1 (TX4 3).2.1 (TX4 3).2.2.1 ∈ wsX4_scans := by decide +kernel
  have inX4 : ∀ w ∈ u_ws RX4 TX4 23, w ∈ wsX4_scans := by decide +kernel
  have hl := lv_entry ([.ref (ad 14 0), .int x]) (n := 2) (Nat.le_of_ble_eq_true rfl)
  rw [lg_entry_eq]
  generalize (lg_sl ([.ref (ad 14 0), .int x]) ++ List.replicate (2 - (lg_sl ([.ref (ad 14 0), .int x])).length) Slot.unset).toArray = ls at hl ⊢
  have hl : lv_has ls 2 [(0, .ref (ad 14 0)), (1, .int x)] := hl
  refine lv_aload_n hx hb dX4_scans_0 rfl (lv_at hl 0 rfl) ?_
  refine lv_aload_n hx hb dX4_scans_1 rfl (lv_at hl 0 rfl) ?_
  refine lv_iload_n hx hb dX4_scans_2 rfl (lv_at hl 1 rfl) ?_
  refine kx_cV (na := 1) F (q := 14) (n := 0) (c_X4_isBox l G z0 ad nb sg x) gX4_scans_X4_isBox rfl (by decide +kernel) ⟨Nat.le_of_ble_eq_true rfl, Nat.le_of_ble_eq_true rfl⟩ hW hS ⟨by decide, rfl⟩ rfl rfl (As := [.int x]) (rest := [.ref (ad 14 0)]) rfl hl.1 rfl (Nat.le_of_ble_eq_true rfl) dX4_scans_3 ⟨by first | exact Nat.le_of_ble_eq_true rfl | omega, by first | exact Nat.le_of_ble_eq_true rfl | omega⟩ (fun r9 sg9 H locs hq hW hS => ?_)
  obtain ⟨rfl, e9⟩ := hq
  rw [e9] at hW
  refine W.eq (g2 := F0 m 6 ls [.int (tw_b (tw_in x 0 (sg 14 0 7 - 1))), .ref (ad 14 0)]) rfl ?_
  refine kx_cV (na := 1) F (q := 14) (n := 0) (c_X4_asked l G z0 ad nb sg (tw_b (tw_in x 0 (sg 14 0 7 - 1))) (tw_b_01 _)) gX4_scans_X4_asked rfl (by decide +kernel) ⟨Nat.le_of_ble_eq_true rfl, Nat.le_of_ble_eq_true rfl⟩ hW hS ⟨by decide, rfl⟩ rfl rfl (As := [.int (tw_b (tw_in x 0 (sg 14 0 7 - 1)))]) (rest := []) rfl hl.1 rfl (Nat.le_of_ble_eq_true rfl) dX4_scans_6 ⟨by first | exact Nat.le_of_ble_eq_true rfl | omega, by first | exact Nat.le_of_ble_eq_true rfl | omega⟩ (fun r9 sg9 H locs hq hW hS => ?_)
  obtain ⟨rfl, e9⟩ := hq
  rw [e9] at hW
  have hW : kx_Wd G z0 ad nb (kx_up sg 14 0 (upd (sg 14 0) 22 (tw_a1 (tw_b (tw_in x 0 (sg 14 0 7 - 1)))))) H := by first | exact hW | (simp only [kx_up_s, kx_up_up] at hW; exact hW) | (simp only [kx_up_s, kx_up_up, upd_s] at hW; exact hW)
  refine W.eq (g2 := F0 m 9 ls [.int (tw_b (tw_in x 0 (sg 14 0 7 - 1)))]) rfl ?_
  refine lv_if_eq (tgt := 21) hx hb dX4_scans_9 (by decide) (fun c_9 => ?_) (fun c_9 => ?_)
  · refine lv_iconst (v := 0) hx hb dX4_scans_21 (by decide) ?_
    exact kx_ri F hr hlocks hW hS (by first | exact Nat.le_of_ble_eq_true rfl | omega) (by first | exact Nat.le_of_ble_eq_true rfl | omega) (Or.inl ⟨tw_nobox hwf (tw_b_0 c_9), rfl, tm_Q_th (if_pos c_9)⟩) dX4_scans_22
  · obtain ⟨k, hk, rfl⟩ := tw_isbox hwf (tw_b_1 c_9)
    have hT9 : tw_a1 (tw_b (tw_in (nI k) 0 (sg 14 0 7 - 1))) = 0 := if_neg c_9
    rw [hT9] at hW
    obtain ⟨n9, hn9, h129, hwho9⟩ := hwf.2.2.1 k hk
    have en9 := tm_n_eq hn9 h129
    refine lv_aload_n hx hb dX4_scans_12 rfl (lv_at hl 0 rfl) ?_
    refine kx_g F inX4 hW 14 0 ⟨by decide, rfl⟩ rfl rfl 3 (by decide) L_16 (v := .ref (ad 17 0)) rfl dX4_scans_13 ?_
    refine lv_iload_n hx hb dX4_scans_16 rfl (lv_at hl 1 rfl) ?_
    refine kx_ald F hW 17 0 ⟨by decide, rfl⟩ rfl k (by omega) (by decide) (v := sg 17 0 k) (by first | rfl | (simp only [kx_up_s]; done) | (simp only [kx_up_s, upd_s]; done) | (simp only [kx_up_s]; rfl) | (simp [kx_up, upd]; done)) dX4_scans_17 ?_
    refine lv_goto (tgt := 22) hx hb dX4_scans_18 (by decide) ?_
    exact kx_ri F hr hlocks hW hS (by first | exact Nat.le_of_ble_eq_true rfl | omega) (by first | exact Nat.le_of_ble_eq_true rfl | omega) (Or.inr ⟨k, hk, rfl, rfl, tm_Q_th rfl⟩) dX4_scans_22

set_option maxHeartbeats 8000000 in
set_option maxRecDepth 100000 in
theorem c_X4_story (l : Launch) (G : kx_G) (z0 : Nat) (ad : kx_A) (nb : Nat) (sg : kx_S) (mb : Nat) (hwf : tm_WF mb sg) (x : Int32) : kx_M l yX4_story wsX4_story 3 72 0 0 G z0 ad nb sg [.ref (ad 14 0), .int x] (fun r sg' => ((∀ k, k < mb → ¬ x = nI k) ∧ r = some (.int 0) ∧ tm_Q sg sg' 1) ∨ (∃ k : Nat, k < mb ∧ x = nI k ∧ r = some (.int (tm_st sg k (tm_n sg k))) ∧ tm_Q sg sg' 0)) := by
  refine Met.ofW (cc := cX4_story) (maxL := 2) (ret := (some .int)) (by decide) rfl ?_
  intro p e s m args below meth c s₁ B hml hv
  obtain ⟨rfl, hW, hV⟩ := hv
  have hts := atoms_spec (ws := wsX4_story) B.pre
  have F : kx_F p s m c cX4_story 2 RX4 _ wsX4_story G z0 := ⟨B.exec, B.bytes, hml, findClass_of_methodNamed B.named, hts, hV⟩
  have hx := B.exec; have hb := B.bytes; have hr := B.returns; have hlocks := B.notSynchronized
  have hS : va_S (kx_Ad z0) s.heap s.heap [] := va_S.rf
  have hmb16 := hwf.2.1
  have hl := lv_entry ([.ref (ad 14 0), .int x]) (n := 2) (Nat.le_of_ble_eq_true rfl)
  rw [lg_entry_eq]
  generalize (lg_sl ([.ref (ad 14 0), .int x]) ++ List.replicate (2 - (lg_sl ([.ref (ad 14 0), .int x])).length) Slot.unset).toArray = ls at hl ⊢
  have hl : lv_has ls 2 [(0, .ref (ad 14 0)), (1, .int x)] := hl
  refine lv_aload_n hx hb dX4_story_0 rfl (lv_at hl 0 rfl) ?_
  refine lv_aload_n hx hb dX4_story_1 rfl (lv_at hl 0 rfl) ?_
  refine lv_iload_n hx hb dX4_story_2 rfl (lv_at hl 1 rfl) ?_
  refine kx_cV (na := 1) F (q := 14) (n := 0) (c_X4_isBox l G z0 ad nb sg x) gX4_story_X4_isBox rfl (by decide +kernel) ⟨Nat.le_of_ble_eq_true rfl, Nat.le_of_ble_eq_true rfl⟩ hW hS ⟨by decide, rfl⟩ rfl rfl (As := [.int x]) (rest := [.ref (ad 14 0)]) rfl hl.1 rfl (Nat.le_of_ble_eq_true rfl) dX4_story_3 ⟨by first | exact Nat.le_of_ble_eq_true rfl | omega, by first | exact Nat.le_of_ble_eq_true rfl | omega⟩ (fun r9 sg9 H locs hq hW hS => ?_)
  obtain ⟨rfl, e9⟩ := hq
  rw [e9] at hW
  refine W.eq (g2 := F0 m 6 ls [.int (tw_b (tw_in x 0 (sg 14 0 7 - 1))), .ref (ad 14 0)]) rfl ?_
  refine kx_cV (na := 1) F (q := 14) (n := 0) (c_X4_asked l G z0 ad nb sg (tw_b (tw_in x 0 (sg 14 0 7 - 1))) (tw_b_01 _)) gX4_story_X4_asked rfl (by decide +kernel) ⟨Nat.le_of_ble_eq_true rfl, Nat.le_of_ble_eq_true rfl⟩ hW hS ⟨by decide, rfl⟩ rfl rfl (As := [.int (tw_b (tw_in x 0 (sg 14 0 7 - 1)))]) (rest := []) rfl hl.1 rfl (Nat.le_of_ble_eq_true rfl) dX4_story_6 ⟨by first | exact Nat.le_of_ble_eq_true rfl | omega, by first | exact Nat.le_of_ble_eq_true rfl | omega⟩ (fun r9 sg9 H locs hq hW hS => ?_)
  obtain ⟨rfl, e9⟩ := hq
  rw [e9] at hW
  have hW : kx_Wd G z0 ad nb (kx_up sg 14 0 (upd (sg 14 0) 22 (tw_a1 (tw_b (tw_in x 0 (sg 14 0 7 - 1)))))) H := by first | exact hW | (simp only [kx_up_s, kx_up_up] at hW; exact hW) | (simp only [kx_up_s, kx_up_up, upd_s] at hW; exact hW)
  refine W.eq (g2 := F0 m 9 ls [.int (tw_b (tw_in x 0 (sg 14 0 7 - 1)))]) rfl ?_
  refine lv_if_eq (tgt := 20) hx hb dX4_story_9 (by decide) (fun c_9 => ?_) (fun c_9 => ?_)
  · refine lv_iconst (v := 0) hx hb dX4_story_20 (by decide) ?_
    exact kx_ri F hr hlocks hW hS (by first | exact Nat.le_of_ble_eq_true rfl | omega) (by first | exact Nat.le_of_ble_eq_true rfl | omega) (Or.inl ⟨tw_nobox hwf (tw_b_0 c_9), rfl, tm_Q_th (if_pos c_9)⟩) dX4_story_21
  · obtain ⟨k, hk, rfl⟩ := tw_isbox hwf (tw_b_1 c_9)
    have hT9 : tw_a1 (tw_b (tw_in (nI k) 0 (sg 14 0 7 - 1))) = 0 := if_neg c_9
    rw [hT9] at hW
    obtain ⟨n9, hn9, h129, hwho9⟩ := hwf.2.2.1 k hk
    have en9 := tm_n_eq hn9 h129
    refine lv_aload_n hx hb dX4_story_12 rfl (lv_at hl 0 rfl) ?_
    refine lv_iload_n hx hb dX4_story_13 rfl (lv_at hl 1 rfl) ?_
    refine kx_cV (na := 1) F (q := 14) (n := 0) (c_X4_storyOf l G z0 ad nb (kx_up sg 14 0 (upd (sg 14 0) 22 0)) k (by omega) n9 hn9 h129 hwho9 hwf.2.2.2) gX4_story_X4_storyOf rfl (by decide +kernel) ⟨Nat.le_of_ble_eq_true rfl, Nat.le_of_ble_eq_true rfl⟩ hW hS ⟨by decide, rfl⟩ rfl rfl (As := [.int (nI k)]) (rest := []) rfl hl.1 rfl (Nat.le_of_ble_eq_true rfl) dX4_story_14 ⟨by first | exact Nat.le_of_ble_eq_true rfl | omega, by first | exact Nat.le_of_ble_eq_true rfl | omega⟩ (fun r9 sg9 H locs hq hW hS => ?_)
    have hq : r9 = some (.int (tm_st sg k n9)) ∧ ∃ f g : Nat → Int32, sg9 = kx_up (kx_up (kx_up sg 14 0 (upd (sg 14 0) 22 0)) 30 0 f) 31 0 g := hq
    obtain ⟨rfl, f9, g9, e9⟩ := hq
    rw [e9] at hW
    have hW : kx_Wd G z0 ad nb (kx_up (kx_up (kx_up sg 14 0 (upd (sg 14 0) 22 0)) 30 0 f9) 31 0 g9) H := by first | exact hW | (simp only [kx_up_s, kx_up_up] at hW; exact hW) | (simp only [kx_up_s, kx_up_up, upd_s] at hW; exact hW)
    refine W.eq (g2 := F0 m 17 ls [.int (tm_st sg k n9)]) rfl ?_
    refine lv_goto (tgt := 21) hx hb dX4_story_17 (by decide) ?_
    exact kx_ri F hr hlocks hW hS (by first | exact Nat.le_of_ble_eq_true rfl | omega) (by first | exact Nat.le_of_ble_eq_true rfl | omega) (Or.inr ⟨k, hk, rfl, by rw [en9], tm_Q_sc rfl f9 g9⟩) dX4_story_21

set_option maxHeartbeats 4000000 in
set_option maxRecDepth 100000 in
theorem c_X4_storyOfAll (l : Launch) (G : kx_G) (z0 : Nat) (ad : kx_A) (nb : Nat) (sg : kx_S) (mb : Nat) (hwf : tm_WF mb sg) (x : Int32) : kx_M l yX4_storyOfAll wsX4_storyOfAll 4 93 0 0 G z0 ad nb sg [.ref (ad 14 0), .int x] (fun r sg' => ((∀ k, k < mb → ¬ x = nI k) ∧ r = some (.int 0) ∧ tm_Q sg sg' 1) ∨ (∃ k : Nat, k < mb ∧ x = nI k ∧ r = some (.int (tm_st sg k (tm_n sg k))) ∧ tm_Q sg sg' 0)) := by
  refine Met.ofW (cc := cX4_storyOfAll) (maxL := 2) (ret := (some .int)) (by decide) rfl ?_
  intro p e s m args below meth c s₁ B hml hv
  obtain ⟨rfl, hW, hV⟩ := hv
  have hts := atoms_spec (ws := wsX4_storyOfAll) B.pre
  have F : kx_F p s m c cX4_storyOfAll 2 RX4 _ wsX4_storyOfAll G z0 := ⟨B.exec, B.bytes, hml, findClass_of_methodNamed B.named, hts, hV⟩
  have hx := B.exec; have hb := B.bytes; have hr := B.returns; have hlocks := B.notSynchronized
  have hS : va_S (kx_Ad z0) s.heap s.heap [] := va_S.rf
  have hmb16 := hwf.2.1
  have hl := lv_entry ([.ref (ad 14 0), .int x]) (n := 2) (Nat.le_of_ble_eq_true rfl)
  rw [lg_entry_eq]
  generalize (lg_sl ([.ref (ad 14 0), .int x]) ++ List.replicate (2 - (lg_sl ([.ref (ad 14 0), .int x])).length) Slot.unset).toArray = ls at hl ⊢
  have hl : lv_has ls 2 [(0, .ref (ad 14 0)), (1, .int x)] := hl
  refine lv_aload_n hx hb dX4_storyOfAll_0 rfl (lv_at hl 0 rfl) ?_
  refine lv_iload_n hx hb dX4_storyOfAll_1 rfl (lv_at hl 1 rfl) ?_
  refine kx_cV (na := 1) F (q := 14) (n := 0) (c_X4_story l G z0 ad nb sg mb hwf x) gX4_storyOfAll_X4_story rfl (by decide +kernel) ⟨Nat.le_of_ble_eq_true rfl, Nat.le_of_ble_eq_true rfl⟩ hW hS ⟨by decide, rfl⟩ rfl rfl (As := [.int x]) (rest := []) rfl hl.1 rfl (Nat.le_of_ble_eq_true rfl) dX4_storyOfAll_2 ⟨by first | exact Nat.le_of_ble_eq_true rfl | omega, by first | exact Nat.le_of_ble_eq_true rfl | omega⟩ (fun r9 sg9 H locs hq hW hS => ?_)
  obtain ⟨v9, hv9⟩ : ∃ v9 : Int32, r9 = some (.int v9) := by
    rcases hq with h | ⟨k, -, -, h, -⟩
    · exact ⟨_, h.2.1⟩
    · exact ⟨_, h⟩
  subst hv9
  have hW : kx_Wd G z0 ad nb (sg9) H := by first | exact hW | (simp only [kx_up_s, kx_up_up] at hW; exact hW) | (simp only [kx_up_s, kx_up_up, upd_s] at hW; exact hW)
  refine W.eq (g2 := F0 m 5 ls [.int v9]) rfl ?_
  exact kx_ri F hr hlocks hW hS (by first | exact Nat.le_of_ble_eq_true rfl | omega) (by first | exact Nat.le_of_ble_eq_true rfl | omega) hq dX4_storyOfAll_5

set_option maxHeartbeats 8000000 in
set_option maxRecDepth 100000 in
theorem c_X4_placeOf (l : Launch) (G : kx_G) (z0 : Nat) (ad : kx_A) (nb : Nat) (sg : kx_S) (mb : Nat) (hwf : tm_WF mb sg) (x : Int32) : kx_M l yX4_placeOf wsX4_placeOf 3 72 0 0 G z0 ad nb sg [.ref (ad 14 0), .int x] (fun r sg' => ((∀ k, k < mb → ¬ x = nI k) ∧ r = some (.int 0) ∧ tm_Q sg sg' 1) ∨ (∃ k : Nat, k < mb ∧ x = nI k ∧ r = some (.int (tw_last (tm_st sg k (tm_n sg k)) (tm_pl sg k) (tm_n sg k))) ∧ tm_Q sg sg' 0)) := by
  refine Met.ofW (cc := cX4_placeOf) (maxL := 2) (ret := (some .int)) (by decide) rfl ?_
  intro p e s m args below meth c s₁ B hml hv
  obtain ⟨rfl, hW, hV⟩ := hv
  have hts := atoms_spec (ws := wsX4_placeOf) B.pre
  have F : kx_F p s m c cX4_placeOf 2 RX4 _ wsX4_placeOf G z0 := ⟨B.exec, B.bytes, hml, findClass_of_methodNamed B.named, hts, hV⟩
  have hx := B.exec; have hb := B.bytes; have hr := B.returns; have hlocks := B.notSynchronized
  have hS : va_S (kx_Ad z0) s.heap s.heap [] := va_S.rf
  have hmb16 := hwf.2.1
  have hl := lv_entry ([.ref (ad 14 0), .int x]) (n := 2) (Nat.le_of_ble_eq_true rfl)
  rw [lg_entry_eq]
  generalize (lg_sl ([.ref (ad 14 0), .int x]) ++ List.replicate (2 - (lg_sl ([.ref (ad 14 0), .int x])).length) Slot.unset).toArray = ls at hl ⊢
  have hl : lv_has ls 2 [(0, .ref (ad 14 0)), (1, .int x)] := hl
  refine lv_aload_n hx hb dX4_placeOf_0 rfl (lv_at hl 0 rfl) ?_
  refine lv_aload_n hx hb dX4_placeOf_1 rfl (lv_at hl 0 rfl) ?_
  refine lv_iload_n hx hb dX4_placeOf_2 rfl (lv_at hl 1 rfl) ?_
  refine kx_cV (na := 1) F (q := 14) (n := 0) (c_X4_isBox l G z0 ad nb sg x) gX4_placeOf_X4_isBox rfl (by decide +kernel) ⟨Nat.le_of_ble_eq_true rfl, Nat.le_of_ble_eq_true rfl⟩ hW hS ⟨by decide, rfl⟩ rfl rfl (As := [.int x]) (rest := [.ref (ad 14 0)]) rfl hl.1 rfl (Nat.le_of_ble_eq_true rfl) dX4_placeOf_3 ⟨by first | exact Nat.le_of_ble_eq_true rfl | omega, by first | exact Nat.le_of_ble_eq_true rfl | omega⟩ (fun r9 sg9 H locs hq hW hS => ?_)
  obtain ⟨rfl, e9⟩ := hq
  rw [e9] at hW
  refine W.eq (g2 := F0 m 6 ls [.int (tw_b (tw_in x 0 (sg 14 0 7 - 1))), .ref (ad 14 0)]) rfl ?_
  refine kx_cV (na := 1) F (q := 14) (n := 0) (c_X4_asked l G z0 ad nb sg (tw_b (tw_in x 0 (sg 14 0 7 - 1))) (tw_b_01 _)) gX4_placeOf_X4_asked rfl (by decide +kernel) ⟨Nat.le_of_ble_eq_true rfl, Nat.le_of_ble_eq_true rfl⟩ hW hS ⟨by decide, rfl⟩ rfl rfl (As := [.int (tw_b (tw_in x 0 (sg 14 0 7 - 1)))]) (rest := []) rfl hl.1 rfl (Nat.le_of_ble_eq_true rfl) dX4_placeOf_6 ⟨by first | exact Nat.le_of_ble_eq_true rfl | omega, by first | exact Nat.le_of_ble_eq_true rfl | omega⟩ (fun r9 sg9 H locs hq hW hS => ?_)
  obtain ⟨rfl, e9⟩ := hq
  rw [e9] at hW
  have hW : kx_Wd G z0 ad nb (kx_up sg 14 0 (upd (sg 14 0) 22 (tw_a1 (tw_b (tw_in x 0 (sg 14 0 7 - 1)))))) H := by first | exact hW | (simp only [kx_up_s, kx_up_up] at hW; exact hW) | (simp only [kx_up_s, kx_up_up, upd_s] at hW; exact hW)
  refine W.eq (g2 := F0 m 9 ls [.int (tw_b (tw_in x 0 (sg 14 0 7 - 1)))]) rfl ?_
  refine lv_if_eq (tgt := 25) hx hb dX4_placeOf_9 (by decide) (fun c_9 => ?_) (fun c_9 => ?_)
  · refine lv_iconst (v := 0) hx hb dX4_placeOf_25 (by decide) ?_
    exact kx_ri F hr hlocks hW hS (by first | exact Nat.le_of_ble_eq_true rfl | omega) (by first | exact Nat.le_of_ble_eq_true rfl | omega) (Or.inl ⟨tw_nobox hwf (tw_b_0 c_9), rfl, tm_Q_th (if_pos c_9)⟩) dX4_placeOf_26
  · obtain ⟨k, hk, rfl⟩ := tw_isbox hwf (tw_b_1 c_9)
    have hT9 : tw_a1 (tw_b (tw_in (nI k) 0 (sg 14 0 7 - 1))) = 0 := if_neg c_9
    rw [hT9] at hW
    obtain ⟨n9, hn9, h129, hwho9⟩ := hwf.2.2.1 k hk
    have en9 := tm_n_eq hn9 h129
    refine lv_aload_n hx hb dX4_placeOf_12 rfl (lv_at hl 0 rfl) ?_
    refine lv_iload_n hx hb dX4_placeOf_13 rfl (lv_at hl 1 rfl) ?_
    refine lv_aload_n hx hb dX4_placeOf_14 rfl (lv_at hl 0 rfl) ?_
    refine lv_iload_n hx hb dX4_placeOf_15 rfl (lv_at hl 1 rfl) ?_
    refine kx_cV (na := 1) F (q := 14) (n := 0) (c_X4_storyOf l G z0 ad nb (kx_up sg 14 0 (upd (sg 14 0) 22 0)) k (by omega) n9 hn9 h129 hwho9 hwf.2.2.2) gX4_placeOf_X4_storyOf rfl (by decide +kernel) ⟨Nat.le_of_ble_eq_true rfl, Nat.le_of_ble_eq_true rfl⟩ hW hS ⟨by decide, rfl⟩ rfl rfl (As := [.int (nI k)]) (rest := [.int (nI k), .ref (ad 14 0)]) rfl hl.1 rfl (Nat.le_of_ble_eq_true rfl) dX4_placeOf_16 ⟨by first | exact Nat.le_of_ble_eq_true rfl | omega, by first | exact Nat.le_of_ble_eq_true rfl | omega⟩ (fun r9 sg9 H locs hq hW hS => ?_)
    have hq : r9 = some (.int (tm_st sg k n9)) ∧ ∃ f g : Nat → Int32, sg9 = kx_up (kx_up (kx_up sg 14 0 (upd (sg 14 0) 22 0)) 30 0 f) 31 0 g := hq
    obtain ⟨rfl, f9, g9, e9⟩ := hq
    rw [e9] at hW
    have hW : kx_Wd G z0 ad nb (kx_up (kx_up (kx_up sg 14 0 (upd (sg 14 0) 22 0)) 30 0 f9) 31 0 g9) H := by first | exact hW | (simp only [kx_up_s, kx_up_up] at hW; exact hW) | (simp only [kx_up_s, kx_up_up, upd_s] at hW; exact hW)
    refine W.eq (g2 := F0 m 19 ls [.int (tm_st sg k n9), .int (nI k), .ref (ad 14 0)]) rfl ?_
    refine kx_cV (na := 2) F (q := 14) (n := 0) (c_X4_placeBy l G z0 ad nb (kx_up (kx_up (kx_up sg 14 0 (upd (sg 14 0) 22 0)) 30 0 f9) 31 0 g9) k (by omega) n9 hn9 h129 (tm_st sg k n9)) gX4_placeOf_X4_placeBy rfl (by decide +kernel) ⟨Nat.le_of_ble_eq_true rfl, Nat.le_of_ble_eq_true rfl⟩ hW hS ⟨by decide, rfl⟩ rfl rfl (As := [.int (nI k), .int (tm_st sg k n9)]) (rest := []) rfl hl.1 rfl (Nat.le_of_ble_eq_true rfl) dX4_placeOf_19 ⟨by first | exact Nat.le_of_ble_eq_true rfl | omega, by first | exact Nat.le_of_ble_eq_true rfl | omega⟩ (fun r9 sg9 H locs hq hW hS => ?_)
    have hq : r9 = some (.int (tw_last (tm_st sg k n9) (tm_pl sg k) n9)) ∧ sg9 = kx_up (kx_up (kx_up sg 14 0 (upd (sg 14 0) 22 0)) 30 0 f9) 31 0 g9 := hq
    obtain ⟨rfl, e9⟩ := hq
    rw [e9] at hW
    refine W.eq (g2 := F0 m 22 ls [.int (tw_last (tm_st sg k n9) (tm_pl sg k) n9)]) rfl ?_
    refine lv_goto (tgt := 26) hx hb dX4_placeOf_22 (by decide) ?_
    exact kx_ri F hr hlocks hW hS (by first | exact Nat.le_of_ble_eq_true rfl | omega) (by first | exact Nat.le_of_ble_eq_true rfl | omega) (Or.inr ⟨k, hk, rfl, by rw [en9], tm_Q_sc rfl f9 g9⟩) dX4_placeOf_26

set_option maxHeartbeats 4000000 in
set_option maxRecDepth 100000 in
theorem c_X4_hasFee (l : Launch) (G : kx_G) (z0 : Nat) (ad : kx_A) (nb : Nat) (sg : kx_S) (mb : Nat) (hwf : tm_WF mb sg) (x : Int32) : kx_M l yX4_hasFee wsX4_hasFee 2 43 0 0 G z0 ad nb sg [.ref (ad 14 0), .int x] (fun r sg' => ((∀ k, k < mb → ¬ x = nI k) ∧ r = some (.int 0) ∧ tm_Q sg sg' 1) ∨ (∃ k : Nat, k < mb ∧ x = nI k ∧ r = some (.int (tw_b (decide (¬ sg 19 0 k = 0)))) ∧ tm_Q sg sg' 0)) := by
  refine Met.ofW (cc := cX4_hasFee) (maxL := 2) (ret := (some .boolean)) (by decide) rfl ?_
  intro p e s m args below meth c s₁ B hml hv
  obtain ⟨rfl, hW, hV⟩ := hv
  have hts := atoms_spec (ws := wsX4_hasFee) B.pre
  have F : kx_F p s m c cX4_hasFee 2 RX4 _ wsX4_hasFee G z0 := ⟨B.exec, B.bytes, hml, findClass_of_methodNamed B.named, hts, hV⟩
  have hx := B.exec; have hb := B.bytes; have hr := B.returns; have hlocks := B.notSynchronized
  have hS : va_S (kx_Ad z0) s.heap s.heap [] := va_S.rf
  have hmb16 := hwf.2.1
  have L_23 : Cond.fieldLink RX4 23 (TX4 5).1 (TX4 5).2.1 (TX4 5).2.2.1 ∈ wsX4_hasFee := by decide +kernel
  have inX4 : ∀ w ∈ u_ws RX4 TX4 23, w ∈ wsX4_hasFee := by decide +kernel
  have hl := lv_entry ([.ref (ad 14 0), .int x]) (n := 2) (Nat.le_of_ble_eq_true rfl)
  rw [lg_entry_eq]
  generalize (lg_sl ([.ref (ad 14 0), .int x]) ++ List.replicate (2 - (lg_sl ([.ref (ad 14 0), .int x])).length) Slot.unset).toArray = ls at hl ⊢
  have hl : lv_has ls 2 [(0, .ref (ad 14 0)), (1, .int x)] := hl
  refine lv_aload_n hx hb dX4_hasFee_0 rfl (lv_at hl 0 rfl) ?_
  refine lv_aload_n hx hb dX4_hasFee_1 rfl (lv_at hl 0 rfl) ?_
  refine lv_iload_n hx hb dX4_hasFee_2 rfl (lv_at hl 1 rfl) ?_
  refine kx_cV (na := 1) F (q := 14) (n := 0) (c_X4_isBox l G z0 ad nb sg x) gX4_hasFee_X4_isBox rfl (by decide +kernel) ⟨Nat.le_of_ble_eq_true rfl, Nat.le_of_ble_eq_true rfl⟩ hW hS ⟨by decide, rfl⟩ rfl rfl (As := [.int x]) (rest := [.ref (ad 14 0)]) rfl hl.1 rfl (Nat.le_of_ble_eq_true rfl) dX4_hasFee_3 ⟨by first | exact Nat.le_of_ble_eq_true rfl | omega, by first | exact Nat.le_of_ble_eq_true rfl | omega⟩ (fun r9 sg9 H locs hq hW hS => ?_)
  obtain ⟨rfl, e9⟩ := hq
  rw [e9] at hW
  refine W.eq (g2 := F0 m 6 ls [.int (tw_b (tw_in x 0 (sg 14 0 7 - 1))), .ref (ad 14 0)]) rfl ?_
  refine kx_cV (na := 1) F (q := 14) (n := 0) (c_X4_asked l G z0 ad nb sg (tw_b (tw_in x 0 (sg 14 0 7 - 1))) (tw_b_01 _)) gX4_hasFee_X4_asked rfl (by decide +kernel) ⟨Nat.le_of_ble_eq_true rfl, Nat.le_of_ble_eq_true rfl⟩ hW hS ⟨by decide, rfl⟩ rfl rfl (As := [.int (tw_b (tw_in x 0 (sg 14 0 7 - 1)))]) (rest := []) rfl hl.1 rfl (Nat.le_of_ble_eq_true rfl) dX4_hasFee_6 ⟨by first | exact Nat.le_of_ble_eq_true rfl | omega, by first | exact Nat.le_of_ble_eq_true rfl | omega⟩ (fun r9 sg9 H locs hq hW hS => ?_)
  obtain ⟨rfl, e9⟩ := hq
  rw [e9] at hW
  have hW : kx_Wd G z0 ad nb (kx_up sg 14 0 (upd (sg 14 0) 22 (tw_a1 (tw_b (tw_in x 0 (sg 14 0 7 - 1)))))) H := by first | exact hW | (simp only [kx_up_s, kx_up_up] at hW; exact hW) | (simp only [kx_up_s, kx_up_up, upd_s] at hW; exact hW)
  refine W.eq (g2 := F0 m 9 ls [.int (tw_b (tw_in x 0 (sg 14 0 7 - 1)))]) rfl ?_
  refine lv_if_eq (tgt := 25) hx hb dX4_hasFee_9 (by decide) (fun c_9 => ?_) (fun c_9 => ?_)
  · refine lv_iconst (v := 0) hx hb dX4_hasFee_25 (by decide) ?_
    exact kx_rz F hr hlocks hW hS (by first | exact Nat.le_of_ble_eq_true rfl | omega) (by first | exact Nat.le_of_ble_eq_true rfl | omega) (by rfl) (Or.inl ⟨tw_nobox hwf (tw_b_0 c_9), rfl, tm_Q_th (if_pos c_9)⟩) dX4_hasFee_26
  · obtain ⟨k, hk, rfl⟩ := tw_isbox hwf (tw_b_1 c_9)
    have hT9 : tw_a1 (tw_b (tw_in (nI k) 0 (sg 14 0 7 - 1))) = 0 := if_neg c_9
    rw [hT9] at hW
    obtain ⟨n9, hn9, h129, hwho9⟩ := hwf.2.2.1 k hk
    have en9 := tm_n_eq hn9 h129
    refine lv_aload_n hx hb dX4_hasFee_12 rfl (lv_at hl 0 rfl) ?_
    refine kx_g F inX4 hW 14 0 ⟨by decide, rfl⟩ rfl rfl 5 (by decide) L_23 (v := .ref (ad 19 0)) rfl dX4_hasFee_13 ?_
    refine lv_iload_n hx hb dX4_hasFee_16 rfl (lv_at hl 1 rfl) ?_
    refine kx_zald F hW 19 0 ⟨by decide, rfl⟩ rfl k (by omega) (by decide) (v := sg 19 0 k) (by first | rfl | (simp only [kx_up_s]; done) | (simp only [kx_up_s, upd_s]; done) | (simp only [kx_up_s]; rfl) | (simp [kx_up, upd]; done)) dX4_hasFee_17 ?_
    refine lv_if_eq (tgt := 25) hx hb dX4_hasFee_18 (by decide) (fun c_18 => ?_) (fun c_18 => ?_)
    · refine lv_iconst (v := 0) hx hb dX4_hasFee_25 (by decide) ?_
      exact kx_rz F hr hlocks hW hS (by first | exact Nat.le_of_ble_eq_true rfl | omega) (by first | exact Nat.le_of_ble_eq_true rfl | omega) (by rfl) (Or.inr ⟨k, hk, rfl, by rw [decide_eq_false (fun h => h c_18)]; rfl, tm_Q_th rfl⟩) dX4_hasFee_26
    · refine lv_iconst (v := 1) hx hb dX4_hasFee_21 (by decide) ?_
      refine lv_goto (tgt := 26) hx hb dX4_hasFee_22 (by decide) ?_
      exact kx_rz F hr hlocks hW hS (by first | exact Nat.le_of_ble_eq_true rfl | omega) (by first | exact Nat.le_of_ble_eq_true rfl | omega) (by rfl) (Or.inr ⟨k, hk, rfl, by rw [decide_eq_true c_18]; rfl, tm_Q_th rfl⟩) dX4_hasFee_26

set_option maxHeartbeats 4000000 in
set_option maxRecDepth 100000 in
theorem c_X4_isInsured (l : Launch) (G : kx_G) (z0 : Nat) (ad : kx_A) (nb : Nat) (sg : kx_S) (mb : Nat) (hwf : tm_WF mb sg) (x : Int32) : kx_M l yX4_isInsured wsX4_isInsured 2 43 0 0 G z0 ad nb sg [.ref (ad 14 0), .int x] (fun r sg' => ((∀ k, k < mb → ¬ x = nI k) ∧ r = some (.int 0) ∧ tm_Q sg sg' 1) ∨ (∃ k : Nat, k < mb ∧ x = nI k ∧ r = some (.int (tw_b (decide (¬ sg 18 0 k = 0)))) ∧ tm_Q sg sg' 0)) := by
  refine Met.ofW (cc := cX4_isInsured) (maxL := 2) (ret := (some .boolean)) (by decide) rfl ?_
  intro p e s m args below meth c s₁ B hml hv
  obtain ⟨rfl, hW, hV⟩ := hv
  have hts := atoms_spec (ws := wsX4_isInsured) B.pre
  have F : kx_F p s m c cX4_isInsured 2 RX4 _ wsX4_isInsured G z0 := ⟨B.exec, B.bytes, hml, findClass_of_methodNamed B.named, hts, hV⟩
  have hx := B.exec; have hb := B.bytes; have hr := B.returns; have hlocks := B.notSynchronized
  have hS : va_S (kx_Ad z0) s.heap s.heap [] := va_S.rf
  have hmb16 := hwf.2.1
  have L_19 : Cond.fieldLink RX4 19 (TX4 4).1 (TX4 4).2.1 (TX4 4).2.2.1 ∈ wsX4_isInsured := by decide +kernel
  have inX4 : ∀ w ∈ u_ws RX4 TX4 23, w ∈ wsX4_isInsured := by decide +kernel
  have hl := lv_entry ([.ref (ad 14 0), .int x]) (n := 2) (Nat.le_of_ble_eq_true rfl)
  rw [lg_entry_eq]
  generalize (lg_sl ([.ref (ad 14 0), .int x]) ++ List.replicate (2 - (lg_sl ([.ref (ad 14 0), .int x])).length) Slot.unset).toArray = ls at hl ⊢
  have hl : lv_has ls 2 [(0, .ref (ad 14 0)), (1, .int x)] := hl
  refine lv_aload_n hx hb dX4_isInsured_0 rfl (lv_at hl 0 rfl) ?_
  refine lv_aload_n hx hb dX4_isInsured_1 rfl (lv_at hl 0 rfl) ?_
  refine lv_iload_n hx hb dX4_isInsured_2 rfl (lv_at hl 1 rfl) ?_
  refine kx_cV (na := 1) F (q := 14) (n := 0) (c_X4_isBox l G z0 ad nb sg x) gX4_isInsured_X4_isBox rfl (by decide +kernel) ⟨Nat.le_of_ble_eq_true rfl, Nat.le_of_ble_eq_true rfl⟩ hW hS ⟨by decide, rfl⟩ rfl rfl (As := [.int x]) (rest := [.ref (ad 14 0)]) rfl hl.1 rfl (Nat.le_of_ble_eq_true rfl) dX4_isInsured_3 ⟨by first | exact Nat.le_of_ble_eq_true rfl | omega, by first | exact Nat.le_of_ble_eq_true rfl | omega⟩ (fun r9 sg9 H locs hq hW hS => ?_)
  obtain ⟨rfl, e9⟩ := hq
  rw [e9] at hW
  refine W.eq (g2 := F0 m 6 ls [.int (tw_b (tw_in x 0 (sg 14 0 7 - 1))), .ref (ad 14 0)]) rfl ?_
  refine kx_cV (na := 1) F (q := 14) (n := 0) (c_X4_asked l G z0 ad nb sg (tw_b (tw_in x 0 (sg 14 0 7 - 1))) (tw_b_01 _)) gX4_isInsured_X4_asked rfl (by decide +kernel) ⟨Nat.le_of_ble_eq_true rfl, Nat.le_of_ble_eq_true rfl⟩ hW hS ⟨by decide, rfl⟩ rfl rfl (As := [.int (tw_b (tw_in x 0 (sg 14 0 7 - 1)))]) (rest := []) rfl hl.1 rfl (Nat.le_of_ble_eq_true rfl) dX4_isInsured_6 ⟨by first | exact Nat.le_of_ble_eq_true rfl | omega, by first | exact Nat.le_of_ble_eq_true rfl | omega⟩ (fun r9 sg9 H locs hq hW hS => ?_)
  obtain ⟨rfl, e9⟩ := hq
  rw [e9] at hW
  have hW : kx_Wd G z0 ad nb (kx_up sg 14 0 (upd (sg 14 0) 22 (tw_a1 (tw_b (tw_in x 0 (sg 14 0 7 - 1)))))) H := by first | exact hW | (simp only [kx_up_s, kx_up_up] at hW; exact hW) | (simp only [kx_up_s, kx_up_up, upd_s] at hW; exact hW)
  refine W.eq (g2 := F0 m 9 ls [.int (tw_b (tw_in x 0 (sg 14 0 7 - 1)))]) rfl ?_
  refine lv_if_eq (tgt := 25) hx hb dX4_isInsured_9 (by decide) (fun c_9 => ?_) (fun c_9 => ?_)
  · refine lv_iconst (v := 0) hx hb dX4_isInsured_25 (by decide) ?_
    exact kx_rz F hr hlocks hW hS (by first | exact Nat.le_of_ble_eq_true rfl | omega) (by first | exact Nat.le_of_ble_eq_true rfl | omega) (by rfl) (Or.inl ⟨tw_nobox hwf (tw_b_0 c_9), rfl, tm_Q_th (if_pos c_9)⟩) dX4_isInsured_26
  · obtain ⟨k, hk, rfl⟩ := tw_isbox hwf (tw_b_1 c_9)
    have hT9 : tw_a1 (tw_b (tw_in (nI k) 0 (sg 14 0 7 - 1))) = 0 := if_neg c_9
    rw [hT9] at hW
    obtain ⟨n9, hn9, h129, hwho9⟩ := hwf.2.2.1 k hk
    have en9 := tm_n_eq hn9 h129
    refine lv_aload_n hx hb dX4_isInsured_12 rfl (lv_at hl 0 rfl) ?_
    refine kx_g F inX4 hW 14 0 ⟨by decide, rfl⟩ rfl rfl 4 (by decide) L_19 (v := .ref (ad 18 0)) rfl dX4_isInsured_13 ?_
    refine lv_iload_n hx hb dX4_isInsured_16 rfl (lv_at hl 1 rfl) ?_
    refine kx_zald F hW 18 0 ⟨by decide, rfl⟩ rfl k (by omega) (by decide) (v := sg 18 0 k) (by first | rfl | (simp only [kx_up_s]; done) | (simp only [kx_up_s, upd_s]; done) | (simp only [kx_up_s]; rfl) | (simp [kx_up, upd]; done)) dX4_isInsured_17 ?_
    refine lv_if_eq (tgt := 25) hx hb dX4_isInsured_18 (by decide) (fun c_18 => ?_) (fun c_18 => ?_)
    · refine lv_iconst (v := 0) hx hb dX4_isInsured_25 (by decide) ?_
      exact kx_rz F hr hlocks hW hS (by first | exact Nat.le_of_ble_eq_true rfl | omega) (by first | exact Nat.le_of_ble_eq_true rfl | omega) (by rfl) (Or.inr ⟨k, hk, rfl, by rw [decide_eq_false (fun h => h c_18)]; rfl, tm_Q_th rfl⟩) dX4_isInsured_26
    · refine lv_iconst (v := 1) hx hb dX4_isInsured_21 (by decide) ?_
      refine lv_goto (tgt := 26) hx hb dX4_isInsured_22 (by decide) ?_
      exact kx_rz F hr hlocks hW hS (by first | exact Nat.le_of_ble_eq_true rfl | omega) (by first | exact Nat.le_of_ble_eq_true rfl | omega) (by rfl) (Or.inr ⟨k, hk, rfl, by rw [decide_eq_true c_18]; rfl, tm_Q_th rfl⟩) dX4_isInsured_26

set_option maxHeartbeats 4000000 in
set_option maxRecDepth 100000 in
theorem c_X4_isJammed (l : Launch) (G : kx_G) (z0 : Nat) (ad : kx_A) (nb : Nat) (sg : kx_S) (mb : Nat) (hwf : tm_WF mb sg) (x : Int32) : kx_M l yX4_isJammed wsX4_isJammed 2 42 0 0 G z0 ad nb sg [.ref (ad 14 0), .int x] (fun r sg' => ((∀ d, d < 10 → ¬ x = nI d) ∧ r = some (.int 0) ∧ tm_Q sg sg' 1) ∨ (∃ d : Nat, d < 10 ∧ x = nI d ∧ r = some (.int (tw_b (decide (¬ sg 29 0 d = 0)))) ∧ tm_Q sg sg' 0)) := by
  refine Met.ofW (cc := cX4_isJammed) (maxL := 2) (ret := (some .boolean)) (by decide) rfl ?_
  intro p e s m args below meth c s₁ B hml hv
  obtain ⟨rfl, hW, hV⟩ := hv
  have hts := atoms_spec (ws := wsX4_isJammed) B.pre
  have F : kx_F p s m c cX4_isJammed 2 RX4 _ wsX4_isJammed G z0 := ⟨B.exec, B.bytes, hml, findClass_of_methodNamed B.named, hts, hV⟩
  have hx := B.exec; have hb := B.bytes; have hr := B.returns; have hlocks := B.notSynchronized
  have hS : va_S (kx_Ad z0) s.heap s.heap [] := va_S.rf
  have hmb16 := hwf.2.1
  have L_53 : Cond.fieldLink RX4 53 (TX4 16).1 (TX4 16).2.1 (TX4 16).2.2.1 ∈ wsX4_isJammed := by decide +kernel
  have inX4 : ∀ w ∈ u_ws RX4 TX4 23, w ∈ wsX4_isJammed := by decide +kernel
  have hl := lv_entry ([.ref (ad 14 0), .int x]) (n := 2) (Nat.le_of_ble_eq_true rfl)
  rw [lg_entry_eq]
  generalize (lg_sl ([.ref (ad 14 0), .int x]) ++ List.replicate (2 - (lg_sl ([.ref (ad 14 0), .int x])).length) Slot.unset).toArray = ls at hl ⊢
  have hl : lv_has ls 2 [(0, .ref (ad 14 0)), (1, .int x)] := hl
  refine lv_aload_n hx hb dX4_isJammed_0 rfl (lv_at hl 0 rfl) ?_
  refine lv_iload_n hx hb dX4_isJammed_1 rfl (lv_at hl 1 rfl) ?_
  refine kx_cS (na := 1) F (c_X4_isDoor l G z0 ad nb sg x) gX4_isJammed_X4_isDoor rfl (by decide +kernel) ⟨Nat.le_of_ble_eq_true rfl, Nat.le_of_ble_eq_true rfl⟩ hW hS (As := [.int x]) (rest := [.ref (ad 14 0)]) rfl hl.1 rfl (Nat.le_of_ble_eq_true rfl) dX4_isJammed_2 ⟨by first | exact Nat.le_of_ble_eq_true rfl | omega, by first | exact Nat.le_of_ble_eq_true rfl | omega⟩ (fun r9 sg9 H locs hq hW hS => ?_)
  obtain ⟨rfl, e9⟩ := hq
  rw [e9] at hW
  refine W.eq (g2 := F0 m 5 ls [.int (tw_b (tw_in x 0 9)), .ref (ad 14 0)]) rfl ?_
  refine kx_cV (na := 1) F (q := 14) (n := 0) (c_X4_asked l G z0 ad nb sg (tw_b (tw_in x 0 9)) (tw_b_01 _)) gX4_isJammed_X4_asked rfl (by decide +kernel) ⟨Nat.le_of_ble_eq_true rfl, Nat.le_of_ble_eq_true rfl⟩ hW hS ⟨by decide, rfl⟩ rfl rfl (As := [.int (tw_b (tw_in x 0 9))]) (rest := []) rfl hl.1 rfl (Nat.le_of_ble_eq_true rfl) dX4_isJammed_5 ⟨by first | exact Nat.le_of_ble_eq_true rfl | omega, by first | exact Nat.le_of_ble_eq_true rfl | omega⟩ (fun r9 sg9 H locs hq hW hS => ?_)
  obtain ⟨rfl, e9⟩ := hq
  rw [e9] at hW
  have hW : kx_Wd G z0 ad nb (kx_up sg 14 0 (upd (sg 14 0) 22 (tw_a1 (tw_b (tw_in x 0 9))))) H := by first | exact hW | (simp only [kx_up_s, kx_up_up] at hW; exact hW) | (simp only [kx_up_s, kx_up_up, upd_s] at hW; exact hW)
  refine W.eq (g2 := F0 m 8 ls [.int (tw_b (tw_in x 0 9))]) rfl ?_
  refine lv_if_eq (tgt := 24) hx hb dX4_isJammed_8 (by decide) (fun c_8 => ?_) (fun c_8 => ?_)
  · refine lv_iconst (v := 0) hx hb dX4_isJammed_24 (by decide) ?_
    exact kx_rz F hr hlocks hW hS (by first | exact Nat.le_of_ble_eq_true rfl | omega) (by first | exact Nat.le_of_ble_eq_true rfl | omega) (by rfl) (Or.inl ⟨tw_nodoor (tw_b_0 c_8), rfl, tm_Q_th (if_pos c_8)⟩) dX4_isJammed_25
  · obtain ⟨d, hd, rfl⟩ := tw_isdoor (tw_b_1 c_8)
    have hT9 : tw_a1 (tw_b (tw_in (nI d) 0 9)) = 0 := if_neg c_8
    rw [hT9] at hW
    refine lv_aload_n hx hb dX4_isJammed_11 rfl (lv_at hl 0 rfl) ?_
    refine kx_g F inX4 hW 14 0 ⟨by decide, rfl⟩ rfl rfl 16 (by decide) L_53 (v := .ref (ad 29 0)) rfl dX4_isJammed_12 ?_
    refine lv_iload_n hx hb dX4_isJammed_15 rfl (lv_at hl 1 rfl) ?_
    refine kx_zald F hW 29 0 ⟨by decide, rfl⟩ rfl d (by omega) (by decide) (v := sg 29 0 d) (by first | rfl | (simp only [kx_up_s]; done) | (simp only [kx_up_s, upd_s]; done) | (simp only [kx_up_s]; rfl) | (simp [kx_up, upd]; done)) dX4_isJammed_16 ?_
    refine lv_if_eq (tgt := 24) hx hb dX4_isJammed_17 (by decide) (fun c_17 => ?_) (fun c_17 => ?_)
    · refine lv_iconst (v := 0) hx hb dX4_isJammed_24 (by decide) ?_
      exact kx_rz F hr hlocks hW hS (by first | exact Nat.le_of_ble_eq_true rfl | omega) (by first | exact Nat.le_of_ble_eq_true rfl | omega) (by rfl) (Or.inr ⟨d, hd, rfl, by rw [decide_eq_false (fun h => h c_17)]; rfl, tm_Q_th rfl⟩) dX4_isJammed_25
    · refine lv_iconst (v := 1) hx hb dX4_isJammed_20 (by decide) ?_
      refine lv_goto (tgt := 25) hx hb dX4_isJammed_21 (by decide) ?_
      exact kx_rz F hr hlocks hW hS (by first | exact Nat.le_of_ble_eq_true rfl | omega) (by first | exact Nat.le_of_ble_eq_true rfl | omega) (by rfl) (Or.inr ⟨d, hd, rfl, by rw [decide_eq_true c_17]; rfl, tm_Q_th rfl⟩) dX4_isJammed_25

set_option maxHeartbeats 4000000 in
set_option maxRecDepth 100000 in
theorem c_X4_keptFor (l : Launch) (G : kx_G) (z0 : Nat) (ad : kx_A) (nb : Nat) (sg : kx_S) (mb : Nat) (hwf : tm_WF mb sg) (x : Int32) : kx_M l yX4_keptFor wsX4_keptFor 2 42 0 0 G z0 ad nb sg [.ref (ad 14 0), .int x] (fun r sg' => ((∀ d, d < 10 → ¬ x = nI d) ∧ r = some (.int 0) ∧ tm_Q sg sg' 1) ∨ (∃ d : Nat, d < 10 ∧ x = nI d ∧ r = some (.int (sg 26 0 d)) ∧ tm_Q sg sg' 0)) := by
  refine Met.ofW (cc := cX4_keptFor) (maxL := 2) (ret := (some .int)) (by decide) rfl ?_
  intro p e s m args below meth c s₁ B hml hv
  obtain ⟨rfl, hW, hV⟩ := hv
  have hts := atoms_spec (ws := wsX4_keptFor) B.pre
  have F : kx_F p s m c cX4_keptFor 2 RX4 _ wsX4_keptFor G z0 := ⟨B.exec, B.bytes, hml, findClass_of_methodNamed B.named, hts, hV⟩
  have hx := B.exec; have hb := B.bytes; have hr := B.returns; have hlocks := B.notSynchronized
  have hS : va_S (kx_Ad z0) s.heap s.heap [] := va_S.rf
  have hmb16 := hwf.2.1
  have L_44 : Cond.fieldLink RX4 44 (TX4 13).1 (TX4 13).2.1 (TX4 13).2.2.1 ∈ wsX4_keptFor := by decide +kernel
  have inX4 : ∀ w ∈ u_ws RX4 TX4 23, w ∈ wsX4_keptFor := by decide +kernel
  have hl := lv_entry ([.ref (ad 14 0), .int x]) (n := 2) (Nat.le_of_ble_eq_true rfl)
  rw [lg_entry_eq]
  generalize (lg_sl ([.ref (ad 14 0), .int x]) ++ List.replicate (2 - (lg_sl ([.ref (ad 14 0), .int x])).length) Slot.unset).toArray = ls at hl ⊢
  have hl : lv_has ls 2 [(0, .ref (ad 14 0)), (1, .int x)] := hl
  refine lv_aload_n hx hb dX4_keptFor_0 rfl (lv_at hl 0 rfl) ?_
  refine lv_iload_n hx hb dX4_keptFor_1 rfl (lv_at hl 1 rfl) ?_
  refine kx_cS (na := 1) F (c_X4_isDoor l G z0 ad nb sg x) gX4_keptFor_X4_isDoor rfl (by decide +kernel) ⟨Nat.le_of_ble_eq_true rfl, Nat.le_of_ble_eq_true rfl⟩ hW hS (As := [.int x]) (rest := [.ref (ad 14 0)]) rfl hl.1 rfl (Nat.le_of_ble_eq_true rfl) dX4_keptFor_2 ⟨by first | exact Nat.le_of_ble_eq_true rfl | omega, by first | exact Nat.le_of_ble_eq_true rfl | omega⟩ (fun r9 sg9 H locs hq hW hS => ?_)
  obtain ⟨rfl, e9⟩ := hq
  rw [e9] at hW
  refine W.eq (g2 := F0 m 5 ls [.int (tw_b (tw_in x 0 9)), .ref (ad 14 0)]) rfl ?_
  refine kx_cV (na := 1) F (q := 14) (n := 0) (c_X4_asked l G z0 ad nb sg (tw_b (tw_in x 0 9)) (tw_b_01 _)) gX4_keptFor_X4_asked rfl (by decide +kernel) ⟨Nat.le_of_ble_eq_true rfl, Nat.le_of_ble_eq_true rfl⟩ hW hS ⟨by decide, rfl⟩ rfl rfl (As := [.int (tw_b (tw_in x 0 9))]) (rest := []) rfl hl.1 rfl (Nat.le_of_ble_eq_true rfl) dX4_keptFor_5 ⟨by first | exact Nat.le_of_ble_eq_true rfl | omega, by first | exact Nat.le_of_ble_eq_true rfl | omega⟩ (fun r9 sg9 H locs hq hW hS => ?_)
  obtain ⟨rfl, e9⟩ := hq
  rw [e9] at hW
  have hW : kx_Wd G z0 ad nb (kx_up sg 14 0 (upd (sg 14 0) 22 (tw_a1 (tw_b (tw_in x 0 9))))) H := by first | exact hW | (simp only [kx_up_s, kx_up_up] at hW; exact hW) | (simp only [kx_up_s, kx_up_up, upd_s] at hW; exact hW)
  refine W.eq (g2 := F0 m 8 ls [.int (tw_b (tw_in x 0 9))]) rfl ?_
  refine lv_if_eq (tgt := 20) hx hb dX4_keptFor_8 (by decide) (fun c_8 => ?_) (fun c_8 => ?_)
  · refine lv_iconst (v := 0) hx hb dX4_keptFor_20 (by decide) ?_
    exact kx_ri F hr hlocks hW hS (by first | exact Nat.le_of_ble_eq_true rfl | omega) (by first | exact Nat.le_of_ble_eq_true rfl | omega) (Or.inl ⟨tw_nodoor (tw_b_0 c_8), rfl, tm_Q_th (if_pos c_8)⟩) dX4_keptFor_21
  · obtain ⟨d, hd, rfl⟩ := tw_isdoor (tw_b_1 c_8)
    have hT9 : tw_a1 (tw_b (tw_in (nI d) 0 9)) = 0 := if_neg c_8
    rw [hT9] at hW
    refine lv_aload_n hx hb dX4_keptFor_11 rfl (lv_at hl 0 rfl) ?_
    refine kx_g F inX4 hW 14 0 ⟨by decide, rfl⟩ rfl rfl 13 (by decide) L_44 (v := .ref (ad 26 0)) rfl dX4_keptFor_12 ?_
    refine lv_iload_n hx hb dX4_keptFor_15 rfl (lv_at hl 1 rfl) ?_
    refine kx_ald F hW 26 0 ⟨by decide, rfl⟩ rfl d (by omega) (by decide) (v := sg 26 0 d) (by first | rfl | (simp only [kx_up_s]; done) | (simp only [kx_up_s, upd_s]; done) | (simp only [kx_up_s]; rfl) | (simp [kx_up, upd]; done)) dX4_keptFor_16 ?_
    refine lv_goto (tgt := 21) hx hb dX4_keptFor_17 (by decide) ?_
    exact kx_ri F hr hlocks hW hS (by first | exact Nat.le_of_ble_eq_true rfl | omega) (by first | exact Nat.le_of_ble_eq_true rfl | omega) (Or.inr ⟨d, hd, rfl, rfl, tm_Q_th rfl⟩) dX4_keptFor_21

def tm_feeA (sg : kx_S) (x : Int32) : Nat → Int32
  | 0 => 0
  | k + 1 => tm_feeA sg x k + (if ¬ sg 19 0 k = 0 ∧ sg 20 0 k = x then 10 * sg 15 0 k else 0)
def tm_mk (sg : kx_S) (i : Nat) : Nat → Int32 := fun k => sg 23 0 (12 * i + k)
def tm_tm (sg : kx_S) (i : Nat) : Nat → Int32 := fun k => sg 22 0 (12 * i + k)
def tm_liesA (sg : kx_S) (x : Int32) : Nat → Int32
  | 0 => 0
  | k + 1 => tm_liesA sg x k + tw_lies (tm_st sg k (tm_n sg k)) (tm_mk sg k) x (tm_n sg k)

set_option maxHeartbeats 8000000 in
set_option maxRecDepth 100000 in
theorem c_X4_fees (l : Launch) (G : kx_G) (z0 : Nat) (ad : kx_A) (nb : Nat) (sg : kx_S) (mb : Nat) (hwf : tm_WF mb sg) (x : Int32) : kx_M l yX4_fees wsX4_fees 1 22 0 0 G z0 ad nb sg [.ref (ad 14 0), .int x] (fun r sg' => ((∀ c, c < 4 → ¬ x = nI c) ∧ r = some (.int 0) ∧ tm_Q sg sg' 1) ∨ ((∃ c : Nat, c < 4 ∧ x = nI c) ∧ r = some (.int (tm_feeA sg x mb)) ∧ tm_Q sg sg' 0)) := by
  refine Met.ofW (cc := cX4_fees) (maxL := 5) (ret := (some .int)) (by decide) rfl ?_
  intro p e s m args below meth c s₁ B hml hv
  obtain ⟨rfl, hW, hV⟩ := hv
  have hts := atoms_spec (ws := wsX4_fees) B.pre
  have F : kx_F p s m c cX4_fees 5 RX4 _ wsX4_fees G z0 := ⟨B.exec, B.bytes, hml, findClass_of_methodNamed B.named, hts, hV⟩
  have hx := B.exec; have hb := B.bytes; have hr := B.returns; have hlocks := B.notSynchronized
  have hS : va_S (kx_Ad z0) s.heap s.heap [] := va_S.rf
  have hmb16 := hwf.2.1
  have L_23 : Cond.fieldLink RX4 23 (TX4 5).1 (TX4 5).2.1 (TX4 5).2.2.1 ∈ wsX4_fees := by decide +kernel
  have L_26 : Cond.fieldLink RX4 26 (TX4 6).1 (TX4 6).2.1 (TX4 6).2.2.1 ∈ wsX4_fees := by decide +kernel
  have L_66 : Cond.fieldLink RX4 66 (TX4 7).1 (TX4 7).2.1 (TX4 7).2.2.1 ∈ wsX4_fees := by decide +kernel
  have L_7 : Cond.fieldLink RX4 7 (TX4 1).1 (TX4 1).2.1 (TX4 1).2.2.1 ∈ wsX4_fees := by decide +kernel
  have inX4 : ∀ w ∈ u_ws RX4 TX4 23, w ∈ wsX4_fees := by decide +kernel
  have hl := lv_entry ([.ref (ad 14 0), .int x]) (n := 5) (Nat.le_of_ble_eq_true rfl)
  rw [lg_entry_eq]
  generalize (lg_sl ([.ref (ad 14 0), .int x]) ++ List.replicate (5 - (lg_sl ([.ref (ad 14 0), .int x])).length) Slot.unset).toArray = ls at hl ⊢
  have hl : lv_has ls 5 [(0, .ref (ad 14 0)), (1, .int x)] := hl
  have loop : tw_in x 0 3 = true → ∀ (j k : Nat), mb = k + j → ∀ (H : Heap) (locs : List Loc) (ls : Array Slot), kx_Wd G z0 ad nb (kx_up sg 14 0 (upd (sg 14 0) 22 0)) H → va_S (kx_Ad z0) s.heap H locs → lv_has ls 5 [(4, .int (nI k)), (2, .int (tm_feeA sg x k)), (3, .int (tw_b (tw_in x 0 3))), (0, .ref (ad 14 0)), (1, .int x)] → W p l e (headSpec wsX4_fees { frames := 1, cells := 0, slots := 0, locals := 22 }).room s m ([.ref (ad 14 0), .int x] : List Value).toArray below meth c H locs 0 0 (MQ below (kx_Q G z0 ad nb (fun r sg' => ((∀ c, c < 4 → ¬ x = nI c) ∧ r = some (.int 0) ∧ tm_Q sg sg' 1) ∨ ((∃ c : Nat, c < 4 ∧ x = nI c) ∧ r = some (.int (tm_feeA sg x mb)) ∧ tm_Q sg sg' 0))) ([.ref (ad 14 0), .int x] : List Value).toArray s 0 0 (kx_Ad z0)) (F0 m 16 ls []) := by
    intro hA j
    induction j with
    | zero =>
      intro k hk H locs ls hW hS hl
      refine lv_iload_n hx hb dX4_fees_16 rfl (lv_at hl 2 rfl) ?_
      refine lv_if_eq (tgt := 73) hx hb dX4_fees_17 (by decide) (fun c_17 => ?_) (fun c_17 => ?_)
      · rw [hA] at c_17; exact absurd c_17 (by decide)
      · refine lv_iload hx hb dX4_fees_20 (lv_at hl 0 rfl) ?_
        refine lv_aload_n hx hb dX4_fees_22 rfl (lv_at hl 3 rfl) ?_
        refine kx_g F inX4 hW 14 0 ⟨by decide, rfl⟩ rfl rfl 7 (by decide) L_66 (v := .int (nI mb)) (by simp [kx_up, upd]; exact hwf.1) dX4_fees_23 ?_
        refine lv_icmp_ge (tgt := 73) hx hb dX4_fees_26 (by decide) (fun c_26 => ?_) (fun c_26 => ?_)
        · refine lv_iload_n hx hb dX4_fees_73 rfl (lv_at hl 1 rfl) ?_
          exact kx_ri F hr hlocks hW hS (by first | exact Nat.le_of_ble_eq_true rfl | omega) (by first | exact Nat.le_of_ble_eq_true rfl | omega) (Or.inr ⟨tw_iscour hA, by rw [show k = mb by omega], tm_Q_th rfl⟩) dX4_fees_74
        · exact absurd (nI_le (by omega) (by omega)) c_26
    | succ j ih =>
      intro k hk H locs ls hW hS hl
      refine lv_iload_n hx hb dX4_fees_16 rfl (lv_at hl 2 rfl) ?_
      refine lv_if_eq (tgt := 73) hx hb dX4_fees_17 (by decide) (fun c_17 => ?_) (fun c_17 => ?_)
      · rw [hA] at c_17; exact absurd c_17 (by decide)
      · refine lv_iload hx hb dX4_fees_20 (lv_at hl 0 rfl) ?_
        refine lv_aload_n hx hb dX4_fees_22 rfl (lv_at hl 3 rfl) ?_
        refine kx_g F inX4 hW 14 0 ⟨by decide, rfl⟩ rfl rfl 7 (by decide) L_66 (v := .int (nI mb)) (by simp [kx_up, upd]; exact hwf.1) dX4_fees_23 ?_
        refine lv_icmp_ge (tgt := 73) hx hb dX4_fees_26 (by decide) (fun c_26 => ?_) (fun c_26 => ?_)
        · exact absurd c_26 (nI_ge (by omega) (by omega))
        · refine lv_iload_n hx hb dX4_fees_29 rfl (lv_at hl 1 rfl) ?_
          refine lv_aload_n hx hb dX4_fees_30 rfl (lv_at hl 3 rfl) ?_
          refine kx_g F inX4 hW 14 0 ⟨by decide, rfl⟩ rfl rfl 5 (by decide) L_23 (v := .ref (ad 19 0)) rfl dX4_fees_31 ?_
          refine lv_iload hx hb dX4_fees_34 (lv_at hl 0 rfl) ?_
          refine kx_zald F hW 19 0 ⟨by decide, rfl⟩ rfl k (by omega) (by decide) (v := sg 19 0 k) (by first | rfl | (simp only [kx_up_s]; done) | (simp only [kx_up_s, upd_s]; done) | (simp only [kx_up_s]; rfl) | (simp [kx_up, upd]; done)) dX4_fees_36 ?_
          refine lv_if_eq (tgt := 64) hx hb dX4_fees_37 (by decide) (fun c_37 => ?_) (fun c_37 => ?_)
          · refine lv_iconst (v := 0) hx hb dX4_fees_64 (by decide) ?_
            refine lv_iadd hx hb dX4_fees_65 ?_
            refine lv_istore_n (lv' := [(2, .int ((tm_feeA sg x k) + 0)), (4, .int (nI k)), (3, .int (tw_b (tw_in x 0 3))), (0, .ref (ad 14 0)), (1, .int x)]) hx hb dX4_fees_66 rfl hl (by decide) rfl (fun ls hl => ?_)
            refine lv_iinc (v := nI (k + 1)) (lv' := [(4, .int (nI (k + 1))), (2, .int ((tm_feeA sg x k) + 0)), (3, .int (tw_b (tw_in x 0 3))), (0, .ref (ad 14 0)), (1, .int x)]) hx hb dX4_fees_67 hl (k := 1) rfl (nI_1 k) (by decide) rfl (fun ls hl => ?_)
            refine lv_goto (tgt := 16) hx hb dX4_fees_70 (by decide) ?_
            exact ih (k + 1) (by omega) H locs ls hW hS (by
              rw [show tm_feeA sg x (k + 1) = tm_feeA sg x k + 0 from congrArg (fun z => tm_feeA sg x k + z) (if_neg (fun h => h.1 c_37))]
              exact lv_sub hl [0, 1, 2, 3, 4] rfl)
          · refine lv_aload_n hx hb dX4_fees_40 rfl (lv_at hl 3 rfl) ?_
            refine kx_g F inX4 hW 14 0 ⟨by decide, rfl⟩ rfl rfl 6 (by decide) L_26 (v := .ref (ad 20 0)) rfl dX4_fees_41 ?_
            refine lv_iload hx hb dX4_fees_44 (lv_at hl 0 rfl) ?_
            refine kx_ald F hW 20 0 ⟨by decide, rfl⟩ rfl k (by omega) (by decide) (v := sg 20 0 k) (by first | rfl | (simp only [kx_up_s]; done) | (simp only [kx_up_s, upd_s]; done) | (simp only [kx_up_s]; rfl) | (simp [kx_up, upd]; done)) dX4_fees_46 ?_
            refine lv_iload_n hx hb dX4_fees_47 rfl (lv_at hl 4 rfl) ?_
            refine lv_icmp_ne (tgt := 64) hx hb dX4_fees_48 (by decide) (fun c_48 => ?_) (fun c_48 => ?_)
            · refine lv_iconst (v := 0) hx hb dX4_fees_64 (by decide) ?_
              refine lv_iadd hx hb dX4_fees_65 ?_
              refine lv_istore_n (lv' := [(2, .int ((tm_feeA sg x k) + 0)), (4, .int (nI k)), (3, .int (tw_b (tw_in x 0 3))), (0, .ref (ad 14 0)), (1, .int x)]) hx hb dX4_fees_66 rfl hl (by decide) rfl (fun ls hl => ?_)
              refine lv_iinc (v := nI (k + 1)) (lv' := [(4, .int (nI (k + 1))), (2, .int ((tm_feeA sg x k) + 0)), (3, .int (tw_b (tw_in x 0 3))), (0, .ref (ad 14 0)), (1, .int x)]) hx hb dX4_fees_67 hl (k := 1) rfl (nI_1 k) (by decide) rfl (fun ls hl => ?_)
              refine lv_goto (tgt := 16) hx hb dX4_fees_70 (by decide) ?_
              exact ih (k + 1) (by omega) H locs ls hW hS (by
                rw [show tm_feeA sg x (k + 1) = tm_feeA sg x k + 0 from congrArg (fun z => tm_feeA sg x k + z) (if_neg (fun h => c_48 h.2))]
                exact lv_sub hl [0, 1, 2, 3, 4] rfl)
            · refine lv_bipush (v := 10) hx hb dX4_fees_51 (by decide) ?_
              refine lv_aload_n hx hb dX4_fees_53 rfl (lv_at hl 3 rfl) ?_
              refine kx_g F inX4 hW 14 0 ⟨by decide, rfl⟩ rfl rfl 1 (by decide) L_7 (v := .ref (ad 15 0)) rfl dX4_fees_54 ?_
              refine lv_iload hx hb dX4_fees_57 (lv_at hl 0 rfl) ?_
              refine kx_ald F hW 15 0 ⟨by decide, rfl⟩ rfl k (by omega) (by decide) (v := sg 15 0 k) (by first | rfl | (simp only [kx_up_s]; done) | (simp only [kx_up_s, upd_s]; done) | (simp only [kx_up_s]; rfl) | (simp [kx_up, upd]; done)) dX4_fees_59 ?_
              refine lv_imul hx hb dX4_fees_60 ?_
              refine lv_goto (tgt := 65) hx hb dX4_fees_61 (by decide) ?_
              refine lv_iadd hx hb dX4_fees_65 ?_
              refine lv_istore_n (lv' := [(2, .int ((tm_feeA sg x k) + (10 * (sg 15 0 k)))), (4, .int (nI k)), (3, .int (tw_b (tw_in x 0 3))), (0, .ref (ad 14 0)), (1, .int x)]) hx hb dX4_fees_66 rfl hl (by decide) rfl (fun ls hl => ?_)
              refine lv_iinc (v := nI (k + 1)) (lv' := [(4, .int (nI (k + 1))), (2, .int ((tm_feeA sg x k) + (10 * (sg 15 0 k)))), (3, .int (tw_b (tw_in x 0 3))), (0, .ref (ad 14 0)), (1, .int x)]) hx hb dX4_fees_67 hl (k := 1) rfl (nI_1 k) (by decide) rfl (fun ls hl => ?_)
              refine lv_goto (tgt := 16) hx hb dX4_fees_70 (by decide) ?_
              exact ih (k + 1) (by omega) H locs ls hW hS (by
                rw [show tm_feeA sg x (k + 1) = tm_feeA sg x k + (10 * sg 15 0 k) from congrArg (fun z => tm_feeA sg x k + z) (if_pos ⟨c_37, c_48⟩)]
                exact lv_sub hl [0, 1, 2, 3, 4] rfl)
  refine lv_iconst (v := 0) hx hb dX4_fees_0 (by decide) ?_
  refine lv_istore_n (lv' := [(2, .int 0), (0, .ref (ad 14 0)), (1, .int x)]) hx hb dX4_fees_1 rfl hl (by decide) rfl (fun ls hl => ?_)
  refine lv_aload_n hx hb dX4_fees_2 rfl (lv_at hl 1 rfl) ?_
  refine lv_iload_n hx hb dX4_fees_3 rfl (lv_at hl 2 rfl) ?_
  refine lv_iconst (v := 0) hx hb dX4_fees_4 (by decide) ?_
  refine lv_iconst (v := 3) hx hb dX4_fees_5 (by decide) ?_
  refine kx_cS (na := 3) F (c_X4_in l G z0 ad nb sg x 0 3) gX4_fees_X4_in rfl (by decide +kernel) ⟨Nat.le_of_ble_eq_true rfl, Nat.le_of_ble_eq_true rfl⟩ hW hS (As := [.int x, .int 0, .int 3]) (rest := [.ref (ad 14 0)]) rfl hl.1 rfl (Nat.le_of_ble_eq_true rfl) dX4_fees_6 ⟨by first | exact Nat.le_of_ble_eq_true rfl | omega, by first | exact Nat.le_of_ble_eq_true rfl | omega⟩ (fun r9 sg9 H locs hq hW hS => ?_)
  obtain ⟨rfl, e9⟩ := hq
  rw [e9] at hW
  refine W.eq (g2 := F0 m 9 ls [.int (tw_b (tw_in x 0 3)), .ref (ad 14 0)]) rfl ?_
  refine kx_cV (na := 1) F (q := 14) (n := 0) (c_X4_asked l G z0 ad nb sg (tw_b (tw_in x 0 3)) (tw_b_01 _)) gX4_fees_X4_asked rfl (by decide +kernel) ⟨Nat.le_of_ble_eq_true rfl, Nat.le_of_ble_eq_true rfl⟩ hW hS ⟨by decide, rfl⟩ rfl rfl (As := [.int (tw_b (tw_in x 0 3))]) (rest := []) rfl hl.1 rfl (Nat.le_of_ble_eq_true rfl) dX4_fees_9 ⟨by first | exact Nat.le_of_ble_eq_true rfl | omega, by first | exact Nat.le_of_ble_eq_true rfl | omega⟩ (fun r9 sg9 H locs hq hW hS => ?_)
  obtain ⟨rfl, e9⟩ := hq
  rw [e9] at hW
  have hW : kx_Wd G z0 ad nb (kx_up sg 14 0 (upd (sg 14 0) 22 (tw_a1 (tw_b (tw_in x 0 3))))) H := by first | exact hW | (simp only [kx_up_s, kx_up_up] at hW; exact hW) | (simp only [kx_up_s, kx_up_up, upd_s] at hW; exact hW)
  refine W.eq (g2 := F0 m 12 ls [.int (tw_b (tw_in x 0 3))]) rfl ?_
  refine lv_istore_n (lv' := [(3, .int (tw_b (tw_in x 0 3))), (2, .int 0), (0, .ref (ad 14 0)), (1, .int x)]) hx hb dX4_fees_12 rfl hl (by decide) rfl (fun ls hl => ?_)
  refine lv_iconst (v := 0) hx hb dX4_fees_13 (by decide) ?_
  refine lv_istore (lv' := [(4, .int 0), (3, .int (tw_b (tw_in x 0 3))), (2, .int 0), (0, .ref (ad 14 0)), (1, .int x)]) hx hb dX4_fees_14 hl (by decide) rfl (fun ls hl => ?_)
  rcases Bool.eq_false_or_eq_true (tw_in x 0 3) with hA | hA
  · have hT9 : tw_a1 (tw_b (tw_in x 0 3)) = 0 := by rw [hA]; decide
    rw [hT9] at hW
    exact loop hA mb 0 (by omega) _ _ ls hW hS (lv_sub hl [0, 2, 1, 3, 4] rfl)
  · refine lv_iload_n hx hb dX4_fees_16 rfl (lv_at hl 1 rfl) ?_
    refine lv_if_eq (tgt := 73) hx hb dX4_fees_17 (by decide) (fun c_17 => ?_) (fun c_17 => ?_)
    · refine lv_iload_n hx hb dX4_fees_73 rfl (lv_at hl 2 rfl) ?_
      exact kx_ri F hr hlocks hW hS (by first | exact Nat.le_of_ble_eq_true rfl | omega) (by first | exact Nat.le_of_ble_eq_true rfl | omega) (Or.inl ⟨tw_nocour hA, rfl, tm_Q_th (by rw [hA]; decide)⟩) dX4_fees_74
    · rw [hA] at c_17; exact absurd rfl c_17

theorem tm_Q_fr {sg s1 : kx_S} (h : tm_fr (kx_up sg 14 0 (upd (sg 14 0) 22 0)) s1) : tm_Q sg s1 0 := by
  rw [tm_fr_ex h]
  exact tm_Q_sc rfl _ _
theorem tw_liesS {st : Int32} {mk : Nat → Int32} {x T : Int32} {k : Nat} (h1 : mk k = x) (h2 : tw_tru st (nI k) = false) : T + tw_lies st mk x (k + 1) = T + tw_lies st mk x k + 1 := by rw [tw_lies_t h1 h2, Int32.add_assoc]

theorem tw_bit1t {st x : Int32} (c : ¬ (st >>> (x &&& 31)) &&& 1 = 0) : tw_tru st x = true := by
  rcases Bool.eq_false_or_eq_true (tw_tru st x) with h | h
  · exact h
  · exact absurd ((tw_bit01 st x).mpr h) c

set_option maxHeartbeats 8000000 in
set_option maxRecDepth 100000 in
theorem c_X4_lies (l : Launch) (G : kx_G) (z0 : Nat) (ad : kx_A) (nb : Nat) (sg : kx_S) (mb : Nat) (hwf : tm_WF mb sg) (x : Int32) : kx_M l yX4_lies wsX4_lies 3 72 0 0 G z0 ad nb sg [.ref (ad 14 0), .int x] (fun r sg' => ((∀ c, c < 14 → ¬ x = nI c) ∧ r = some (.int 0) ∧ tm_Q sg sg' 1) ∨ ((∃ c : Nat, c < 14 ∧ x = nI c) ∧ r = some (.int (tm_liesA sg x mb)) ∧ tm_Q sg sg' 0)) := by
  refine Met.ofW (cc := cX4_lies) (maxL := 7) (ret := (some .int)) (by decide) rfl ?_
  intro p e s m args below meth c s₁ B hml hv
  obtain ⟨rfl, hW, hV⟩ := hv
  have hts := atoms_spec (ws := wsX4_lies) B.pre
  have F : kx_F p s m c cX4_lies 7 RX4 _ wsX4_lies G z0 := ⟨B.exec, B.bytes, hml, findClass_of_methodNamed B.named, hts, hV⟩
  have hx := B.exec; have hb := B.bytes; have hr := B.returns; have hlocks := B.notSynchronized
  have hS : va_S (kx_Ad z0) s.heap s.heap [] := va_S.rf
  have hmb16 := hwf.2.1
  have L_16 : Cond.fieldLink RX4 16 (TX4 3).1 (TX4 3).2.1 (TX4 3).2.2.1 ∈ wsX4_lies := by decide +kernel
  have L_35 : Cond.fieldLink RX4 35 (TX4 10).1 (TX4 10).2.1 (TX4 10).2.2.1 ∈ wsX4_lies := by decide +kernel
  have L_66 : Cond.fieldLink RX4 66 (TX4 7).1 (TX4 7).2.1 (TX4 7).2.2.1 ∈ wsX4_lies := by decide +kernel
  have inX4 : ∀ w ∈ u_ws RX4 TX4 23, w ∈ wsX4_lies := by decide +kernel
  have hl := lv_entry ([.ref (ad 14 0), .int x]) (n := 7) (Nat.le_of_ble_eq_true rfl)
  rw [lg_entry_eq]
  generalize (lg_sl ([.ref (ad 14 0), .int x]) ++ List.replicate (7 - (lg_sl ([.ref (ad 14 0), .int x])).length) Slot.unset).toArray = ls at hl ⊢
  have hl : lv_has ls 7 [(0, .ref (ad 14 0)), (1, .int x)] := hl
  have loop : tw_in x 0 13 = true → ∀ (j b : Nat) (s1 : kx_S), mb = b + j → tm_fr (kx_up sg 14 0 (upd (sg 14 0) 22 0)) s1 → ∀ (H : Heap) (locs : List Loc) (ls : Array Slot), kx_Wd G z0 ad nb s1 H → va_S (kx_Ad z0) s.heap H locs → lv_has ls 7 [(4, .int (nI b)), (2, .int (tm_liesA sg x b)), (3, .int (tw_b (tw_in x 0 13))), (0, .ref (ad 14 0)), (1, .int x)] → W p l e (headSpec wsX4_lies { frames := 3, cells := 0, slots := 0, locals := 72 }).room s m ([.ref (ad 14 0), .int x] : List Value).toArray below meth c H locs 0 0 (MQ below (kx_Q G z0 ad nb (fun r sg' => ((∀ c, c < 14 → ¬ x = nI c) ∧ r = some (.int 0) ∧ tm_Q sg sg' 1) ∨ ((∃ c : Nat, c < 14 ∧ x = nI c) ∧ r = some (.int (tm_liesA sg x mb)) ∧ tm_Q sg sg' 0))) ([.ref (ad 14 0), .int x] : List Value).toArray s 0 0 (kx_Ad z0)) (F0 m 17 ls []) := by
    intro hA j
    induction j with
    | zero =>
      intro b s1 hk hfr H locs ls hW hS hl
      have e7 : s1 14 0 7 = nI mb := (congrFun (hfr 14 0 (by decide) (by decide)) 7).trans (by simp [kx_up, upd]; exact hwf.1)
      refine lv_iload_n hx hb dX4_lies_17 rfl (lv_at hl 2 rfl) ?_
      refine lv_if_eq (tgt := 100) hx hb dX4_lies_18 (by decide) (fun c_18 => ?_) (fun c_18 => ?_)
      · rw [hA] at c_18; exact absurd c_18 (by decide)
      · refine lv_iload hx hb dX4_lies_21 (lv_at hl 0 rfl) ?_
        refine lv_aload_n hx hb dX4_lies_23 rfl (lv_at hl 3 rfl) ?_
        refine kx_g F inX4 hW 14 0 ⟨by decide, rfl⟩ rfl rfl 7 (by decide) L_66 (v := .int (nI mb)) (congrArg (fun z => some (Value.int z)) e7) dX4_lies_24 ?_
        refine lv_icmp_ge (tgt := 100) hx hb dX4_lies_27 (by decide) (fun c_27 => ?_) (fun c_27 => ?_)
        · refine lv_iload_n hx hb dX4_lies_100 rfl (lv_at hl 1 rfl) ?_
          exact kx_ri F hr hlocks hW hS (by first | exact Nat.le_of_ble_eq_true rfl | omega) (by first | exact Nat.le_of_ble_eq_true rfl | omega) (Or.inr ⟨tw_iswho hA, by rw [show b = mb by omega], tm_Q_fr hfr⟩) dX4_lies_101
        · exact absurd (nI_le (by omega) (by omega)) c_27
    | succ j ih =>
      intro b s1 hk hfr H locs ls hW hS hl
      have e7 : s1 14 0 7 = nI mb := (congrFun (hfr 14 0 (by decide) (by decide)) 7).trans (by simp [kx_up, upd]; exact hwf.1)
      have e17 : s1 17 0 = sg 17 0 := hfr 17 0 (by decide) (by decide)
      have e21 : s1 21 0 = sg 21 0 := hfr 21 0 (by decide) (by decide)
      have e22 : s1 22 0 = sg 22 0 := hfr 22 0 (by decide) (by decide)
      have e23 : s1 23 0 = sg 23 0 := hfr 23 0 (by decide) (by decide)
      have e24 : s1 24 0 = sg 24 0 := hfr 24 0 (by decide) (by decide)
      have e29 : s1 29 0 = sg 29 0 := hfr 29 0 (by decide) (by decide)
      obtain ⟨n9, hn9, h129, hwho9⟩ := hwf.2.2.1 b (by omega)
      have en9 := tm_n_eq hn9 h129
      have inner : ∀ (j2 k : Nat) (s1 : kx_S), n9 = k + j2 → tm_fr (kx_up sg 14 0 (upd (sg 14 0) 22 0)) s1 → ∀ (H : Heap) (locs : List Loc) (ls : Array Slot), kx_Wd G z0 ad nb s1 H → va_S (kx_Ad z0) s.heap H locs → lv_has ls 7 [(6, .int (nI k)), (5, .int (tm_st sg b n9)), (4, .int (nI b)), (2, .int (tm_liesA sg x b + tw_lies (tm_st sg b n9) (tm_mk sg b) x k)), (3, .int (tw_b (tw_in x 0 13))), (0, .ref (ad 14 0)), (1, .int x)] → W p l e (headSpec wsX4_lies { frames := 3, cells := 0, slots := 0, locals := 72 }).room s m ([.ref (ad 14 0), .int x] : List Value).toArray below meth c H locs 0 0 (MQ below (kx_Q G z0 ad nb (fun r sg' => ((∀ c, c < 14 → ¬ x = nI c) ∧ r = some (.int 0) ∧ tm_Q sg sg' 1) ∨ ((∃ c : Nat, c < 14 ∧ x = nI c) ∧ r = some (.int (tm_liesA sg x mb)) ∧ tm_Q sg sg' 0))) ([.ref (ad 14 0), .int x] : List Value).toArray s 0 0 (kx_Ad z0)) (F0 m 41 ls []) := by
        clear hfr e7 e17 e21 e22 e23 e24 e29 hW hS hl
        intro j2
        induction j2 with
        | zero =>
          intro k s1 hk2 hfr H locs ls hW hS hl
          have e17 : s1 17 0 b = nI n9 := (congrFun (hfr 17 0 (by decide) (by decide)) b).trans hn9
          have e23 : s1 23 0 = sg 23 0 := hfr 23 0 (by decide) (by decide)
          refine lv_iload hx hb dX4_lies_41 (lv_at hl 0 rfl) ?_
          refine lv_aload_n hx hb dX4_lies_43 rfl (lv_at hl 5 rfl) ?_
          refine kx_g F inX4 hW 14 0 ⟨by decide, rfl⟩ rfl rfl 3 (by decide) L_16 (v := .ref (ad 17 0)) rfl dX4_lies_44 ?_
          refine lv_iload hx hb dX4_lies_47 (lv_at hl 2 rfl) ?_
          refine kx_ald F hW 17 0 ⟨by decide, rfl⟩ rfl b (by omega) (by decide) (v := nI n9) e17 dX4_lies_49 ?_
          refine lv_icmp_ge (tgt := 94) hx hb dX4_lies_50 (by decide) (fun c_50 => ?_) (fun c_50 => ?_)
          · refine lv_iinc (v := nI (b + 1)) (lv' := [(4, .int (nI (b + 1))), (6, .int (nI k)), (5, .int (tm_st sg b n9)), (2, .int (tm_liesA sg x b + tw_lies (tm_st sg b n9) (tm_mk sg b) x k)), (3, .int (tw_b (tw_in x 0 13))), (0, .ref (ad 14 0)), (1, .int x)]) hx hb dX4_lies_94 hl (k := 2) rfl (nI_1 b) (by decide) rfl (fun ls hl => ?_)
            refine lv_goto (tgt := 17) hx hb dX4_lies_97 (by decide) ?_
            exact ih (b + 1) s1 (by omega) hfr H locs ls hW hS (by
              rw [show tm_liesA sg x (b + 1) = tm_liesA sg x b + tw_lies (tm_st sg b n9) (tm_mk sg b) x k by rw [tm_liesA, en9, show k = n9 by omega]]
              exact lv_sub hl [0, 3, 4, 5, 6] rfl)
          · exact absurd (nI_le (by omega) (by omega)) c_50
        | succ j2 ih2 =>
          intro k s1 hk2 hfr H locs ls hW hS hl
          have e17 : s1 17 0 b = nI n9 := (congrFun (hfr 17 0 (by decide) (by decide)) b).trans hn9
          have e23 : s1 23 0 = sg 23 0 := hfr 23 0 (by decide) (by decide)
          refine lv_iload hx hb dX4_lies_41 (lv_at hl 0 rfl) ?_
          refine lv_aload_n hx hb dX4_lies_43 rfl (lv_at hl 5 rfl) ?_
          refine kx_g F inX4 hW 14 0 ⟨by decide, rfl⟩ rfl rfl 3 (by decide) L_16 (v := .ref (ad 17 0)) rfl dX4_lies_44 ?_
          refine lv_iload hx hb dX4_lies_47 (lv_at hl 2 rfl) ?_
          refine kx_ald F hW 17 0 ⟨by decide, rfl⟩ rfl b (by omega) (by decide) (v := nI n9) e17 dX4_lies_49 ?_
          refine lv_icmp_ge (tgt := 94) hx hb dX4_lies_50 (by decide) (fun c_50 => ?_) (fun c_50 => ?_)
          · exact absurd c_50 (nI_ge (by omega) (by omega))
          · refine lv_iload_n hx hb dX4_lies_53 rfl (lv_at hl 3 rfl) ?_
            refine lv_aload_n hx hb dX4_lies_54 rfl (lv_at hl 5 rfl) ?_
            refine kx_g F inX4 hW 14 0 ⟨by decide, rfl⟩ rfl rfl 10 (by decide) L_35 (v := .ref (ad 23 0)) rfl dX4_lies_55 ?_
            refine lv_bipush (v := 12) hx hb dX4_lies_58 (by decide) ?_
            refine lv_iload hx hb dX4_lies_60 (lv_at hl 2 rfl) ?_
            refine lv_imul hx hb dX4_lies_62 ?_
            refine lv_iload hx hb dX4_lies_63 (lv_at hl 0 rfl) ?_
            refine lv_iadd hx hb dX4_lies_65 ?_
            rw [tw_ix b k]
            refine kx_ald F hW 23 0 ⟨by decide, rfl⟩ rfl (12 * b + k) (by omega) (by decide) (v := sg 23 0 (12 * b + k)) (congrFun e23 _) dX4_lies_66 ?_
            refine lv_iload_n hx hb dX4_lies_67 rfl (lv_at hl 6 rfl) ?_
            refine lv_icmp_ne (tgt := 85) hx hb dX4_lies_68 (by decide) (fun c_68 => ?_) (fun c_68 => ?_)
            · refine lv_iconst (v := 0) hx hb dX4_lies_85 (by decide) ?_
              refine lv_iadd hx hb dX4_lies_86 ?_
              refine lv_istore_n (lv' := [(2, .int ((tm_liesA sg x b + tw_lies (tm_st sg b n9) (tm_mk sg b) x k) + 0)), (6, .int (nI k)), (5, .int (tm_st sg b n9)), (4, .int (nI b)), (3, .int (tw_b (tw_in x 0 13))), (0, .ref (ad 14 0)), (1, .int x)]) hx hb dX4_lies_87 rfl hl (by decide) rfl (fun ls hl => ?_)
              refine lv_iinc (v := nI (k + 1)) (lv' := [(6, .int (nI (k + 1))), (2, .int ((tm_liesA sg x b + tw_lies (tm_st sg b n9) (tm_mk sg b) x k) + 0)), (5, .int (tm_st sg b n9)), (4, .int (nI b)), (3, .int (tw_b (tw_in x 0 13))), (0, .ref (ad 14 0)), (1, .int x)]) hx hb dX4_lies_88 hl (k := 1) rfl (nI_1 k) (by decide) rfl (fun ls hl => ?_)
              refine lv_goto (tgt := 41) hx hb dX4_lies_91 (by decide) ?_
              exact ih2 (k + 1) s1 (by omega) hfr H locs ls hW hS (by
                rw [show tm_liesA sg x b + tw_lies (tm_st sg b n9) (tm_mk sg b) x (k + 1) = (tm_liesA sg x b + tw_lies (tm_st sg b n9) (tm_mk sg b) x k) + 0 from (show tm_liesA sg x b + tw_lies (tm_st sg b n9) (tm_mk sg b) x (k + 1) = tm_liesA sg x b + tw_lies (tm_st sg b n9) (tm_mk sg b) x k from by rw [tw_lies_f1 (show ¬ tm_mk sg b k = x from c_68)]).trans (Int32.add_zero _).symm]
                exact lv_sub hl [0, 2, 3, 1, 4, 5, 6] rfl)
            · refine lv_iload hx hb dX4_lies_71 (lv_at hl 1 rfl) ?_
              refine lv_iload hx hb dX4_lies_73 (lv_at hl 0 rfl) ?_
              refine lv_ishr hx hb dX4_lies_75 ?_
              refine lv_iconst (v := 1) hx hb dX4_lies_76 (by decide) ?_
              refine lv_iand hx hb dX4_lies_77 ?_
              refine lv_if_ne (tgt := 85) hx hb dX4_lies_78 (by decide) (fun c_78 => ?_) (fun c_78 => ?_)
              · refine lv_iconst (v := 0) hx hb dX4_lies_85 (by decide) ?_
                refine lv_iadd hx hb dX4_lies_86 ?_
                refine lv_istore_n (lv' := [(2, .int ((tm_liesA sg x b + tw_lies (tm_st sg b n9) (tm_mk sg b) x k) + 0)), (6, .int (nI k)), (5, .int (tm_st sg b n9)), (4, .int (nI b)), (3, .int (tw_b (tw_in x 0 13))), (0, .ref (ad 14 0)), (1, .int x)]) hx hb dX4_lies_87 rfl hl (by decide) rfl (fun ls hl => ?_)
                refine lv_iinc (v := nI (k + 1)) (lv' := [(6, .int (nI (k + 1))), (2, .int ((tm_liesA sg x b + tw_lies (tm_st sg b n9) (tm_mk sg b) x k) + 0)), (5, .int (tm_st sg b n9)), (4, .int (nI b)), (3, .int (tw_b (tw_in x 0 13))), (0, .ref (ad 14 0)), (1, .int x)]) hx hb dX4_lies_88 hl (k := 1) rfl (nI_1 k) (by decide) rfl (fun ls hl => ?_)
                refine lv_goto (tgt := 41) hx hb dX4_lies_91 (by decide) ?_
                exact ih2 (k + 1) s1 (by omega) hfr H locs ls hW hS (by
                  rw [show tm_liesA sg x b + tw_lies (tm_st sg b n9) (tm_mk sg b) x (k + 1) = (tm_liesA sg x b + tw_lies (tm_st sg b n9) (tm_mk sg b) x k) + 0 from (show tm_liesA sg x b + tw_lies (tm_st sg b n9) (tm_mk sg b) x (k + 1) = tm_liesA sg x b + tw_lies (tm_st sg b n9) (tm_mk sg b) x k from by rw [tw_lies_f2 (tw_bit1t c_78)]).trans (Int32.add_zero _).symm]
                  exact lv_sub hl [0, 2, 3, 1, 4, 5, 6] rfl)
              · refine lv_iconst (v := 1) hx hb dX4_lies_81 (by decide) ?_
                refine lv_goto (tgt := 86) hx hb dX4_lies_82 (by decide) ?_
                refine lv_iadd hx hb dX4_lies_86 ?_
                refine lv_istore_n (lv' := [(2, .int ((tm_liesA sg x b + tw_lies (tm_st sg b n9) (tm_mk sg b) x k) + 1)), (6, .int (nI k)), (5, .int (tm_st sg b n9)), (4, .int (nI b)), (3, .int (tw_b (tw_in x 0 13))), (0, .ref (ad 14 0)), (1, .int x)]) hx hb dX4_lies_87 rfl hl (by decide) rfl (fun ls hl => ?_)
                refine lv_iinc (v := nI (k + 1)) (lv' := [(6, .int (nI (k + 1))), (2, .int ((tm_liesA sg x b + tw_lies (tm_st sg b n9) (tm_mk sg b) x k) + 1)), (5, .int (tm_st sg b n9)), (4, .int (nI b)), (3, .int (tw_b (tw_in x 0 13))), (0, .ref (ad 14 0)), (1, .int x)]) hx hb dX4_lies_88 hl (k := 1) rfl (nI_1 k) (by decide) rfl (fun ls hl => ?_)
                refine lv_goto (tgt := 41) hx hb dX4_lies_91 (by decide) ?_
                exact ih2 (k + 1) s1 (by omega) hfr H locs ls hW hS (by
                  rw [show tm_liesA sg x b + tw_lies (tm_st sg b n9) (tm_mk sg b) x (k + 1) = (tm_liesA sg x b + tw_lies (tm_st sg b n9) (tm_mk sg b) x k) + 1 from tw_liesS (show tm_mk sg b k = x from c_68) ((tw_bit01 _ _).mp c_78)]
                  exact lv_sub hl [0, 2, 3, 1, 4, 5, 6] rfl)
      refine lv_iload_n hx hb dX4_lies_17 rfl (lv_at hl 2 rfl) ?_
      refine lv_if_eq (tgt := 100) hx hb dX4_lies_18 (by decide) (fun c_18 => ?_) (fun c_18 => ?_)
      · rw [hA] at c_18; exact absurd c_18 (by decide)
      · refine lv_iload hx hb dX4_lies_21 (lv_at hl 0 rfl) ?_
        refine lv_aload_n hx hb dX4_lies_23 rfl (lv_at hl 3 rfl) ?_
        refine kx_g F inX4 hW 14 0 ⟨by decide, rfl⟩ rfl rfl 7 (by decide) L_66 (v := .int (nI mb)) (congrArg (fun z => some (Value.int z)) e7) dX4_lies_24 ?_
        refine lv_icmp_ge (tgt := 100) hx hb dX4_lies_27 (by decide) (fun c_27 => ?_) (fun c_27 => ?_)
        · exact absurd c_27 (nI_ge (by omega) (by omega))
        · refine lv_aload_n hx hb dX4_lies_30 rfl (lv_at hl 3 rfl) ?_
          refine lv_iload hx hb dX4_lies_31 (lv_at hl 0 rfl) ?_
          refine kx_cV (na := 1) F (q := 14) (n := 0) (c_X4_storyOf l G z0 ad nb s1 b (by omega) n9 ((congrFun e17 b).trans hn9) h129 (by rw [e23]; exact hwho9) (by rw [e24]; exact hwf.2.2.2)) gX4_lies_X4_storyOf rfl (by decide +kernel) ⟨Nat.le_of_ble_eq_true rfl, Nat.le_of_ble_eq_true rfl⟩ hW hS ⟨by decide, rfl⟩ rfl rfl (As := [.int (nI b)]) (rest := []) rfl hl.1 rfl (Nat.le_of_ble_eq_true rfl) dX4_lies_33 ⟨by first | exact Nat.le_of_ble_eq_true rfl | omega, by first | exact Nat.le_of_ble_eq_true rfl | omega⟩ (fun r9 sg9 H locs hq hW hS => ?_)
          obtain ⟨rfl, f9, g9, e9⟩ := hq
          rw [tm_st_eq e21 e22 e23 e24 e29]
          rw [e9] at hW
          have hW : kx_Wd G z0 ad nb (kx_up (kx_up s1 30 0 f9) 31 0 g9) H := by first | exact hW | (simp only [kx_up_s, kx_up_up] at hW; exact hW) | (simp only [kx_up_s, kx_up_up, upd_s] at hW; exact hW)
          refine W.eq (g2 := F0 m 36 ls [.int (tm_st sg b n9)]) rfl ?_
          refine lv_istore (lv' := [(5, .int (tm_st sg b n9)), (4, .int (nI b)), (2, .int (tm_liesA sg x b)), (3, .int (tw_b (tw_in x 0 13))), (0, .ref (ad 14 0)), (1, .int x)]) hx hb dX4_lies_36 hl (by decide) rfl (fun ls hl => ?_)
          refine lv_iconst (v := 0) hx hb dX4_lies_38 (by decide) ?_
          refine lv_istore (lv' := [(6, .int 0), (5, .int (tm_st sg b n9)), (4, .int (nI b)), (2, .int (tm_liesA sg x b)), (3, .int (tw_b (tw_in x 0 13))), (0, .ref (ad 14 0)), (1, .int x)]) hx hb dX4_lies_39 hl (by decide) rfl (fun ls hl => ?_)
          have hfr2 : tm_fr (kx_up sg 14 0 (upd (sg 14 0) 22 0)) (kx_up (kx_up s1 30 0 f9) 31 0 g9) := fun q m h0 h1 => by rw [← hfr q m h0 h1]; simp [kx_up, h0, h1]
          exact inner n9 0 _ (by omega) hfr2 H locs ls hW hS (by
            rw [show tm_liesA sg x b + tw_lies (tm_st sg b n9) (tm_mk sg b) x 0 = tm_liesA sg x b from Int32.add_zero _]
            exact lv_sub hl [0, 1, 2, 3, 4, 5, 6] rfl)
  refine lv_iconst (v := 0) hx hb dX4_lies_0 (by decide) ?_
  refine lv_istore_n (lv' := [(2, .int 0), (0, .ref (ad 14 0)), (1, .int x)]) hx hb dX4_lies_1 rfl hl (by decide) rfl (fun ls hl => ?_)
  refine lv_aload_n hx hb dX4_lies_2 rfl (lv_at hl 1 rfl) ?_
  refine lv_iload_n hx hb dX4_lies_3 rfl (lv_at hl 2 rfl) ?_
  refine lv_iconst (v := 0) hx hb dX4_lies_4 (by decide) ?_
  refine lv_bipush (v := 13) hx hb dX4_lies_5 (by decide) ?_
  refine kx_cS (na := 3) F (c_X4_in l G z0 ad nb sg x 0 13) gX4_lies_X4_in rfl (by decide +kernel) ⟨Nat.le_of_ble_eq_true rfl, Nat.le_of_ble_eq_true rfl⟩ hW hS (As := [.int x, .int 0, .int 13]) (rest := [.ref (ad 14 0)]) rfl hl.1 rfl (Nat.le_of_ble_eq_true rfl) dX4_lies_7 ⟨by first | exact Nat.le_of_ble_eq_true rfl | omega, by first | exact Nat.le_of_ble_eq_true rfl | omega⟩ (fun r9 sg9 H locs hq hW hS => ?_)
  obtain ⟨rfl, e9⟩ := hq
  rw [e9] at hW
  refine W.eq (g2 := F0 m 10 ls [.int (tw_b (tw_in x 0 13)), .ref (ad 14 0)]) rfl ?_
  refine kx_cV (na := 1) F (q := 14) (n := 0) (c_X4_asked l G z0 ad nb sg (tw_b (tw_in x 0 13)) (tw_b_01 _)) gX4_lies_X4_asked rfl (by decide +kernel) ⟨Nat.le_of_ble_eq_true rfl, Nat.le_of_ble_eq_true rfl⟩ hW hS ⟨by decide, rfl⟩ rfl rfl (As := [.int (tw_b (tw_in x 0 13))]) (rest := []) rfl hl.1 rfl (Nat.le_of_ble_eq_true rfl) dX4_lies_10 ⟨by first | exact Nat.le_of_ble_eq_true rfl | omega, by first | exact Nat.le_of_ble_eq_true rfl | omega⟩ (fun r9 sg9 H locs hq hW hS => ?_)
  obtain ⟨rfl, e9⟩ := hq
  rw [e9] at hW
  have hW : kx_Wd G z0 ad nb (kx_up sg 14 0 (upd (sg 14 0) 22 (tw_a1 (tw_b (tw_in x 0 13))))) H := by first | exact hW | (simp only [kx_up_s, kx_up_up] at hW; exact hW) | (simp only [kx_up_s, kx_up_up, upd_s] at hW; exact hW)
  refine W.eq (g2 := F0 m 13 ls [.int (tw_b (tw_in x 0 13))]) rfl ?_
  refine lv_istore_n (lv' := [(3, .int (tw_b (tw_in x 0 13))), (2, .int 0), (0, .ref (ad 14 0)), (1, .int x)]) hx hb dX4_lies_13 rfl hl (by decide) rfl (fun ls hl => ?_)
  refine lv_iconst (v := 0) hx hb dX4_lies_14 (by decide) ?_
  refine lv_istore (lv' := [(4, .int 0), (3, .int (tw_b (tw_in x 0 13))), (2, .int 0), (0, .ref (ad 14 0)), (1, .int x)]) hx hb dX4_lies_15 hl (by decide) rfl (fun ls hl => ?_)
  rcases Bool.eq_false_or_eq_true (tw_in x 0 13) with hA | hA
  · have hT9 : tw_a1 (tw_b (tw_in x 0 13)) = 0 := by rw [hA]; decide
    rw [hT9] at hW
    exact loop hA mb 0 _ (by omega) (fun _ _ _ _ => rfl) _ _ ls hW hS (lv_sub hl [0, 2, 1, 3, 4] rfl)
  · refine lv_iload_n hx hb dX4_lies_17 rfl (lv_at hl 1 rfl) ?_
    refine lv_if_eq (tgt := 100) hx hb dX4_lies_18 (by decide) (fun c_18 => ?_) (fun c_18 => ?_)
    · refine lv_iload_n hx hb dX4_lies_100 rfl (lv_at hl 2 rfl) ?_
      exact kx_ri F hr hlocks hW hS (by first | exact Nat.le_of_ble_eq_true rfl | omega) (by first | exact Nat.le_of_ble_eq_true rfl | omega) (Or.inl ⟨tw_nowho hA, rfl, tm_Q_th (by rw [hA]; decide)⟩) dX4_lies_101
    · rw [hA] at c_18; exact absurd rfl c_18
