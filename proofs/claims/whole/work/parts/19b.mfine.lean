def tm_fineOf (now w s : Int32) : Int32 := if tw_srt w = 2 then (if 0 < (now - s) / 60 - 24 then 2 * ((now - s) / 60 - 24) else 0) else 0
def tm_fin (st : Int32) (pl tm : Nat → Int32) (w z g : Int32) (k : Nat) : Int32 := if g = 0 then z else tw_since st pl tm w k z
theorem tm_fin_n {st : Int32} {pl tm : Nat → Int32} {w z g : Int32} {k : Nat} (h : ¬ (st >>> (nI k &&& 31)) &&& 1 = 1) : tm_fin st pl tm w z g (k + 1) = tm_fin st pl tm w z g k := by
  unfold tm_fin
  rw [tw_since_1 (decide_eq_false h)]
theorem tm_fin_0 {st : Int32} {pl tm : Nat → Int32} {w z g : Int32} {k : Nat} (h : g = 0) : tm_fin st pl tm w z g (k + 1) = tm_fin st pl tm w z 0 k := by
  unfold tm_fin
  rw [if_pos h, if_pos rfl]
theorem tm_fin_1 {st : Int32} {pl tm : Nat → Int32} {w z g : Int32} {k : Nat} (h : ¬ g = 0) (h2 : (st >>> (nI k &&& 31)) &&& 1 = 1) (h3 : ¬ pl k = w) : tm_fin st pl tm w z g (k + 1) = tm_fin st pl tm w z 0 k := by
  unfold tm_fin
  rw [if_neg h, if_pos rfl, tw_since_2 (decide_eq_true h2) h3]
theorem tm_fin_2 {st : Int32} {pl tm : Nat → Int32} {w z g : Int32} {k : Nat} (h : ¬ g = 0) (h2 : (st >>> (nI k &&& 31)) &&& 1 = 1) (h3 : pl k = w) : tm_fin st pl tm w z g (k + 1) = tm_fin st pl tm w (tm k) 1 k := by
  unfold tm_fin
  rw [if_neg h, if_neg (by decide), tw_since_3 (decide_eq_true h2) h3]
theorem tm_fin_e {st : Int32} {pl tm : Nat → Int32} {w z g : Int32} : tm_fin st pl tm w z g 0 = z := by
  unfold tm_fin; split <;> rfl

set_option maxHeartbeats 8000000 in
set_option maxRecDepth 100000 in
theorem c_X4_fine (l : Launch) (G : kx_G) (z0 : Nat) (ad : kx_A) (nb : Nat) (sg : kx_S) (mb : Nat) (hwf : tm_WF mb sg) (x : Int32) : kx_M l yX4_fine wsX4_fine 3 72 0 0 G z0 ad nb sg [.ref (ad 14 0), .int x] (fun r sg' => ((∀ k, k < mb → ¬ x = nI k) ∧ r = some (.int 0) ∧ tm_Q sg sg' 1) ∨ (∃ k : Nat, k < mb ∧ x = nI k ∧ r = some (.int (tm_fineOf (sg 14 0 0) (tw_last (tm_st sg k (tm_n sg k)) (tm_pl sg k) (tm_n sg k)) (tw_since (tm_st sg k (tm_n sg k)) (tm_pl sg k) (tm_tm sg k) (tw_last (tm_st sg k (tm_n sg k)) (tm_pl sg k) (tm_n sg k)) (tm_n sg k) (sg 14 0 0)))) ∧ tm_Q sg sg' 0)) := by
  refine Met.ofW (cc := cX4_fine) (maxL := 7) (ret := (some .int)) (by decide) rfl ?_
  intro p e s m args below meth c s₁ B hml hv
  obtain ⟨rfl, hW, hV⟩ := hv
  have hts := atoms_spec (ws := wsX4_fine) B.pre
  have F : kx_F p s m c cX4_fine 7 RX4 _ wsX4_fine G z0 := ⟨B.exec, B.bytes, hml, findClass_of_methodNamed B.named, hts, hV⟩
  have hx := B.exec; have hb := B.bytes; have hr := B.returns; have hlocks := B.notSynchronized
  have hS : va_S (kx_Ad z0) s.heap s.heap [] := va_S.rf
  have hmb16 := hwf.2.1
  have L_107 : Cond.fieldLink RX4 107 (TX4 0).1 (TX4 0).2.1 (TX4 0).2.2.1 ∈ wsX4_fine := by decide +kernel
  have L_16 : Cond.fieldLink RX4 16 (TX4 3).1 (TX4 3).2.1 (TX4 3).2.2.1 ∈ wsX4_fine := by decide +kernel
  have L_29 : Cond.fieldLink RX4 29 (TX4 8).1 (TX4 8).2.1 (TX4 8).2.2.1 ∈ wsX4_fine := by decide +kernel
  have L_32 : Cond.fieldLink RX4 32 (TX4 9).1 (TX4 9).2.1 (TX4 9).2.2.1 ∈ wsX4_fine := by decide +kernel
  have inX4 : ∀ w ∈ u_ws RX4 TX4 23, w ∈ wsX4_fine := by decide +kernel
  have hl := lv_entry ([.ref (ad 14 0), .int x]) (n := 7) (Nat.le_of_ble_eq_true rfl)
  rw [lg_entry_eq]
  generalize (lg_sl ([.ref (ad 14 0), .int x]) ++ List.replicate (7 - (lg_sl ([.ref (ad 14 0), .int x])).length) Slot.unset).toArray = ls at hl ⊢
  have hl : lv_has ls 7 [(0, .ref (ad 14 0)), (1, .int x)] := hl
  refine lv_aload_n hx hb dX4_fine_0 rfl (lv_at hl 0 rfl) ?_
  refine lv_aload_n hx hb dX4_fine_1 rfl (lv_at hl 0 rfl) ?_
  refine lv_iload_n hx hb dX4_fine_2 rfl (lv_at hl 1 rfl) ?_
  refine kx_cV (na := 1) F (q := 14) (n := 0) (c_X4_isBox l G z0 ad nb sg x) gX4_fine_X4_isBox rfl (by decide +kernel) ⟨Nat.le_of_ble_eq_true rfl, Nat.le_of_ble_eq_true rfl⟩ hW hS ⟨by decide, rfl⟩ rfl rfl (As := [.int x]) (rest := [.ref (ad 14 0)]) rfl hl.1 rfl (Nat.le_of_ble_eq_true rfl) dX4_fine_3 ⟨by first | exact Nat.le_of_ble_eq_true rfl | omega, by first | exact Nat.le_of_ble_eq_true rfl | omega⟩ (fun r9 sg9 H locs hq hW hS => ?_)
  obtain ⟨rfl, e9⟩ := hq
  rw [e9] at hW
  refine W.eq (g2 := F0 m 6 ls [.int (tw_b (tw_in x 0 (sg 14 0 7 - 1))), .ref (ad 14 0)]) rfl ?_
  refine kx_cV (na := 1) F (q := 14) (n := 0) (c_X4_asked l G z0 ad nb sg (tw_b (tw_in x 0 (sg 14 0 7 - 1))) (tw_b_01 _)) gX4_fine_X4_asked rfl (by decide +kernel) ⟨Nat.le_of_ble_eq_true rfl, Nat.le_of_ble_eq_true rfl⟩ hW hS ⟨by decide, rfl⟩ rfl rfl (As := [.int (tw_b (tw_in x 0 (sg 14 0 7 - 1)))]) (rest := []) rfl hl.1 rfl (Nat.le_of_ble_eq_true rfl) dX4_fine_6 ⟨by first | exact Nat.le_of_ble_eq_true rfl | omega, by first | exact Nat.le_of_ble_eq_true rfl | omega⟩ (fun r9 sg9 H locs hq hW hS => ?_)
  obtain ⟨rfl, e9⟩ := hq
  rw [e9] at hW
  have hW : kx_Wd G z0 ad nb (kx_up sg 14 0 (upd (sg 14 0) 22 (tw_a1 (tw_b (tw_in x 0 (sg 14 0 7 - 1)))))) H := by first | exact hW | (simp only [kx_up_s, kx_up_up] at hW; exact hW) | (simp only [kx_up_s, kx_up_up, upd_s] at hW; exact hW)
  refine W.eq (g2 := F0 m 9 ls [.int (tw_b (tw_in x 0 (sg 14 0 7 - 1)))]) rfl ?_
  refine lv_if_ne (tgt := 14) hx hb dX4_fine_9 (by decide) (fun c_9 => ?_) (fun c_9 => ?_)
  · obtain ⟨k9, hk9, rfl⟩ := tw_isbox hwf (tw_b_1 c_9)
    have hT9 : tw_a1 (tw_b (tw_in (nI k9) 0 (sg 14 0 7 - 1))) = 0 := if_neg c_9
    rw [hT9] at hW
    obtain ⟨n9, hn9, h129, hwho9⟩ := hwf.2.2.1 k9 hk9
    have en9 := tm_n_eq hn9 h129
    refine lv_aload_n hx hb dX4_fine_14 rfl (lv_at hl 0 rfl) ?_
    refine lv_iload_n hx hb dX4_fine_15 rfl (lv_at hl 1 rfl) ?_
    refine kx_cV (na := 1) F (q := 14) (n := 0) (c_X4_storyOf l G z0 ad nb (kx_up sg 14 0 (upd (sg 14 0) 22 0)) k9 (by omega) n9 hn9 h129 hwho9 hwf.2.2.2) gX4_fine_X4_storyOf rfl (by decide +kernel) ⟨Nat.le_of_ble_eq_true rfl, Nat.le_of_ble_eq_true rfl⟩ hW hS ⟨by decide, rfl⟩ rfl rfl (As := [.int (nI k9)]) (rest := []) rfl hl.1 rfl (Nat.le_of_ble_eq_true rfl) dX4_fine_16 ⟨by first | exact Nat.le_of_ble_eq_true rfl | omega, by first | exact Nat.le_of_ble_eq_true rfl | omega⟩ (fun r9 sg9 H locs hq hW hS => ?_)
    have hq : r9 = some (.int (tm_st sg k9 n9)) ∧ ∃ f g : Nat → Int32, sg9 = kx_up (kx_up (kx_up sg 14 0 (upd (sg 14 0) 22 0)) 30 0 f) 31 0 g := hq
    obtain ⟨rfl, f9, g9, e9⟩ := hq
    rw [e9] at hW
    have hW : kx_Wd G z0 ad nb (kx_up (kx_up (kx_up sg 14 0 (upd (sg 14 0) 22 0)) 30 0 f9) 31 0 g9) H := by first | exact hW | (simp only [kx_up_s, kx_up_up] at hW; exact hW) | (simp only [kx_up_s, kx_up_up, upd_s] at hW; exact hW)
    refine W.eq (g2 := F0 m 19 ls [.int (tm_st sg k9 n9)]) rfl ?_
    refine lv_istore_n (lv' := [(2, .int (tm_st sg k9 n9)), (0, .ref (ad 14 0)), (1, .int (nI k9))]) hx hb dX4_fine_19 rfl hl (by decide) rfl (fun ls hl => ?_)
    refine lv_aload_n hx hb dX4_fine_20 rfl (lv_at hl 1 rfl) ?_
    refine lv_iload_n hx hb dX4_fine_21 rfl (lv_at hl 2 rfl) ?_
    refine lv_iload_n hx hb dX4_fine_22 rfl (lv_at hl 0 rfl) ?_
    refine kx_cV (na := 2) F (q := 14) (n := 0) (c_X4_placeBy l G z0 ad nb (kx_up (kx_up (kx_up sg 14 0 (upd (sg 14 0) 22 0)) 30 0 f9) 31 0 g9) k9 (by omega) n9 hn9 h129 (tm_st sg k9 n9)) gX4_fine_X4_placeBy rfl (by decide +kernel) ⟨Nat.le_of_ble_eq_true rfl, Nat.le_of_ble_eq_true rfl⟩ hW hS ⟨by decide, rfl⟩ rfl rfl (As := [.int (nI k9), .int (tm_st sg k9 n9)]) (rest := []) rfl hl.1 rfl (Nat.le_of_ble_eq_true rfl) dX4_fine_23 ⟨by first | exact Nat.le_of_ble_eq_true rfl | omega, by first | exact Nat.le_of_ble_eq_true rfl | omega⟩ (fun r9 sg9 H locs hq hW hS => ?_)
    have hq : r9 = some (.int (tw_last (tm_st sg k9 n9) (tm_pl sg k9) n9)) ∧ sg9 = kx_up (kx_up (kx_up sg 14 0 (upd (sg 14 0) 22 0)) 30 0 f9) 31 0 g9 := hq
    obtain ⟨rfl, e9⟩ := hq
    rw [e9] at hW
    refine W.eq (g2 := F0 m 26 ls [.int (tw_last (tm_st sg k9 n9) (tm_pl sg k9) n9)]) rfl ?_
    refine lv_istore_n (lv' := [(3, .int (tw_last (tm_st sg k9 n9) (tm_pl sg k9) n9)), (2, .int (tm_st sg k9 n9)), (0, .ref (ad 14 0)), (1, .int (nI k9))]) hx hb dX4_fine_26 rfl hl (by decide) rfl (fun ls hl => ?_)
    refine lv_iload_n hx hb dX4_fine_27 rfl (lv_at hl 0 rfl) ?_
    refine kx_cS (na := 1) F (c_X4_sort l G z0 ad nb (kx_up (kx_up (kx_up sg 14 0 (upd (sg 14 0) 22 0)) 30 0 f9) 31 0 g9) (tw_last (tm_st sg k9 n9) (tm_pl sg k9) n9)) gX4_fine_X4_sort rfl (by decide +kernel) ⟨Nat.le_of_ble_eq_true rfl, Nat.le_of_ble_eq_true rfl⟩ hW hS (As := [.int (tw_last (tm_st sg k9 n9) (tm_pl sg k9) n9)]) (rest := []) rfl hl.1 rfl (Nat.le_of_ble_eq_true rfl) dX4_fine_28 ⟨by first | exact Nat.le_of_ble_eq_true rfl | omega, by first | exact Nat.le_of_ble_eq_true rfl | omega⟩ (fun r9 sg9 H locs hq hW hS => ?_)
    obtain ⟨rfl, e9⟩ := hq
    rw [e9] at hW
    refine W.eq (g2 := F0 m 31 ls [.int (tw_srt (tw_last (tm_st sg k9 n9) (tm_pl sg k9) n9))]) rfl ?_
    refine lv_iconst (v := 2) hx hb dX4_fine_31 (by decide) ?_
    refine lv_icmp_eq (tgt := 37) hx hb dX4_fine_32 (by decide) (fun c_32 => ?_) (fun c_32 => ?_)
    · refine lv_aload_n hx hb dX4_fine_37 rfl (lv_at hl 2 rfl) ?_
      refine kx_g F inX4 hW 14 0 ⟨by decide, rfl⟩ rfl rfl 0 (by decide) L_107 (v := .int (sg 14 0 0)) (by simp [kx_up, upd]) dX4_fine_38 ?_
      refine lv_istore (lv' := [(4, .int (sg 14 0 0)), (3, .int (tw_last (tm_st sg k9 n9) (tm_pl sg k9) n9)), (2, .int (tm_st sg k9 n9)), (0, .ref (ad 14 0)), (1, .int (nI k9))]) hx hb dX4_fine_41 hl (by decide) rfl (fun ls hl => ?_)
      refine lv_iconst (v := 1) hx hb dX4_fine_43 (by decide) ?_
      refine lv_istore (lv' := [(5, .int 1), (4, .int (sg 14 0 0)), (3, .int (tw_last (tm_st sg k9 n9) (tm_pl sg k9) n9)), (2, .int (tm_st sg k9 n9)), (0, .ref (ad 14 0)), (1, .int (nI k9))]) hx hb dX4_fine_44 hl (by decide) rfl (fun ls hl => ?_)
      refine lv_aload_n hx hb dX4_fine_46 rfl (lv_at hl 4 rfl) ?_
      refine kx_g F inX4 hW 14 0 ⟨by decide, rfl⟩ rfl rfl 3 (by decide) L_16 (v := .ref (ad 17 0)) rfl dX4_fine_47 ?_
      refine lv_iload_n hx hb dX4_fine_50 rfl (lv_at hl 5 rfl) ?_
      refine kx_ald F hW 17 0 ⟨by decide, rfl⟩ rfl k9 (by omega) (by decide) (v := nI n9) (by simp [kx_up]; exact hn9) dX4_fine_51 ?_
      refine lv_iconst (v := 1) hx hb dX4_fine_52 (by decide) ?_
      refine lv_isub hx hb dX4_fine_53 ?_
      refine lv_istore (lv' := [(6, .int ((nI n9) - 1)), (5, .int 1), (4, .int (sg 14 0 0)), (3, .int (tw_last (tm_st sg k9 n9) (tm_pl sg k9) n9)), (2, .int (tm_st sg k9 n9)), (0, .ref (ad 14 0)), (1, .int (nI k9))]) hx hb dX4_fine_54 hl (by decide) rfl (fun ls hl => ?_)
      have hw2 : tw_srt (tw_last (tm_st sg k9 n9) (tm_pl sg k9) n9) = 2 := c_32
      have loop : ∀ (k : Nat) (z g : Int32), k ≤ n9 → tm_fin (tm_st sg k9 n9) (tm_pl sg k9) (tm_tm sg k9) (tw_last (tm_st sg k9 n9) (tm_pl sg k9) n9) z g k = tw_since (tm_st sg k9 n9) (tm_pl sg k9) (tm_tm sg k9) (tw_last (tm_st sg k9 n9) (tm_pl sg k9) n9) n9 (sg 14 0 0) → ∀ (H : Heap) (locs : List Loc) (ls : Array Slot), kx_Wd G z0 ad nb (kx_up (kx_up (kx_up sg 14 0 (upd (sg 14 0) 22 0)) 30 0 f9) 31 0 g9) H → va_S (kx_Ad z0) s.heap H locs → lv_has ls 7 [(6, .int (nI k - 1)), (5, .int g), (4, .int z), (3, .int (tw_last (tm_st sg k9 n9) (tm_pl sg k9) n9)), (2, .int (tm_st sg k9 n9)), (0, .ref (ad 14 0)), (1, .int (nI k9))] → W p l e (headSpec wsX4_fine { frames := 3, cells := 0, slots := 0, locals := 72 }).room s m ([.ref (ad 14 0), .int (nI k9)] : List Value).toArray below meth c H locs 0 0 (MQ below (kx_Q G z0 ad nb (fun r sg' => ((∀ k, k < mb → ¬ (nI k9) = nI k) ∧ r = some (.int 0) ∧ tm_Q sg sg' 1) ∨ (∃ k : Nat, k < mb ∧ (nI k9) = nI k ∧ r = some (.int (tm_fineOf (sg 14 0 0) (tw_last (tm_st sg k (tm_n sg k)) (tm_pl sg k) (tm_n sg k)) (tw_since (tm_st sg k (tm_n sg k)) (tm_pl sg k) (tm_tm sg k) (tw_last (tm_st sg k (tm_n sg k)) (tm_pl sg k) (tm_n sg k)) (tm_n sg k) (sg 14 0 0)))) ∧ tm_Q sg sg' 0))) ([.ref (ad 14 0), .int (nI k9)] : List Value).toArray s 0 0 (kx_Ad z0)) (F0 m 56 ls []) := by
        intro k
        induction k with
        | zero =>
          intro z g hk hL H locs ls hW hS hl
          refine lv_iload hx hb dX4_fine_56 (lv_at hl 0 rfl) ?_
          refine lv_if_lt (tgt := 129) hx hb dX4_fine_58 (by decide) (fun c_58 => ?_) (fun c_58 => ?_)
          · refine lv_aload_n hx hb dX4_fine_129 rfl (lv_at hl 5 rfl) ?_
            refine kx_g F inX4 hW 14 0 ⟨by decide, rfl⟩ rfl rfl 0 (by decide) L_107 (v := .int (sg 14 0 0)) (by simp [kx_up, upd]) dX4_fine_130 ?_
            refine lv_iload hx hb dX4_fine_133 (lv_at hl 2 rfl) ?_
            refine lv_isub hx hb dX4_fine_135 ?_
            refine lv_bipush (v := 60) hx hb dX4_fine_136 (by decide) ?_
            refine lv_idiv hx hb dX4_fine_138 (by decide) ?_
            refine lv_bipush (v := 24) hx hb dX4_fine_139 (by decide) ?_
            refine lv_isub hx hb dX4_fine_141 ?_
            refine lv_istore (lv' := [(6, .int ((((sg 14 0 0) - z) / 60) - 24)), (5, .int g), (4, .int z), (3, .int (tw_last (tm_st sg k9 n9) (tm_pl sg k9) n9)), (2, .int (tm_st sg k9 n9)), (0, .ref (ad 14 0)), (1, .int (nI k9))]) hx hb dX4_fine_142 hl (by decide) rfl (fun ls hl => ?_)
            refine lv_iload hx hb dX4_fine_144 (lv_at hl 0 rfl) ?_
            refine lv_if_le (tgt := 156) hx hb dX4_fine_146 (by decide) (fun c_146 => ?_) (fun c_146 => ?_)
            · refine lv_iconst (v := 0) hx hb dX4_fine_156 (by decide) ?_
              exact kx_ri F hr hlocks hW hS (by first | exact Nat.le_of_ble_eq_true rfl | omega) (by first | exact Nat.le_of_ble_eq_true rfl | omega) (Or.inr ⟨k9, hk9, rfl, by rw [en9, tm_fineOf, if_pos hw2, ← hL, tm_fin_e, if_neg (tw_ge c_146)], tm_Q_sc rfl f9 g9⟩) dX4_fine_157
            · refine lv_iconst (v := 2) hx hb dX4_fine_149 (by decide) ?_
              refine lv_iload hx hb dX4_fine_150 (lv_at hl 0 rfl) ?_
              refine lv_imul hx hb dX4_fine_152 ?_
              refine lv_goto (tgt := 157) hx hb dX4_fine_153 (by decide) ?_
              exact kx_ri F hr hlocks hW hS (by first | exact Nat.le_of_ble_eq_true rfl | omega) (by first | exact Nat.le_of_ble_eq_true rfl | omega) (Or.inr ⟨k9, hk9, rfl, by rw [en9, tm_fineOf, if_pos hw2, ← hL, tm_fin_e, if_pos (tw_nge c_146)], tm_Q_sc rfl f9 g9⟩) dX4_fine_157
          · exact absurd (by decide) c_58
        | succ k ih =>
          intro z g hk hL H locs ls hW hS hl
          rw [tw_m1] at hl
          refine lv_iload hx hb dX4_fine_56 (lv_at hl 0 rfl) ?_
          refine lv_if_lt (tgt := 129) hx hb dX4_fine_58 (by decide) (fun c_58 => ?_) (fun c_58 => ?_)
          · exact absurd c_58 (tw_neg k (by omega))
          · refine lv_iload_n hx hb dX4_fine_61 rfl (lv_at hl 4 rfl) ?_
            refine lv_iload hx hb dX4_fine_62 (lv_at hl 0 rfl) ?_
            refine lv_ishr hx hb dX4_fine_64 ?_
            refine lv_iconst (v := 1) hx hb dX4_fine_65 (by decide) ?_
            refine lv_iand hx hb dX4_fine_66 ?_
            refine lv_iconst (v := 1) hx hb dX4_fine_67 (by decide) ?_
            refine lv_icmp_ne (tgt := 123) hx hb dX4_fine_68 (by decide) (fun c_68 => ?_) (fun c_68 => ?_)
            · refine lv_iinc (v := nI k - 1) (lv' := [(6, .int (nI k - 1)), (5, .int g), (4, .int z), (3, .int (tw_last (tm_st sg k9 n9) (tm_pl sg k9) n9)), (2, .int (tm_st sg k9 n9)), (0, .ref (ad 14 0)), (1, .int (nI k9))]) hx hb dX4_fine_123 hl (k := 0) rfl (by rw [Int32.sub_eq_add_neg]; rfl) (by decide) rfl (fun ls hl => ?_)
              refine lv_goto (tgt := 56) hx hb dX4_fine_126 (by decide) ?_
              exact ih _ _ (by omega) ((tm_fin_n c_68).symm.trans hL) H locs ls hW hS (lv_sub hl [0, 1, 2, 3, 4, 5, 6] rfl)
            · refine lv_iload hx hb dX4_fine_71 (lv_at hl 1 rfl) ?_
              refine lv_if_eq (tgt := 96) hx hb dX4_fine_73 (by decide) (fun c_73 => ?_) (fun c_73 => ?_)
              · refine lv_iconst (v := 0) hx hb dX4_fine_96 (by decide) ?_
                refine lv_istore (lv' := [(5, .int 0), (6, .int (nI k)), (4, .int z), (3, .int (tw_last (tm_st sg k9 n9) (tm_pl sg k9) n9)), (2, .int (tm_st sg k9 n9)), (0, .ref (ad 14 0)), (1, .int (nI k9))]) hx hb dX4_fine_97 hl (by decide) rfl (fun ls hl => ?_)
                refine lv_iload hx hb dX4_fine_99 (lv_at hl 0 rfl) ?_
                refine lv_if_eq (tgt := 119) hx hb dX4_fine_101 (by decide) (fun c_101 => ?_) (fun c_101 => ?_)
                · refine lv_iload hx hb dX4_fine_119 (lv_at hl 2 rfl) ?_
                  refine lv_istore (lv' := [(4, .int z), (5, .int 0), (6, .int (nI k)), (3, .int (tw_last (tm_st sg k9 n9) (tm_pl sg k9) n9)), (2, .int (tm_st sg k9 n9)), (0, .ref (ad 14 0)), (1, .int (nI k9))]) hx hb dX4_fine_121 hl (by decide) rfl (fun ls hl => ?_)
                  refine lv_iinc (v := nI k - 1) (lv' := [(6, .int (nI k - 1)), (4, .int z), (5, .int 0), (3, .int (tw_last (tm_st sg k9 n9) (tm_pl sg k9) n9)), (2, .int (tm_st sg k9 n9)), (0, .ref (ad 14 0)), (1, .int (nI k9))]) hx hb dX4_fine_123 hl (k := 2) rfl (by rw [Int32.sub_eq_add_neg]; rfl) (by decide) rfl (fun ls hl => ?_)
                  refine lv_goto (tgt := 56) hx hb dX4_fine_126 (by decide) ?_
                  exact ih _ _ (by omega) ((tm_fin_0 c_73).symm.trans hL) H locs ls hW hS (lv_sub hl [0, 2, 1, 3, 4, 5, 6] rfl)
                · exact absurd rfl c_101
              · refine lv_aload_n hx hb dX4_fine_76 rfl (lv_at hl 5 rfl) ?_
                refine kx_g F inX4 hW 14 0 ⟨by decide, rfl⟩ rfl rfl 8 (by decide) L_29 (v := .ref (ad 21 0)) rfl dX4_fine_77 ?_
                refine lv_bipush (v := 12) hx hb dX4_fine_80 (by decide) ?_
                refine lv_iload_n hx hb dX4_fine_82 rfl (lv_at hl 6 rfl) ?_
                refine lv_imul hx hb dX4_fine_83 ?_
                refine lv_iload hx hb dX4_fine_84 (lv_at hl 0 rfl) ?_
                refine lv_iadd hx hb dX4_fine_86 ?_
                rw [tw_ix k9 k]
                refine kx_ald F hW 21 0 ⟨by decide, rfl⟩ rfl (12 * k9 + k) (by omega) (by decide) (v := sg 21 0 (12 * k9 + k)) (by simp [kx_up]) dX4_fine_87 ?_
                refine lv_iload_n hx hb dX4_fine_88 rfl (lv_at hl 3 rfl) ?_
                refine lv_icmp_ne (tgt := 96) hx hb dX4_fine_89 (by decide) (fun c_89 => ?_) (fun c_89 => ?_)
                · refine lv_iconst (v := 0) hx hb dX4_fine_96 (by decide) ?_
                  refine lv_istore (lv' := [(5, .int 0), (6, .int (nI k)), (4, .int z), (3, .int (tw_last (tm_st sg k9 n9) (tm_pl sg k9) n9)), (2, .int (tm_st sg k9 n9)), (0, .ref (ad 14 0)), (1, .int (nI k9))]) hx hb dX4_fine_97 hl (by decide) rfl (fun ls hl => ?_)
                  refine lv_iload hx hb dX4_fine_99 (lv_at hl 0 rfl) ?_
                  refine lv_if_eq (tgt := 119) hx hb dX4_fine_101 (by decide) (fun c_101 => ?_) (fun c_101 => ?_)
                  · refine lv_iload hx hb dX4_fine_119 (lv_at hl 2 rfl) ?_
                    refine lv_istore (lv' := [(4, .int z), (5, .int 0), (6, .int (nI k)), (3, .int (tw_last (tm_st sg k9 n9) (tm_pl sg k9) n9)), (2, .int (tm_st sg k9 n9)), (0, .ref (ad 14 0)), (1, .int (nI k9))]) hx hb dX4_fine_121 hl (by decide) rfl (fun ls hl => ?_)
                    refine lv_iinc (v := nI k - 1) (lv' := [(6, .int (nI k - 1)), (4, .int z), (5, .int 0), (3, .int (tw_last (tm_st sg k9 n9) (tm_pl sg k9) n9)), (2, .int (tm_st sg k9 n9)), (0, .ref (ad 14 0)), (1, .int (nI k9))]) hx hb dX4_fine_123 hl (k := 2) rfl (by rw [Int32.sub_eq_add_neg]; rfl) (by decide) rfl (fun ls hl => ?_)
                    refine lv_goto (tgt := 56) hx hb dX4_fine_126 (by decide) ?_
                    exact ih _ _ (by omega) ((tm_fin_1 c_73 c_68 (show ¬ tm_pl sg k9 k = _ from c_89)).symm.trans hL) H locs ls hW hS (lv_sub hl [0, 2, 1, 3, 4, 5, 6] rfl)
                  · exact absurd rfl c_101
                · refine lv_iconst (v := 1) hx hb dX4_fine_92 (by decide) ?_
                  refine lv_goto (tgt := 97) hx hb dX4_fine_93 (by decide) ?_
                  refine lv_istore (lv' := [(5, .int 1), (6, .int (nI k)), (4, .int z), (3, .int (tw_last (tm_st sg k9 n9) (tm_pl sg k9) n9)), (2, .int (tm_st sg k9 n9)), (0, .ref (ad 14 0)), (1, .int (nI k9))]) hx hb dX4_fine_97 hl (by decide) rfl (fun ls hl => ?_)
                  refine lv_iload hx hb dX4_fine_99 (lv_at hl 0 rfl) ?_
                  refine lv_if_eq (tgt := 119) hx hb dX4_fine_101 (by decide) (fun c_101 => ?_) (fun c_101 => ?_)
                  · exact absurd c_101 (by decide)
                  · refine lv_aload_n hx hb dX4_fine_104 rfl (lv_at hl 5 rfl) ?_
                    refine kx_g F inX4 hW 14 0 ⟨by decide, rfl⟩ rfl rfl 9 (by decide) L_32 (v := .ref (ad 22 0)) rfl dX4_fine_105 ?_
                    refine lv_bipush (v := 12) hx hb dX4_fine_108 (by decide) ?_
                    refine lv_iload_n hx hb dX4_fine_110 rfl (lv_at hl 6 rfl) ?_
                    refine lv_imul hx hb dX4_fine_111 ?_
                    refine lv_iload hx hb dX4_fine_112 (lv_at hl 1 rfl) ?_
                    refine lv_iadd hx hb dX4_fine_114 ?_
                    rw [tw_ix k9 k]
                    refine kx_ald F hW 22 0 ⟨by decide, rfl⟩ rfl (12 * k9 + k) (by omega) (by decide) (v := sg 22 0 (12 * k9 + k)) (by simp [kx_up]) dX4_fine_115 ?_
                    refine lv_goto (tgt := 121) hx hb dX4_fine_116 (by decide) ?_
                    refine lv_istore (lv' := [(4, .int (sg 22 0 (12 * k9 + k))), (5, .int 1), (6, .int (nI k)), (3, .int (tw_last (tm_st sg k9 n9) (tm_pl sg k9) n9)), (2, .int (tm_st sg k9 n9)), (0, .ref (ad 14 0)), (1, .int (nI k9))]) hx hb dX4_fine_121 hl (by decide) rfl (fun ls hl => ?_)
                    refine lv_iinc (v := nI k - 1) (lv' := [(6, .int (nI k - 1)), (4, .int (sg 22 0 (12 * k9 + k))), (5, .int 1), (3, .int (tw_last (tm_st sg k9 n9) (tm_pl sg k9) n9)), (2, .int (tm_st sg k9 n9)), (0, .ref (ad 14 0)), (1, .int (nI k9))]) hx hb dX4_fine_123 hl (k := 2) rfl (by rw [Int32.sub_eq_add_neg]; rfl) (by decide) rfl (fun ls hl => ?_)
                    refine lv_goto (tgt := 56) hx hb dX4_fine_126 (by decide) ?_
                    exact ih _ _ (by omega) ((tm_fin_2 c_73 c_68 (show tm_pl sg k9 k = _ from c_89)).symm.trans hL) H locs ls hW hS (lv_sub hl [0, 2, 1, 3, 4, 5, 6] rfl)
      exact loop n9 (sg 14 0 0) 1 (Nat.le_refl n9) (if_neg (by decide)) H locs ls hW hS (lv_sub hl [0, 1, 2, 3, 4, 5, 6] rfl)
    · refine lv_iconst (v := 0) hx hb dX4_fine_35 (by decide) ?_
      exact kx_ri F hr hlocks hW hS (by first | exact Nat.le_of_ble_eq_true rfl | omega) (by first | exact Nat.le_of_ble_eq_true rfl | omega) (Or.inr ⟨k9, hk9, rfl, by rw [en9, tm_fineOf, if_neg c_32], tm_Q_sc rfl f9 g9⟩) dX4_fine_36
  · refine lv_iconst (v := 0) hx hb dX4_fine_12 (by decide) ?_
    exact kx_ri F hr hlocks hW hS (by first | exact Nat.le_of_ble_eq_true rfl | omega) (by first | exact Nat.le_of_ble_eq_true rfl | omega) (Or.inl ⟨tw_nobox hwf (tw_b_0 c_9), rfl, tm_Q_th (if_pos c_9)⟩) dX4_fine_13
