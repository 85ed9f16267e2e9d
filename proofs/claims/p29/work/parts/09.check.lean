theorem tw_in_nI2 {x : Int32} {n : Nat} (hn : n < 2 ^ 30) (h0 : ¬ x < 0) (h1 : x < nI n) : ∃ k : Nat, k < n ∧ x = nI k := by
  obtain ⟨j, hj, rfl⟩ := nI_of h0
  refine ⟨j, ?_, rfl⟩
  rcases Nat.lt_or_ge j n with q | q
  · exact q
  · exact absurd h1 (nI_nlt q hj)
def tw_pt (c w : Int32) : Int32 := if w = 0 then 1 + c else if w = 1 then 0 else 30
/-- well kept: every box has at most twelve scans, their makers are known, trust is from 1 to 9 -/
def tw_WF (nb : Nat) (sg : kx_S) : Prop := (∀ i, i < nb → ∃ n : Nat, sg 9 i 6 = nI n ∧ n ≤ 12 ∧ ∀ k, k < n → ∃ j : Nat, j ≤ 14 ∧ sg 12 i k = nI j) ∧ ∀ w, w < 14 → 1 ≤ (sg 3 0 w).toInt ∧ (sg 3 0 w).toInt ≤ 9
def tw_St (sg : kx_S) (i : Nat) (sg' : kx_S) : Prop := ∃ n : Nat, sg 9 i 6 = nI n ∧ n ≤ 12 ∧ tw_SR sg sg' i (tw_stl sg i n)
def tw_SA : Nat → kx_S → kx_S → Prop
  | 0, s, s' => s' = s
  | k + 1, s, s' => ∃ s1, tw_SA k s s1 ∧ tw_St s1 k s'
theorem tw_stl_6 (sg : kx_S) (i n : Nat) : (tw_stl sg i n).1 6 = sg 9 i 6 := by
  have hA : ∀ (dl : Bool) (x : tw_R), (tw_debA dl x).1 6 = x.1 6 := by
    intro dl x; unfold tw_debA; split
    · simp [upd]
    · rfl
  have hB : ∀ (dl : Bool) (co : Int32) (x : tw_R), (tw_debB dl co x).1 6 = x.1 6 := by
    intro dl co x; unfold tw_debB; split
    · simp [upd]
    · rfl
  have hC : ∀ (dl : Bool) (x : tw_R), (tw_debC dl x).1 6 = x.1 6 := by
    intro dl x; unfold tw_debC; split
    · simp [upd]
    · rfl
  unfold tw_stl tw_deb
  rw [hC, hB, hA]
  simp [upd]
theorem tw_WF_St {nb : Nat} {sg sg' : kx_S} {i : Nat} (h : tw_WF nb sg) (hs : tw_St sg i sg') : tw_WF nb sg' := by
  obtain ⟨n, hn, h12, hS, h9, h4, h5⟩ := hs
  have e12 : ∀ m, sg' 12 m = sg 12 m := fun m => hS 12 m (by decide) (by decide) (by decide) (by decide) (by omega)
  have e3 : ∀ m, sg' 3 m = sg 3 m := fun m => hS 3 m (by decide) (by decide) (by decide) (by decide) (by omega)
  refine ⟨fun j hj => ?_, fun w hw => by rw [e3]; exact h.2 w hw⟩
  obtain ⟨n2, q1, q2, q3⟩ := h.1 j hj
  refine ⟨n2, ?_, q2, fun k hk => by rw [e12]; exact q3 k hk⟩
  by_cases e : j = i
  · subst e
    rw [h9, tw_stl_6]
    exact q1
  · rw [hS 9 j (by decide) (by decide) (by decide) (by decide) (fun z => e z.2)]
    exact q1
theorem tw_WF_SA {nb : Nat} : ∀ {k : Nat} {sg sg' : kx_S}, tw_WF nb sg → tw_SA k sg sg' → tw_WF nb sg' := by
  intro k
  induction k with
  | zero => intro sg sg' h hs; rw [show sg' = sg from hs]; exact h
  | succ k ih =>
    intro sg sg' h hs
    obtain ⟨s1, h1, h2⟩ := hs
    exact tw_WF_St (ih h h1) h2

set_option maxHeartbeats 4000000 in
set_option maxRecDepth 100000 in
/-- all boxes, by rising numbers -/
theorem c_X3_settleAll (l : Launch) (G : kx_G) (z0 : Nat) (ad : kx_A) (nb : Nat) (sg : kx_S) (hnb : nb ≤ 16) (hwf : tw_WF nb sg) : kx_M l yX3_settleAll wsX3_settleAll 4 87 0 0 G z0 ad nb sg [.ref (ad 0 0)] (fun r sg' => r = none ∧ tw_SA nb sg sg') := by
  refine Met.ofW (cc := cX3_settleAll) (maxL := 5) (ret := none) (by decide) rfl ?_
  intro p e s m args below meth c s₁ B hml hv
  obtain ⟨rfl, hW, hV⟩ := hv
  have hts := atoms_spec (ws := wsX3_settleAll) B.pre
  have F : kx_F p s m c cX3_settleAll 5 RX3 _ wsX3_settleAll G z0 := ⟨B.exec, B.bytes, hml, findClass_of_methodNamed B.named, hts, hV⟩
  have hx := B.exec; have hb := B.bytes; have hr := B.returns; have hlocks := B.notSynchronized
  have hS : va_S (kx_Ad z0) s.heap s.heap [] := va_S.rf
  have L_11 : Cond.fieldLink RX3 11 (TX3 0).1 (TX3 0).2.1 (TX3 0).2.2.1 ∈ wsX3_settleAll := by decide +kernel
  have inX3 : ∀ w ∈ u_ws RX3 TX3 9, w ∈ wsX3_settleAll := by decide +kernel
  have hl := lv_entry ([.ref (ad 0 0)]) (n := 5) (Nat.le_of_ble_eq_true rfl)
  rw [lg_entry_eq]
  generalize (lg_sl ([.ref (ad 0 0)]) ++ List.replicate (5 - (lg_sl ([.ref (ad 0 0)])).length) Slot.unset).toArray = ls at hl ⊢
  have hl : lv_has ls 5 [(0, .ref (ad 0 0))] := hl
  have loop : ∀ (j k : Nat) (s1 : kx_S), 16 = k + j → tw_SA (min k nb) sg s1 → tw_WF nb s1 → ∀ (H : Heap) (locs : List Loc) (ls : Array Slot), kx_Wd G z0 ad nb s1 H → va_S (kx_Ad z0) s.heap H locs → lv_has ls 5 [(3, .int (nI k)), (2, .int (nI 16)), (1, .ref (ad 1 0)), (0, .ref (ad 0 0))] → W p l e (headSpec wsX3_settleAll { frames := 4, cells := 0, slots := 0, locals := 87 }).room s m ([.ref (ad 0 0)] : List Value).toArray below meth c H locs 0 0 (MQ below (kx_Q G z0 ad nb (fun r sg' => r = none ∧ tw_SA nb sg sg')) ([.ref (ad 0 0)] : List Value).toArray s 0 0 (kx_Ad z0)) (F0 m 10 ls []) := by
    intro j
    induction j with
    | zero =>
      intro k s1 hk hL hw1 H locs ls hW hS hl
      refine lv_iload_n hx hb dX3_settleAll_10 rfl (lv_at hl 0 rfl) ?_
      refine lv_iload_n hx hb dX3_settleAll_11 rfl (lv_at hl 1 rfl) ?_
      refine lv_icmp_ge (tgt := 37) hx hb dX3_settleAll_12 (by decide) (fun c_12 => ?_) (fun c_12 => ?_)
      · exact kx_rv F hr hlocks hW hS (by first | exact Nat.le_of_ble_eq_true rfl | omega) (by first | exact Nat.le_of_ble_eq_true rfl | omega) (⟨rfl, by rw [show min k nb = nb by omega] at hL; exact hL⟩) dX3_settleAll_37
      · exact absurd (nI_le (by omega) (by omega)) c_12
    | succ j ih =>
      intro k s1 hk hL hw1 H locs ls hW hS hl
      refine lv_iload_n hx hb dX3_settleAll_10 rfl (lv_at hl 0 rfl) ?_
      refine lv_iload_n hx hb dX3_settleAll_11 rfl (lv_at hl 1 rfl) ?_
      refine lv_icmp_ge (tgt := 37) hx hb dX3_settleAll_12 (by decide) (fun c_12 => ?_) (fun c_12 => ?_)
      · exact absurd c_12 (nI_ge (by omega) (by omega))
      · refine lv_aload_n hx hb dX3_settleAll_15 rfl (lv_at hl 2 rfl) ?_
        refine lv_iload_n hx hb dX3_settleAll_16 rfl (lv_at hl 0 rfl) ?_
        refine kx_aaldB F hW k (by omega) dX3_settleAll_17 (fun b_17 => ?_) (fun b_17 => ?_)
        · refine lv_astore (lv' := [(4, .ref (ad 9 k)), (3, .int (nI k)), (2, .int (nI 16)), (1, .ref (ad 1 0)), (0, .ref (ad 0 0))]) hx hb dX3_settleAll_18 hl (by decide) rfl (fun ls hl => ?_)
          refine lv_aload hx hb dX3_settleAll_20 (lv_at hl 0 rfl) ?_
          refine lv_ifnull hx hb dX3_settleAll_22 ?_
          obtain ⟨n9, hn9, h129, hm9⟩ := hw1.1 k b_17
          refine lv_aload_n hx hb dX3_settleAll_25 rfl (lv_at hl 4 rfl) ?_
          refine lv_aload hx hb dX3_settleAll_26 (lv_at hl 0 rfl) ?_
          refine kx_cV (na := 1) F (q := 0) (n := 0) (c_X3_settle l G z0 ad nb s1 k b_17 n9 hn9 h129 hm9 hw1.2) gX3_settleAll_X3_settle rfl (by decide +kernel) ⟨Nat.le_of_ble_eq_true rfl, Nat.le_of_ble_eq_true rfl⟩ hW hS ⟨by decide, rfl⟩ rfl rfl (As := [.ref (ad 9 k)]) (rest := []) rfl hl.1 rfl (Nat.le_of_ble_eq_true rfl) dX3_settleAll_28 ⟨by first | exact Nat.le_of_ble_eq_true rfl | omega, by first | exact Nat.le_of_ble_eq_true rfl | omega⟩ (fun r9 sg9 H locs hq hW hS => ?_)
          obtain ⟨rfl, hsr9⟩ := hq
          have hW : kx_Wd G z0 ad nb (sg9) H := by first | exact hW | (simp only [kx_up_s, kx_up_up] at hW; exact hW) | (simp only [kx_up_s, kx_up_up, upd_s] at hW; exact hW)
          refine W.eq (g2 := F0 m 31 ls []) rfl ?_
          refine lv_iinc (v := nI (k + 1)) (lv' := [(3, .int (nI (k + 1))), (4, .ref (ad 9 k)), (2, .int (nI 16)), (1, .ref (ad 1 0)), (0, .ref (ad 0 0))]) hx hb dX3_settleAll_31 hl (k := 1) rfl (nI_1 k) (by decide) rfl (fun ls hl => ?_)
          refine lv_goto (tgt := 10) hx hb dX3_settleAll_34 (by decide) ?_
          have hst9 : tw_St s1 k sg9 := ⟨n9, hn9, h129, hsr9⟩
          exact ih (k + 1) sg9 (by omega) (by
            rw [show min (k + 1) nb = k + 1 by omega]
            rw [show min k nb = k by omega] at hL
            exact ⟨s1, hL, hst9⟩) (tw_WF_St hw1 hst9) H locs ls hW hS (lv_sub hl [0, 2, 3, 4] rfl)
        · refine lv_astoreN (lv' := [(4, .null), (3, .int (nI k)), (2, .int (nI 16)), (1, .ref (ad 1 0)), (0, .ref (ad 0 0))]) hx hb dX3_settleAll_18 hl (by decide) rfl (fun ls hl => ?_)
          refine lv_aloadN hx hb dX3_settleAll_20 (lv_at hl 0 rfl) ?_
          refine lv_ifnullN (tgt := 31) hx hb dX3_settleAll_22 (by decide) ?_
          refine lv_iinc (v := nI (k + 1)) (lv' := [(3, .int (nI (k + 1))), (4, .null), (2, .int (nI 16)), (1, .ref (ad 1 0)), (0, .ref (ad 0 0))]) hx hb dX3_settleAll_31 hl (k := 1) rfl (nI_1 k) (by decide) rfl (fun ls hl => ?_)
          refine lv_goto (tgt := 10) hx hb dX3_settleAll_34 (by decide) ?_
          exact ih (k + 1) s1 (by omega) (by
            rw [show min (k + 1) nb = min k nb by omega]
            exact hL) hw1 H locs ls hW hS (lv_sub hl [0, 2, 3, 4] rfl)
  refine lv_aload_n hx hb dX3_settleAll_0 rfl (lv_at hl 0 rfl) ?_
  refine kx_g F inX3 hW 0 0 ⟨by decide, rfl⟩ rfl rfl 0 (by decide) L_11 (v := .ref (ad 1 0)) rfl dX3_settleAll_1 ?_
  refine lv_astore_n (lv' := [(1, .ref (ad 1 0)), (0, .ref (ad 0 0))]) hx hb dX3_settleAll_4 rfl hl (by decide) rfl (fun ls hl => ?_)
  refine lv_aload_n hx hb dX3_settleAll_5 rfl (lv_at hl 0 rfl) ?_
  refine kx_alenB F hW dX3_settleAll_6 ?_
  refine lv_istore_n (lv' := [(2, .int (nI 16)), (1, .ref (ad 1 0)), (0, .ref (ad 0 0))]) hx hb dX3_settleAll_7 rfl hl (by decide) rfl (fun ls hl => ?_)
  refine lv_iconst (v := 0) hx hb dX3_settleAll_8 (by decide) ?_
  refine lv_istore_n (lv' := [(3, .int 0), (2, .int (nI 16)), (1, .ref (ad 1 0)), (0, .ref (ad 0 0))]) hx hb dX3_settleAll_9 rfl hl (by decide) rfl (fun ls hl => ?_)
  exact loop 16 0 sg (by omega) (by rw [show min 0 nb = 0 by omega]; rfl) hwf _ _ ls hW hS (lv_sub hl [0, 1, 2, 3] rfl)

set_option maxHeartbeats 4000000 in
set_option maxRecDepth 100000 in
/-- a scan of now -/
theorem c_X3_addScan (l : Launch) (G : kx_G) (z0 : Nat) (ad : kx_A) (nb : Nat) (sg : kx_S) (i : Nat) (hi : i < nb) (n : Nat) (hn : sg 9 i 6 = nI n) (h12 : n < 12) (hm : ∀ k, k < n → ∃ j : Nat, j ≤ 14 ∧ sg 12 i k = nI j) (ht : ∀ w, w < 14 → 1 ≤ (sg 3 0 w).toInt ∧ (sg 3 0 w).toInt ≤ 9) (q : Int32) (mj : Nat) (hmj : mj ≤ 14) : kx_M l yX3_addScan wsX3_addScan 5 113 0 0 G z0 ad nb sg [.ref (ad 0 0), .ref (ad 9 i), .int q, .int (nI mj)] (fun r sg' => r = some (.int (nI n)) ∧ ∃ (a : Int32) (s1 : kx_S), (tw_tru a (nI 12) = decide (tw_cmn 0 q ≤ sg 0 0 7) ∧ ∀ j, j < n → tw_tru a (nI j) = decide (tw_cmn (sg 11 i j) q ≤ sg 0 0 7 - sg 10 i j)) ∧ s1 = kx_up (kx_up (kx_up (kx_up (kx_up sg 10 i (upd (sg 10 i) n (sg 0 0 7))) 11 i (upd (sg 11 i) n q)) 12 i (upd (sg 12 i) n (nI mj))) 13 i (upd (sg 13 i) n a)) 9 i (upd (sg 9 i) 6 (nI (n + 1))) ∧ tw_SR s1 sg' i (tw_stl s1 i (n + 1))) := by
  refine Met.ofW (cc := cX3_addScan) (maxL := 5) (ret := (some .int)) (by decide) rfl ?_
  intro p e s m args below meth c s₁ B hml hv
  obtain ⟨rfl, hW, hV⟩ := hv
  have hts := atoms_spec (ws := wsX3_addScan) B.pre
  have F : kx_F p s m c cX3_addScan 5 RX3 _ wsX3_addScan G z0 := ⟨B.exec, B.bytes, hml, findClass_of_methodNamed B.named, hts, hV⟩
  have hx := B.exec; have hb := B.bytes; have hr := B.returns; have hlocks := B.notSynchronized
  have hS : va_S (kx_Ad z0) s.heap s.heap [] := va_S.rf
  have L_42 : Cond.fieldLink RX3 42 (TX3 7).1 (TX3 7).2.1 (TX3 7).2.2.1 ∈ wsX3_addScan := by decide +kernel
  have inX3 : ∀ w ∈ u_ws RX3 TX3 9, w ∈ wsX3_addScan := by decide +kernel
  have hl := lv_entry ([.ref (ad 0 0), .ref (ad 9 i), .int q, .int (nI mj)]) (n := 5) (Nat.le_of_ble_eq_true rfl)
  rw [lg_entry_eq]
  generalize (lg_sl ([.ref (ad 0 0), .ref (ad 9 i), .int q, .int (nI mj)]) ++ List.replicate (5 - (lg_sl ([.ref (ad 0 0), .ref (ad 9 i), .int q, .int (nI mj)])).length) Slot.unset).toArray = ls at hl ⊢
  have hl : lv_has ls 5 [(0, .ref (ad 0 0)), (1, .ref (ad 9 i)), (2, .int q), (3, .int (nI mj))] := hl
  refine lv_aload_n hx hb dX3_addScan_0 rfl (lv_at hl 1 rfl) ?_
  refine lv_aload_n hx hb dX3_addScan_1 rfl (lv_at hl 0 rfl) ?_
  refine kx_g F inX3 hW 0 0 ⟨by decide, rfl⟩ rfl rfl 7 (by decide) L_42 (v := .int (sg 0 0 7)) rfl dX3_addScan_2 ?_
  refine lv_iload_n hx hb dX3_addScan_5 rfl (lv_at hl 2 rfl) ?_
  refine lv_iload_n hx hb dX3_addScan_6 rfl (lv_at hl 3 rfl) ?_
  refine kx_cV (na := 3) F (q := 9) (n := i) (c_X0_note l G z0 ad nb sg i hi n hn h12 (sg 0 0 7) q (nI mj)) gX3_addScan_X0_note rfl (by decide +kernel) ⟨Nat.le_of_ble_eq_true rfl, Nat.le_of_ble_eq_true rfl⟩ hW hS hi rfl rfl (As := [.int (sg 0 0 7), .int q, .int (nI mj)]) (rest := []) rfl hl.1 rfl (Nat.le_of_ble_eq_true rfl) dX3_addScan_7 ⟨by first | exact Nat.le_of_ble_eq_true rfl | omega, by first | exact Nat.le_of_ble_eq_true rfl | omega⟩ (fun r9 sg9 H locs hq hW hS => ?_)
  obtain ⟨rfl, a9, hab9, e9⟩ := hq
  rw [e9] at hW
  obtain ⟨s1, hs1⟩ : ∃ z, z = kx_up (kx_up (kx_up (kx_up (kx_up sg 10 i (upd (sg 10 i) n (sg 0 0 7))) 11 i (upd (sg 11 i) n q)) 12 i (upd (sg 12 i) n (nI mj))) 13 i (upd (sg 13 i) n a9)) 9 i (upd (sg 9 i) 6 (nI (n + 1))) := ⟨_, rfl⟩
  rw [← hs1] at hW
  have hW : kx_Wd G z0 ad nb (s1) H := by first | exact hW | (simp only [kx_up_s, kx_up_up] at hW; exact hW) | (simp only [kx_up_s, kx_up_up, upd_s] at hW; exact hW)
  refine W.eq (g2 := F0 m 10 ls [.int (nI n)]) rfl ?_
  have e96 : s1 9 i 6 = nI (n + 1) := by rw [hs1]; simp [kx_up, upd]
  have e12 : s1 12 i = upd (sg 12 i) n (nI mj) := by rw [hs1]; simp [kx_up]
  have e3 : s1 3 0 = sg 3 0 := by rw [hs1]; simp [kx_up]
  have hm9 : ∀ k, k < n + 1 → ∃ j : Nat, j ≤ 14 ∧ s1 12 i k = nI j := fun k hk => by
    rw [e12]
    by_cases e : k = n
    · subst e; exact ⟨mj, hmj, upd_s⟩
    · rw [upd_n e]; exact hm k (by omega)
  refine lv_istore (lv' := [(4, .int (nI n)), (0, .ref (ad 0 0)), (1, .ref (ad 9 i)), (2, .int q), (3, .int (nI mj))]) hx hb dX3_addScan_10 hl (by decide) rfl (fun ls hl => ?_)
  refine lv_aload_n hx hb dX3_addScan_12 rfl (lv_at hl 1 rfl) ?_
  refine lv_aload_n hx hb dX3_addScan_13 rfl (lv_at hl 2 rfl) ?_
  refine kx_cV (na := 1) F (q := 0) (n := 0) (c_X3_settle l G z0 ad nb s1 i hi (n + 1) e96 (by omega) hm9 (by rw [e3]; exact ht)) gX3_addScan_X3_settle rfl (by decide +kernel) ⟨Nat.le_of_ble_eq_true rfl, Nat.le_of_ble_eq_true rfl⟩ hW hS ⟨by decide, rfl⟩ rfl rfl (As := [.ref (ad 9 i)]) (rest := []) rfl hl.1 rfl (Nat.le_of_ble_eq_true rfl) dX3_addScan_14 ⟨by first | exact Nat.le_of_ble_eq_true rfl | omega, by first | exact Nat.le_of_ble_eq_true rfl | omega⟩ (fun r9 sg9 H locs hq hW hS => ?_)
  obtain ⟨rfl, hsr9⟩ := hq
  have hW : kx_Wd G z0 ad nb (sg9) H := by first | exact hW | (simp only [kx_up_s, kx_up_up] at hW; exact hW) | (simp only [kx_up_s, kx_up_up, upd_s] at hW; exact hW)
  refine W.eq (g2 := F0 m 17 ls []) rfl ?_
  refine lv_iload hx hb dX3_addScan_17 (lv_at hl 0 rfl) ?_
  exact kx_ri F hr hlocks hW hS (by first | exact Nat.le_of_ble_eq_true rfl | omega) (by first | exact Nat.le_of_ble_eq_true rfl | omega) (⟨rfl, a9, s1, hab9, hs1, hsr9⟩) dX3_addScan_19

set_option maxHeartbeats 4000000 in
set_option maxRecDepth 100000 in
/-- no room: the box is settled, nothing else -/
theorem c_X3_addScan_full (l : Launch) (G : kx_G) (z0 : Nat) (ad : kx_A) (nb : Nat) (sg : kx_S) (i : Nat) (hi : i < nb) (hn : sg 9 i 6 = nI 12) (hm : ∀ k, k < 12 → ∃ j : Nat, j ≤ 14 ∧ sg 12 i k = nI j) (ht : ∀ w, w < 14 → 1 ≤ (sg 3 0 w).toInt ∧ (sg 3 0 w).toInt ≤ 9) (q mk : Int32) : kx_M l yX3_addScan wsX3_addScan 5 113 0 0 G z0 ad nb sg [.ref (ad 0 0), .ref (ad 9 i), .int q, .int mk] (fun r sg' => r = some (.int (-1)) ∧ tw_SR sg sg' i (tw_stl sg i 12)) := by
  refine Met.ofW (cc := cX3_addScan) (maxL := 5) (ret := (some .int)) (by decide) rfl ?_
  intro p e s m args below meth c s₁ B hml hv
  obtain ⟨rfl, hW, hV⟩ := hv
  have hts := atoms_spec (ws := wsX3_addScan) B.pre
  have F : kx_F p s m c cX3_addScan 5 RX3 _ wsX3_addScan G z0 := ⟨B.exec, B.bytes, hml, findClass_of_methodNamed B.named, hts, hV⟩
  have hx := B.exec; have hb := B.bytes; have hr := B.returns; have hlocks := B.notSynchronized
  have hS : va_S (kx_Ad z0) s.heap s.heap [] := va_S.rf
  have L_42 : Cond.fieldLink RX3 42 (TX3 7).1 (TX3 7).2.1 (TX3 7).2.2.1 ∈ wsX3_addScan := by decide +kernel
  have inX3 : ∀ w ∈ u_ws RX3 TX3 9, w ∈ wsX3_addScan := by decide +kernel
  have hl := lv_entry ([.ref (ad 0 0), .ref (ad 9 i), .int q, .int mk]) (n := 5) (Nat.le_of_ble_eq_true rfl)
  rw [lg_entry_eq]
  generalize (lg_sl ([.ref (ad 0 0), .ref (ad 9 i), .int q, .int mk]) ++ List.replicate (5 - (lg_sl ([.ref (ad 0 0), .ref (ad 9 i), .int q, .int mk])).length) Slot.unset).toArray = ls at hl ⊢
  have hl : lv_has ls 5 [(0, .ref (ad 0 0)), (1, .ref (ad 9 i)), (2, .int q), (3, .int mk)] := hl
  refine lv_aload_n hx hb dX3_addScan_0 rfl (lv_at hl 1 rfl) ?_
  refine lv_aload_n hx hb dX3_addScan_1 rfl (lv_at hl 0 rfl) ?_
  refine kx_g F inX3 hW 0 0 ⟨by decide, rfl⟩ rfl rfl 7 (by decide) L_42 (v := .int (sg 0 0 7)) rfl dX3_addScan_2 ?_
  refine lv_iload_n hx hb dX3_addScan_5 rfl (lv_at hl 2 rfl) ?_
  refine lv_iload_n hx hb dX3_addScan_6 rfl (lv_at hl 3 rfl) ?_
  refine kx_cV (na := 3) F (q := 9) (n := i) (c_X0_note_full l G z0 ad nb sg i hi hn (sg 0 0 7) q mk) gX3_addScan_X0_note rfl (by decide +kernel) ⟨Nat.le_of_ble_eq_true rfl, Nat.le_of_ble_eq_true rfl⟩ hW hS hi rfl rfl (As := [.int (sg 0 0 7), .int q, .int mk]) (rest := []) rfl hl.1 rfl (Nat.le_of_ble_eq_true rfl) dX3_addScan_7 ⟨by first | exact Nat.le_of_ble_eq_true rfl | omega, by first | exact Nat.le_of_ble_eq_true rfl | omega⟩ (fun r9 sg9 H locs hq hW hS => ?_)
  obtain ⟨rfl, e9⟩ := hq
  rw [e9] at hW
  refine W.eq (g2 := F0 m 10 ls [.int (-1)]) rfl ?_
  refine lv_istore (lv' := [(4, .int (-1)), (0, .ref (ad 0 0)), (1, .ref (ad 9 i)), (2, .int q), (3, .int mk)]) hx hb dX3_addScan_10 hl (by decide) rfl (fun ls hl => ?_)
  refine lv_aload_n hx hb dX3_addScan_12 rfl (lv_at hl 1 rfl) ?_
  refine lv_aload_n hx hb dX3_addScan_13 rfl (lv_at hl 2 rfl) ?_
  refine kx_cV (na := 1) F (q := 0) (n := 0) (c_X3_settle l G z0 ad nb sg i hi 12 hn (Nat.le_refl 12) hm ht) gX3_addScan_X3_settle rfl (by decide +kernel) ⟨Nat.le_of_ble_eq_true rfl, Nat.le_of_ble_eq_true rfl⟩ hW hS ⟨by decide, rfl⟩ rfl rfl (As := [.ref (ad 9 i)]) (rest := []) rfl hl.1 rfl (Nat.le_of_ble_eq_true rfl) dX3_addScan_14 ⟨by first | exact Nat.le_of_ble_eq_true rfl | omega, by first | exact Nat.le_of_ble_eq_true rfl | omega⟩ (fun r9 sg9 H locs hq hW hS => ?_)
  obtain ⟨rfl, hsr9⟩ := hq
  have hW : kx_Wd G z0 ad nb (sg9) H := by first | exact hW | (simp only [kx_up_s, kx_up_up] at hW; exact hW) | (simp only [kx_up_s, kx_up_up, upd_s] at hW; exact hW)
  refine W.eq (g2 := F0 m 17 ls []) rfl ?_
  refine lv_iload hx hb dX3_addScan_17 (lv_at hl 0 rfl) ?_
  exact kx_ri F hr hlocks hW hS (by first | exact Nat.le_of_ble_eq_true rfl | omega) (by first | exact Nat.le_of_ble_eq_true rfl | omega) (⟨rfl, hsr9⟩) dX3_addScan_19

theorem tw_WF_door {nb : Nat} {sg : kx_S} {d : Nat} {r : Nat → Int32} (h : tw_WF nb sg) : tw_WF nb (kx_up sg 8 d r) := ⟨fun i hi => h.1 i hi, fun w hw => h.2 w hw⟩

set_option maxHeartbeats 4000000 in
set_option maxRecDepth 100000 in
/-- a wrong code -/
theorem c_X3_countWrongCode (l : Launch) (G : kx_G) (z0 : Nat) (ad : kx_A) (nb : Nat) (sg : kx_S) (hnb : nb ≤ 16) (hwf : tw_WF nb sg) (d : Nat) (hd : d < 10) : kx_M l yX3_countWrongCode wsX3_countWrongCode 5 111 0 0 G z0 ad nb sg [.ref (ad 0 0), .ref (ad 8 d)] (fun r sg' => r = none ∧ ((sg 8 d 4 + 1 < 3 ∧ sg' = kx_up sg 8 d (upd (sg 8 d) 4 (sg 8 d 4 + 1))) ∨ (¬ sg 8 d 4 + 1 < 3 ∧ tw_SA nb (kx_up sg 8 d (upd (upd (sg 8 d) 4 (sg 8 d 4 + 1)) 1 1)) sg'))) := by
  refine Met.ofW (cc := cX3_countWrongCode) (maxL := 2) (ret := none) (by decide) rfl ?_
  intro p e s m args below meth c s₁ B hml hv
  obtain ⟨rfl, hW, hV⟩ := hv
  have hts := atoms_spec (ws := wsX3_countWrongCode) B.pre
  have F : kx_F p s m c cX3_countWrongCode 2 RX3 _ wsX3_countWrongCode G z0 := ⟨B.exec, B.bytes, hml, findClass_of_methodNamed B.named, hts, hV⟩
  have hx := B.exec; have hb := B.bytes; have hr := B.returns; have hlocks := B.notSynchronized
  have hS : va_S (kx_Ad z0) s.heap s.heap [] := va_S.rf
  have L_130 : Cond.fieldLink RX3 130 (TX1 1).1 (TX1 1).2.1 (TX1 1).2.2.1 ∈ wsX3_countWrongCode := by decide +kernel
  have L_142 : Cond.fieldLink RX3 142 (TX1 4).1 (TX1 4).2.1 (TX1 4).2.2.1 ∈ wsX3_countWrongCode := by decide +kernel
  have inX1 : ∀ w ∈ u_ws RX1 TX1 5, w ∈ wsX3_countWrongCode := by decide +kernel
  have hl := lv_entry ([.ref (ad 0 0), .ref (ad 8 d)]) (n := 2) (Nat.le_of_ble_eq_true rfl)
  rw [lg_entry_eq]
  generalize (lg_sl ([.ref (ad 0 0), .ref (ad 8 d)]) ++ List.replicate (2 - (lg_sl ([.ref (ad 0 0), .ref (ad 8 d)])).length) Slot.unset).toArray = ls at hl ⊢
  have hl : lv_has ls 2 [(0, .ref (ad 0 0)), (1, .ref (ad 8 d))] := hl
  refine lv_aload_n hx hb dX3_countWrongCode_0 rfl (lv_at hl 1 rfl) ?_
  refine lv_dup hx hb dX3_countWrongCode_1 rfl ?_
  refine kx_g F inX1 hW 8 d hd rfl rfl 4 (by decide) L_142 (v := .int (sg 8 d 4)) rfl dX3_countWrongCode_2 ?_
  refine lv_iconst (v := 1) hx hb dX3_countWrongCode_5 (by decide) ?_
  refine lv_iadd hx hb dX3_countWrongCode_6 ?_
  refine kx_p F inX1 tyX1 tyX1_ok nmX1 hW hS 8 d hd rfl rfl 4 (by decide) L_142 rfl (v := .int ((sg 8 d 4) + 1)) rfl rfl (Nat.le_of_ble_eq_true rfl) (upd (sg 8 d) 4 ((sg 8 d 4) + 1)) rfl dX3_countWrongCode_7 (fun H locs hW hS => ?_)
  have hW : kx_Wd G z0 ad nb (kx_up sg 8 d (upd (sg 8 d) 4 ((sg 8 d 4) + 1))) H := hW
  refine lv_aload_n hx hb dX3_countWrongCode_10 rfl (lv_at hl 1 rfl) ?_
  refine kx_g F inX1 hW 8 d hd rfl rfl 4 (by decide) L_142 (v := .int ((sg 8 d 4) + 1)) (by first | rfl | (simp only [kx_up_s]; done) | (simp only [kx_up_s, upd_s]; done) | (simp only [kx_up_s]; rfl) | (simp [kx_up, upd]; done)) dX3_countWrongCode_11 ?_
  refine lv_iconst (v := 3) hx hb dX3_countWrongCode_14 (by decide) ?_
  refine lv_icmp_lt (tgt := 27) hx hb dX3_countWrongCode_15 (by decide) (fun c_15 => ?_) (fun c_15 => ?_)
  · exact kx_rv F hr hlocks hW hS (by first | exact Nat.le_of_ble_eq_true rfl | omega) (by first | exact Nat.le_of_ble_eq_true rfl | omega) (⟨rfl, Or.inl ⟨c_15, rfl⟩⟩) dX3_countWrongCode_27
  · refine lv_aload_n hx hb dX3_countWrongCode_18 rfl (lv_at hl 1 rfl) ?_
    refine lv_iconst (v := 1) hx hb dX3_countWrongCode_19 (by decide) ?_
    refine kx_p F inX1 tyX1 tyX1_ok nmX1 hW hS 8 d hd rfl rfl 1 (by decide) L_130 rfl (v := .int 1) rfl rfl (Nat.le_of_ble_eq_true rfl) (upd ((kx_up sg 8 d (upd (sg 8 d) 4 ((sg 8 d 4) + 1))) 8 d) 1 1) rfl dX3_countWrongCode_20 (fun H locs hW hS => ?_)
    have er9 : (kx_up sg 8 d (upd (sg 8 d) 4 ((sg 8 d 4) + 1))) 8 d = upd (sg 8 d) 4 ((sg 8 d 4) + 1) := by first | rfl | (simp only [kx_up_s]; done) | (simp [kx_up]; done)
    rw [er9] at hW
    rw [kx_up_up] at hW
    have hW : kx_Wd G z0 ad nb (kx_up sg 8 d (upd (upd (sg 8 d) 4 ((sg 8 d 4) + 1)) 1 1)) H := hW
    refine lv_aload_n hx hb dX3_countWrongCode_23 rfl (lv_at hl 0 rfl) ?_
    refine kx_cV (na := 0) F (q := 0) (n := 0) (c_X3_settleAll l G z0 ad nb (kx_up sg 8 d (upd (upd (sg 8 d) 4 (sg 8 d 4 + 1)) 1 1)) hnb (tw_WF_door hwf)) gX3_countWrongCode_X3_settleAll rfl (by decide +kernel) ⟨Nat.le_of_ble_eq_true rfl, Nat.le_of_ble_eq_true rfl⟩ hW hS ⟨by decide, rfl⟩ rfl rfl (As := []) (rest := []) rfl hl.1 rfl (Nat.le_of_ble_eq_true rfl) dX3_countWrongCode_24 ⟨by first | exact Nat.le_of_ble_eq_true rfl | omega, by first | exact Nat.le_of_ble_eq_true rfl | omega⟩ (fun r9 sg9 H locs hq hW hS => ?_)
    obtain ⟨rfl, hsa9⟩ := hq
    have hW : kx_Wd G z0 ad nb (sg9) H := by first | exact hW | (simp only [kx_up_s, kx_up_up] at hW; exact hW) | (simp only [kx_up_s, kx_up_up, upd_s] at hW; exact hW)
    refine W.eq (g2 := F0 m 27 ls []) rfl ?_
    exact kx_rv F hr hlocks hW hS (by first | exact Nat.le_of_ble_eq_true rfl | omega) (by first | exact Nat.le_of_ble_eq_true rfl | omega) (⟨rfl, Or.inr ⟨c_15, hsa9⟩⟩) dX3_countWrongCode_27

set_option maxHeartbeats 4000000 in
set_option maxRecDepth 100000 in
/-- the place that is told -/
theorem c_X3_placeTold (l : Launch) (G : kx_G) (z0 : Nat) (ad : kx_A) (nb : Nat) (sg : kx_S) (x y : Int32) : kx_M l yX3_placeTold wsX3_placeTold 0 0 0 0 G z0 ad nb sg [.int x, .int y] (fun r sg' => r = some (.int (tw_pt x y)) ∧ sg' = sg) := by
  refine Met.ofW (cc := cX3_placeTold) (maxL := 2) (ret := (some .int)) (by decide) rfl ?_
  intro p e s m args below meth c s₁ B hml hv
  obtain ⟨rfl, hW, hV⟩ := hv
  have hts := atoms_spec (ws := wsX3_placeTold) B.pre
  have F : kx_F p s m c cX3_placeTold 2 RX3 _ wsX3_placeTold G z0 := ⟨B.exec, B.bytes, hml, findClass_of_methodNamed B.named, hts, hV⟩
  have hx := B.exec; have hb := B.bytes; have hr := B.returns; have hlocks := B.notSynchronized
  have hS : va_S (kx_Ad z0) s.heap s.heap [] := va_S.rf
  have hl := lv_entry ([.int x, .int y]) (n := 2) (Nat.le_of_ble_eq_true rfl)
  rw [lg_entry_eq]
  generalize (lg_sl ([.int x, .int y]) ++ List.replicate (2 - (lg_sl ([.int x, .int y])).length) Slot.unset).toArray = ls at hl ⊢
  have hl : lv_has ls 2 [(0, .int x), (1, .int y)] := hl
  refine lv_iload_n hx hb dX3_placeTold_0 rfl (lv_at hl 1 rfl) ?_
  refine lv_if_ne (tgt := 8) hx hb dX3_placeTold_1 (by decide) (fun c_1 => ?_) (fun c_1 => ?_)
  · refine lv_iload_n hx hb dX3_placeTold_8 rfl (lv_at hl 1 rfl) ?_
    refine lv_iconst (v := 1) hx hb dX3_placeTold_9 (by decide) ?_
    refine lv_icmp_ne (tgt := 17) hx hb dX3_placeTold_10 (by decide) (fun c_10 => ?_) (fun c_10 => ?_)
    · refine lv_bipush (v := 30) hx hb dX3_placeTold_17 (by decide) ?_
      exact kx_ri F hr hlocks hW hS (by first | exact Nat.le_of_ble_eq_true rfl | omega) (by first | exact Nat.le_of_ble_eq_true rfl | omega) (⟨congrArg (fun z => some (Value.int z)) (by rw [tw_pt, if_neg c_1, if_neg c_10]), rfl⟩) dX3_placeTold_19
    · refine lv_iconst (v := 0) hx hb dX3_placeTold_13 (by decide) ?_
      refine lv_goto (tgt := 19) hx hb dX3_placeTold_14 (by decide) ?_
      exact kx_ri F hr hlocks hW hS (by first | exact Nat.le_of_ble_eq_true rfl | omega) (by first | exact Nat.le_of_ble_eq_true rfl | omega) (⟨congrArg (fun z => some (Value.int z)) (by rw [tw_pt, if_neg c_1, if_pos c_10]), rfl⟩) dX3_placeTold_19
  · refine lv_iconst (v := 1) hx hb dX3_placeTold_4 (by decide) ?_
    refine lv_iload_n hx hb dX3_placeTold_5 rfl (lv_at hl 0 rfl) ?_
    refine lv_iadd hx hb dX3_placeTold_6 ?_
    exact kx_ri F hr hlocks hW hS (by first | exact Nat.le_of_ble_eq_true rfl | omega) (by first | exact Nat.le_of_ble_eq_true rfl | omega) (⟨congrArg (fun z => some (Value.int z)) (by rw [tw_pt, if_pos c_1]), rfl⟩) dX3_placeTold_7

set_option maxHeartbeats 4000000 in
set_option maxRecDepth 100000 in
/-- the box of a number -/
theorem c_X3_boxAt (l : Launch) (hlf : l.stackTraces = false) (G : kx_G) (z0 : Nat) (ad : kx_A) (nb : Nat) (sg : kx_S) (hnb : nb ≤ 16) (x : Int32) : kx_MX l yX3_boxAt wsX3_boxAt 6 90 1 6 G z0 ad nb sg [.ref (ad 0 0), .int x] (fun r sg' => ∃ k : Nat, k < nb ∧ x = nI k ∧ r = some (.ref (ad 9 k)) ∧ sg' = sg) (fun E => E = kx_ioe ∧ ∀ k, k < nb → ¬ x = nI k) := by
  refine vx_ofW (cc := cX3_boxAt) (maxL := 2) (ret := (some (.object "Whichbox$Box"))) (by decide) rfl ?_
  intro p e s m args below meth c s₁ B hml htab hv
  obtain ⟨rfl, hW, hV⟩ := hv
  have hts := atoms_spec (ws := wsX3_boxAt) B.pre
  have F : kx_F p s m c cX3_boxAt 2 RX3 _ wsX3_boxAt G z0 := ⟨B.exec, B.bytes, hml, findClass_of_methodNamed B.named, hts, hV⟩
  have hx := B.exec; have hb := B.bytes; have hr := B.returns; have hlocks := B.notSynchronized
  have hS : va_S (kx_Ad z0) s.heap s.heap [] := va_S.rf
  have L_11 : Cond.fieldLink RX3 11 (TX3 0).1 (TX3 0).2.1 (TX3 0).2.2.1 ∈ wsX3_boxAt := by decide +kernel
  have inX3 : ∀ w ∈ u_ws RX3 TX3 9, w ∈ wsX3_boxAt := by decide +kernel
  have hl := lv_entry ([.ref (ad 0 0), .int x]) (n := 2) (Nat.le_of_ble_eq_true rfl)
  rw [lg_entry_eq]
  generalize (lg_sl ([.ref (ad 0 0), .int x]) ++ List.replicate (2 - (lg_sl ([.ref (ad 0 0), .int x])).length) Slot.unset).toArray = ls at hl ⊢
  have hl : lv_has ls 2 [(0, .ref (ad 0 0)), (1, .int x)] := hl
  refine lv_iload_n hx hb dX3_boxAt_0 rfl (lv_at hl 1 rfl) ?_
  refine lv_if_lt (tgt := 19) hx hb dX3_boxAt_1 (by decide) (fun c_1 => ?_) (fun c_1 => ?_)
  · exact kx_thr F hlf htab hlocks (cls := "java/lang/IndexOutOfBoundsException") (text := "there is no such box") (ik := 117) (is := 211) (ic := 121) (by decide +kernel) (by decide +kernel) (by decide +kernel) (by decide +kernel) (by decide +kernel) (by decide +kernel) (by decide +kernel) hW hS hl.1 dX3_boxAt_19 dX3_boxAt_22 dX3_boxAt_23 dX3_boxAt_25 dX3_boxAt_28 (Nat.le_of_ble_eq_true rfl) (Nat.le_of_ble_eq_true rfl) (by first | exact Nat.le_of_ble_eq_true rfl | omega) (by first | exact Nat.le_of_ble_eq_true rfl | omega) (by first | exact Nat.le_of_ble_eq_true rfl | omega) (by first | exact Nat.le_of_ble_eq_true rfl | omega) (⟨rfl, fun k1 h1 e1 => by rw [e1] at c_1; exact nI_pos (by omega) c_1⟩)
  · refine lv_iload_n hx hb dX3_boxAt_4 rfl (lv_at hl 1 rfl) ?_
    refine lv_bipush (v := 16) hx hb dX3_boxAt_5 (by decide) ?_
    refine lv_icmp_ge (tgt := 19) hx hb dX3_boxAt_7 (by decide) (fun c_7 => ?_) (fun c_7 => ?_)
    · exact kx_thr F hlf htab hlocks (cls := "java/lang/IndexOutOfBoundsException") (text := "there is no such box") (ik := 117) (is := 211) (ic := 121) (by decide +kernel) (by decide +kernel) (by decide +kernel) (by decide +kernel) (by decide +kernel) (by decide +kernel) (by decide +kernel) hW hS hl.1 dX3_boxAt_19 dX3_boxAt_22 dX3_boxAt_23 dX3_boxAt_25 dX3_boxAt_28 (Nat.le_of_ble_eq_true rfl) (Nat.le_of_ble_eq_true rfl) (by first | exact Nat.le_of_ble_eq_true rfl | omega) (by first | exact Nat.le_of_ble_eq_true rfl | omega) (by first | exact Nat.le_of_ble_eq_true rfl | omega) (by first | exact Nat.le_of_ble_eq_true rfl | omega) (⟨rfl, fun k1 h1 e1 => by rw [e1] at c_7; exact nI_ge (b := 16) (by omega) (by decide) c_7⟩)
    · obtain ⟨k, hk, rfl⟩ := tw_in_nI (n := 16) (by decide) c_1 c_7
      refine lv_aload_n hx hb dX3_boxAt_10 rfl (lv_at hl 0 rfl) ?_
      refine kx_g F inX3 hW 0 0 ⟨by decide, rfl⟩ rfl rfl 0 (by decide) L_11 (v := .ref (ad 1 0)) rfl dX3_boxAt_11 ?_
      refine lv_iload_n hx hb dX3_boxAt_14 rfl (lv_at hl 1 rfl) ?_
      refine kx_aaldB F hW k hk dX3_boxAt_15 (fun b_15 => ?_) (fun b_15 => ?_)
      · refine lv_ifnonnull (tgt := 29) hx hb dX3_boxAt_16 (by decide) ?_
        refine lv_aload_n hx hb dX3_boxAt_29 rfl (lv_at hl 0 rfl) ?_
        refine kx_g F inX3 hW 0 0 ⟨by decide, rfl⟩ rfl rfl 0 (by decide) L_11 (v := .ref (ad 1 0)) rfl dX3_boxAt_30 ?_
        refine lv_iload_n hx hb dX3_boxAt_33 rfl (lv_at hl 1 rfl) ?_
        refine kx_aaldB F hW k hk dX3_boxAt_34 (fun b_34 => ?_) (fun b_34 => ?_)
        · refine vx_ret ?_
          exact kx_ra F hr hlocks hW hS (by first | exact Nat.le_of_ble_eq_true rfl | omega) (by first | exact Nat.le_of_ble_eq_true rfl | omega) (⟨k, b_15, rfl, rfl, rfl⟩) dX3_boxAt_35
        · exact absurd b_15 b_34
      · refine lv_ifnonnullN hx hb dX3_boxAt_16 ?_
        exact kx_thr F hlf htab hlocks (cls := "java/lang/IndexOutOfBoundsException") (text := "there is no such box") (ik := 117) (is := 211) (ic := 121) (by decide +kernel) (by decide +kernel) (by decide +kernel) (by decide +kernel) (by decide +kernel) (by decide +kernel) (by decide +kernel) hW hS hl.1 dX3_boxAt_19 dX3_boxAt_22 dX3_boxAt_23 dX3_boxAt_25 dX3_boxAt_28 (Nat.le_of_ble_eq_true rfl) (Nat.le_of_ble_eq_true rfl) (by first | exact Nat.le_of_ble_eq_true rfl | omega) (by first | exact Nat.le_of_ble_eq_true rfl | omega) (by first | exact Nat.le_of_ble_eq_true rfl | omega) (by first | exact Nat.le_of_ble_eq_true rfl | omega) (⟨rfl, fun k1 h1 e1 => b_15 (by rw [(nI_eq (by omega) (by omega)).mp e1]; exact h1)⟩)

set_option maxHeartbeats 4000000 in
set_option maxRecDepth 100000 in
/-- the door of a number -/
theorem c_X3_doorAt (l : Launch) (hlf : l.stackTraces = false) (G : kx_G) (z0 : Nat) (ad : kx_A) (nb : Nat) (sg : kx_S) (x : Int32) : kx_MX l yX3_doorAt wsX3_doorAt 6 90 1 6 G z0 ad nb sg [.ref (ad 0 0), .int x] (fun r sg' => ∃ k : Nat, k < 10 ∧ x = nI k ∧ r = some (.ref (ad 8 k)) ∧ sg' = sg) (fun E => E = kx_ioe ∧ ∀ k, k < 10 → ¬ x = nI k) := by
  refine vx_ofW (cc := cX3_doorAt) (maxL := 2) (ret := (some (.object "Whichbox$Door"))) (by decide) rfl ?_
  intro p e s m args below meth c s₁ B hml htab hv
  obtain ⟨rfl, hW, hV⟩ := hv
  have hts := atoms_spec (ws := wsX3_doorAt) B.pre
  have F : kx_F p s m c cX3_doorAt 2 RX3 _ wsX3_doorAt G z0 := ⟨B.exec, B.bytes, hml, findClass_of_methodNamed B.named, hts, hV⟩
  have hx := B.exec; have hb := B.bytes; have hr := B.returns; have hlocks := B.notSynchronized
  have hS : va_S (kx_Ad z0) s.heap s.heap [] := va_S.rf
  have L_17 : Cond.fieldLink RX3 17 (TX3 1).1 (TX3 1).2.1 (TX3 1).2.2.1 ∈ wsX3_doorAt := by decide +kernel
  have inX3 : ∀ w ∈ u_ws RX3 TX3 9, w ∈ wsX3_doorAt := by decide +kernel
  have hl := lv_entry ([.ref (ad 0 0), .int x]) (n := 2) (Nat.le_of_ble_eq_true rfl)
  rw [lg_entry_eq]
  generalize (lg_sl ([.ref (ad 0 0), .int x]) ++ List.replicate (2 - (lg_sl ([.ref (ad 0 0), .int x])).length) Slot.unset).toArray = ls at hl ⊢
  have hl : lv_has ls 2 [(0, .ref (ad 0 0)), (1, .int x)] := hl
  refine lv_iload_n hx hb dX3_doorAt_0 rfl (lv_at hl 1 rfl) ?_
  refine lv_if_lt (tgt := 10) hx hb dX3_doorAt_1 (by decide) (fun c_1 => ?_) (fun c_1 => ?_)
  · exact kx_thr F hlf htab hlocks (cls := "java/lang/IndexOutOfBoundsException") (text := "there is no such door") (ik := 117) (is := 213) (ic := 121) (by decide +kernel) (by decide +kernel) (by decide +kernel) (by decide +kernel) (by decide +kernel) (by decide +kernel) (by decide +kernel) hW hS hl.1 dX3_doorAt_10 dX3_doorAt_13 dX3_doorAt_14 dX3_doorAt_16 dX3_doorAt_19 (Nat.le_of_ble_eq_true rfl) (Nat.le_of_ble_eq_true rfl) (by first | exact Nat.le_of_ble_eq_true rfl | omega) (by first | exact Nat.le_of_ble_eq_true rfl | omega) (by first | exact Nat.le_of_ble_eq_true rfl | omega) (by first | exact Nat.le_of_ble_eq_true rfl | omega) (⟨rfl, fun k1 h1 e1 => by rw [e1] at c_1; exact nI_pos (by omega) c_1⟩)
  · refine lv_iload_n hx hb dX3_doorAt_4 rfl (lv_at hl 1 rfl) ?_
    refine lv_bipush (v := 10) hx hb dX3_doorAt_5 (by decide) ?_
    refine lv_icmp_lt (tgt := 20) hx hb dX3_doorAt_7 (by decide) (fun c_7 => ?_) (fun c_7 => ?_)
    · obtain ⟨k, hk, rfl⟩ := tw_in_nI2 (n := 10) (by decide) c_1 c_7
      refine lv_aload_n hx hb dX3_doorAt_20 rfl (lv_at hl 0 rfl) ?_
      refine kx_g F inX3 hW 0 0 ⟨by decide, rfl⟩ rfl rfl 1 (by decide) L_17 (v := .ref (ad 2 0)) rfl dX3_doorAt_21 ?_
      refine lv_iload_n hx hb dX3_doorAt_24 rfl (lv_at hl 1 rfl) ?_
      refine kx_aaldD F hW k hk dX3_doorAt_25 ?_
      refine vx_ret ?_
      exact kx_ra F hr hlocks hW hS (by first | exact Nat.le_of_ble_eq_true rfl | omega) (by first | exact Nat.le_of_ble_eq_true rfl | omega) (⟨k, hk, rfl, rfl, rfl⟩) dX3_doorAt_26
    · exact kx_thr F hlf htab hlocks (cls := "java/lang/IndexOutOfBoundsException") (text := "there is no such door") (ik := 117) (is := 213) (ic := 121) (by decide +kernel) (by decide +kernel) (by decide +kernel) (by decide +kernel) (by decide +kernel) (by decide +kernel) (by decide +kernel) hW hS hl.1 dX3_doorAt_10 dX3_doorAt_13 dX3_doorAt_14 dX3_doorAt_16 dX3_doorAt_19 (Nat.le_of_ble_eq_true rfl) (Nat.le_of_ble_eq_true rfl) (by first | exact Nat.le_of_ble_eq_true rfl | omega) (by first | exact Nat.le_of_ble_eq_true rfl | omega) (by first | exact Nat.le_of_ble_eq_true rfl | omega) (by first | exact Nat.le_of_ble_eq_true rfl | omega) (⟨rfl, fun k1 h1 e1 => by rw [e1] at c_7; exact c_7 (nI_lt (b := 10) h1 (by decide))⟩)

set_option maxHeartbeats 4000000 in
set_option maxRecDepth 100000 in
/-- is there such a one? -/
theorem c_X3_checkCourier (l : Launch) (hlf : l.stackTraces = false) (G : kx_G) (z0 : Nat) (ad : kx_A) (nb : Nat) (sg : kx_S) (x : Int32) : kx_MX l yX3_checkCourier wsX3_checkCourier 6 90 1 6 G z0 ad nb sg [.int x] (fun r sg' => r = none ∧ sg' = sg ∧ ∃ k : Nat, k < 4 ∧ x = nI k) (fun E => E = kx_ioe ∧ ∀ k, k < 4 → ¬ x = nI k) := by
  refine vx_ofW (cc := cX3_checkCourier) (maxL := 1) (ret := none) (by decide) rfl ?_
  intro p e s m args below meth c s₁ B hml htab hv
  obtain ⟨rfl, hW, hV⟩ := hv
  have hts := atoms_spec (ws := wsX3_checkCourier) B.pre
  have F : kx_F p s m c cX3_checkCourier 1 RX3 _ wsX3_checkCourier G z0 := ⟨B.exec, B.bytes, hml, findClass_of_methodNamed B.named, hts, hV⟩
  have hx := B.exec; have hb := B.bytes; have hr := B.returns; have hlocks := B.notSynchronized
  have hS : va_S (kx_Ad z0) s.heap s.heap [] := va_S.rf
  have hl := lv_entry ([.int x]) (n := 1) (Nat.le_of_ble_eq_true rfl)
  rw [lg_entry_eq]
  generalize (lg_sl ([.int x]) ++ List.replicate (1 - (lg_sl ([.int x])).length) Slot.unset).toArray = ls at hl ⊢
  have hl : lv_has ls 1 [(0, .int x)] := hl
  refine lv_iload_n hx hb dX3_checkCourier_0 rfl (lv_at hl 0 rfl) ?_
  refine lv_if_lt (tgt := 9) hx hb dX3_checkCourier_1 (by decide) (fun c_1 => ?_) (fun c_1 => ?_)
  · exact kx_thr F hlf htab hlocks (cls := "java/lang/IndexOutOfBoundsException") (text := "there is no such courier") (ik := 117) (is := 215) (ic := 121) (by decide +kernel) (by decide +kernel) (by decide +kernel) (by decide +kernel) (by decide +kernel) (by decide +kernel) (by decide +kernel) hW hS hl.1 dX3_checkCourier_9 dX3_checkCourier_12 dX3_checkCourier_13 dX3_checkCourier_15 dX3_checkCourier_18 (Nat.le_of_ble_eq_true rfl) (Nat.le_of_ble_eq_true rfl) (by first | exact Nat.le_of_ble_eq_true rfl | omega) (by first | exact Nat.le_of_ble_eq_true rfl | omega) (by first | exact Nat.le_of_ble_eq_true rfl | omega) (by first | exact Nat.le_of_ble_eq_true rfl | omega) (⟨rfl, fun k1 h1 e1 => by rw [e1] at c_1; exact nI_pos (by omega) c_1⟩)
  · refine lv_iload_n hx hb dX3_checkCourier_4 rfl (lv_at hl 0 rfl) ?_
    refine lv_iconst (v := 4) hx hb dX3_checkCourier_5 (by decide) ?_
    refine lv_icmp_lt (tgt := 19) hx hb dX3_checkCourier_6 (by decide) (fun c_6 => ?_) (fun c_6 => ?_)
    · refine vx_ret ?_
      exact kx_rv F hr hlocks hW hS (by first | exact Nat.le_of_ble_eq_true rfl | omega) (by first | exact Nat.le_of_ble_eq_true rfl | omega) (⟨rfl, rfl, tw_in_nI2 (n := 4) (by decide) c_1 c_6⟩) dX3_checkCourier_19
    · exact kx_thr F hlf htab hlocks (cls := "java/lang/IndexOutOfBoundsException") (text := "there is no such courier") (ik := 117) (is := 215) (ic := 121) (by decide +kernel) (by decide +kernel) (by decide +kernel) (by decide +kernel) (by decide +kernel) (by decide +kernel) (by decide +kernel) hW hS hl.1 dX3_checkCourier_9 dX3_checkCourier_12 dX3_checkCourier_13 dX3_checkCourier_15 dX3_checkCourier_18 (Nat.le_of_ble_eq_true rfl) (Nat.le_of_ble_eq_true rfl) (by first | exact Nat.le_of_ble_eq_true rfl | omega) (by first | exact Nat.le_of_ble_eq_true rfl | omega) (by first | exact Nat.le_of_ble_eq_true rfl | omega) (by first | exact Nat.le_of_ble_eq_true rfl | omega) (⟨rfl, fun k1 h1 e1 => by rw [e1] at c_6; exact c_6 (nI_lt (b := 4) h1 (by decide))⟩)

set_option maxHeartbeats 4000000 in
set_option maxRecDepth 100000 in
/-- is there such a one? -/
theorem c_X3_checkWho (l : Launch) (hlf : l.stackTraces = false) (G : kx_G) (z0 : Nat) (ad : kx_A) (nb : Nat) (sg : kx_S) (x : Int32) : kx_MX l yX3_checkWho wsX3_checkWho 6 90 1 6 G z0 ad nb sg [.int x] (fun r sg' => r = none ∧ sg' = sg ∧ ∃ k : Nat, k < 14 ∧ x = nI k) (fun E => E = kx_ioe ∧ ∀ k, k < 14 → ¬ x = nI k) := by
  refine vx_ofW (cc := cX3_checkWho) (maxL := 1) (ret := none) (by decide) rfl ?_
  intro p e s m args below meth c s₁ B hml htab hv
  obtain ⟨rfl, hW, hV⟩ := hv
  have hts := atoms_spec (ws := wsX3_checkWho) B.pre
  have F : kx_F p s m c cX3_checkWho 1 RX3 _ wsX3_checkWho G z0 := ⟨B.exec, B.bytes, hml, findClass_of_methodNamed B.named, hts, hV⟩
  have hx := B.exec; have hb := B.bytes; have hr := B.returns; have hlocks := B.notSynchronized
  have hS : va_S (kx_Ad z0) s.heap s.heap [] := va_S.rf
  have hl := lv_entry ([.int x]) (n := 1) (Nat.le_of_ble_eq_true rfl)
  rw [lg_entry_eq]
  generalize (lg_sl ([.int x]) ++ List.replicate (1 - (lg_sl ([.int x])).length) Slot.unset).toArray = ls at hl ⊢
  have hl : lv_has ls 1 [(0, .int x)] := hl
  refine lv_iload_n hx hb dX3_checkWho_0 rfl (lv_at hl 0 rfl) ?_
  refine lv_if_lt (tgt := 10) hx hb dX3_checkWho_1 (by decide) (fun c_1 => ?_) (fun c_1 => ?_)
  · exact kx_thr F hlf htab hlocks (cls := "java/lang/IndexOutOfBoundsException") (text := "there is no such courier or door") (ik := 117) (is := 217) (ic := 121) (by decide +kernel) (by decide +kernel) (by decide +kernel) (by decide +kernel) (by decide +kernel) (by decide +kernel) (by decide +kernel) hW hS hl.1 dX3_checkWho_10 dX3_checkWho_13 dX3_checkWho_14 dX3_checkWho_16 dX3_checkWho_19 (Nat.le_of_ble_eq_true rfl) (Nat.le_of_ble_eq_true rfl) (by first | exact Nat.le_of_ble_eq_true rfl | omega) (by first | exact Nat.le_of_ble_eq_true rfl | omega) (by first | exact Nat.le_of_ble_eq_true rfl | omega) (by first | exact Nat.le_of_ble_eq_true rfl | omega) (⟨rfl, fun k1 h1 e1 => by rw [e1] at c_1; exact nI_pos (by omega) c_1⟩)
  · refine lv_iload_n hx hb dX3_checkWho_4 rfl (lv_at hl 0 rfl) ?_
    refine lv_bipush (v := 14) hx hb dX3_checkWho_5 (by decide) ?_
    refine lv_icmp_lt (tgt := 20) hx hb dX3_checkWho_7 (by decide) (fun c_7 => ?_) (fun c_7 => ?_)
    · refine vx_ret ?_
      exact kx_rv F hr hlocks hW hS (by first | exact Nat.le_of_ble_eq_true rfl | omega) (by first | exact Nat.le_of_ble_eq_true rfl | omega) (⟨rfl, rfl, tw_in_nI2 (n := 14) (by decide) c_1 c_7⟩) dX3_checkWho_20
    · exact kx_thr F hlf htab hlocks (cls := "java/lang/IndexOutOfBoundsException") (text := "there is no such courier or door") (ik := 117) (is := 217) (ic := 121) (by decide +kernel) (by decide +kernel) (by decide +kernel) (by decide +kernel) (by decide +kernel) (by decide +kernel) (by decide +kernel) hW hS hl.1 dX3_checkWho_10 dX3_checkWho_13 dX3_checkWho_14 dX3_checkWho_16 dX3_checkWho_19 (Nat.le_of_ble_eq_true rfl) (Nat.le_of_ble_eq_true rfl) (by first | exact Nat.le_of_ble_eq_true rfl | omega) (by first | exact Nat.le_of_ble_eq_true rfl | omega) (by first | exact Nat.le_of_ble_eq_true rfl | omega) (by first | exact Nat.le_of_ble_eq_true rfl | omega) (⟨rfl, fun k1 h1 e1 => by rw [e1] at c_7; exact c_7 (nI_lt (b := 14) h1 (by decide))⟩)

theorem tw_room_1 {n : Nat} (h : n ≤ 12) (c : nI n < 12) : n < 12 := by
  rcases Nat.lt_or_ge n 12 with q | q
  · exact q
  · exact absurd c (nI_nlt (b := 12) q (by omega))
theorem tw_room_2 {n : Nat} (h : n ≤ 12) (c : ¬ nI n < 12) : n = 12 := by
  rcases Nat.lt_or_ge n 12 with q | q
  · exact absurd (nI_lt (b := 12) q (by decide)) c
  · omega

set_option maxHeartbeats 4000000 in
set_option maxRecDepth 100000 in
/-- is there room? -/
theorem c_X3_checkRoomForScan (l : Launch) (hlf : l.stackTraces = false) (G : kx_G) (z0 : Nat) (ad : kx_A) (nb : Nat) (sg : kx_S) (i : Nat) (hi : i < nb) (n : Nat) (hn : sg 9 i 6 = nI n) (h12 : n ≤ 12) : kx_MX l yX3_checkRoomForScan wsX3_checkRoomForScan 6 90 1 6 G z0 ad nb sg [.ref (ad 9 i)] (fun r sg' => r = none ∧ sg' = sg ∧ n < 12) (fun E => E = kx_ise ∧ n = 12) := by
  refine vx_ofW (cc := cX3_checkRoomForScan) (maxL := 1) (ret := none) (by decide) rfl ?_
  intro p e s m args below meth c s₁ B hml htab hv
  obtain ⟨rfl, hW, hV⟩ := hv
  have hts := atoms_spec (ws := wsX3_checkRoomForScan) B.pre
  have F : kx_F p s m c cX3_checkRoomForScan 1 RX3 _ wsX3_checkRoomForScan G z0 := ⟨B.exec, B.bytes, hml, findClass_of_methodNamed B.named, hts, hV⟩
  have hx := B.exec; have hb := B.bytes; have hr := B.returns; have hlocks := B.notSynchronized
  have hS : va_S (kx_Ad z0) s.heap s.heap [] := va_S.rf
  have L_171 : Cond.fieldLink RX3 171 (TX0 6).1 (TX0 6).2.1 (TX0 6).2.2.1 ∈ wsX3_checkRoomForScan := by decide +kernel
  have inX0 : ∀ w ∈ u_ws RX0 TX0 11, w ∈ wsX3_checkRoomForScan := by decide +kernel
  have hl := lv_entry ([.ref (ad 9 i)]) (n := 1) (Nat.le_of_ble_eq_true rfl)
  rw [lg_entry_eq]
  generalize (lg_sl ([.ref (ad 9 i)]) ++ List.replicate (1 - (lg_sl ([.ref (ad 9 i)])).length) Slot.unset).toArray = ls at hl ⊢
  have hl : lv_has ls 1 [(0, .ref (ad 9 i))] := hl
  refine lv_aload_n hx hb dX3_checkRoomForScan_0 rfl (lv_at hl 0 rfl) ?_
  refine kx_g F inX0 hW 9 i hi rfl rfl 6 (by decide) L_171 (v := .int (nI n)) (congrArg (fun z => some (Value.int z)) hn) dX3_checkRoomForScan_1 ?_
  refine lv_bipush (v := 12) hx hb dX3_checkRoomForScan_4 (by decide) ?_
  refine lv_icmp_lt (tgt := 19) hx hb dX3_checkRoomForScan_6 (by decide) (fun c_6 => ?_) (fun c_6 => ?_)
  · refine vx_ret ?_
    exact kx_rv F hr hlocks hW hS (by first | exact Nat.le_of_ble_eq_true rfl | omega) (by first | exact Nat.le_of_ble_eq_true rfl | omega) (⟨rfl, rfl, tw_room_1 h12 c_6⟩) dX3_checkRoomForScan_19
  · exact kx_thr F hlf htab hlocks (cls := "java/lang/IllegalStateException") (text := "the box has 12 scans") (ik := 60) (is := 219) (ic := 64) (by decide +kernel) (by decide +kernel) (by decide +kernel) (by decide +kernel) (by decide +kernel) (by decide +kernel) (by decide +kernel) hW hS hl.1 dX3_checkRoomForScan_9 dX3_checkRoomForScan_12 dX3_checkRoomForScan_13 dX3_checkRoomForScan_15 dX3_checkRoomForScan_18 (Nat.le_of_ble_eq_true rfl) (Nat.le_of_ble_eq_true rfl) (by first | exact Nat.le_of_ble_eq_true rfl | omega) (by first | exact Nat.le_of_ble_eq_true rfl | omega) (by first | exact Nat.le_of_ble_eq_true rfl | omega) (by first | exact Nat.le_of_ble_eq_true rfl | omega) (⟨rfl, tw_room_2 h12 c_6⟩)
