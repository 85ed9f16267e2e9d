/-- the story of box i, of n scans, out of the town's cells -/
def tw_st (sg : kx_S) (i n : Nat) : Int32 := nI ((dp_best (dp_S (fun k => (tw_w (sg 3 0) (fun d => sg 8 d 1) (sg 12 i) k).toInt) (fun j k => tw_tru (sg 13 i k) (nI j)) (fun k => tw_tru (sg 13 i k) 12)) n).toNat % 4096)
abbrev tw_R : Type := (Nat → Int32) × (Nat → Int32) × (Nat → Int32)
def tw_debA (dl : Bool) (x : tw_R) : tw_R := if dl = true ∧ ¬ x.1 8 = 0 then (upd x.1 8 0, tw_back x.2.1 (x.1 1), x.2.2) else x
def tw_debB (dl : Bool) (co : Int32) (x : tw_R) : tw_R := if dl = true ∧ x.1 9 = 0 then (upd (upd x.1 9 1) 10 co, tw_note x.2.1, tw_fee x.2.2 co (10 * x.1 0)) else x
def tw_debC (dl : Bool) (x : tw_R) : tw_R := if dl = false ∧ ¬ x.1 9 = 0 then (upd x.1 9 0, tw_note x.2.1, tw_fee x.2.2 (x.1 10) ((-10) * x.1 0)) else x
def tw_deb (dl : Bool) (co : Int32) (x : tw_R) : tw_R := tw_debC dl (tw_debB dl co (tw_debA dl x))
def tw_SR (sg sg' : kx_S) (i : Nat) (x : tw_R) : Prop := (∀ q m, q ≠ 4 → q ≠ 5 → q ≠ 6 → q ≠ 7 → ¬ (q = 9 ∧ m = i) → sg' q m = sg q m) ∧ sg' 9 i = x.1 ∧ sg' 4 0 = x.2.1 ∧ sg' 5 0 = x.2.2
/-- what settling does to the rows of box i, of the ledger and of the fees -/
def tw_stl (sg : kx_S) (i n : Nat) : tw_R := tw_deb (decide (tw_last (tw_st sg i n) (sg 11 i) n = 30)) (tw_cour (tw_st sg i n) (sg 11 i) n) (upd (sg 9 i) 7 (tw_st sg i n), sg 4 0, sg 5 0)
theorem tw_trust_bd {tr jam : Nat → Int32} {k : Nat} (hk : k ≤ 14) (ht : ∀ w, w < 14 → 1 ≤ (tr w).toInt ∧ (tr w).toInt ≤ 9) : 1 ≤ (tw_trust tr jam k).toInt ∧ (tw_trust tr jam k).toInt ≤ 50 := by
  unfold tw_trust
  split
  · decide
  · split
    · decide
    · have h := ht k (by omega)
      omega
theorem tw_w_eq {tr jam mk : Nat → Int32} {k j : Nat} (hk : k < 12) (hj : j ≤ 14) (hm : mk k = nI j) (ht : ∀ w, w < 14 → 1 ≤ (tr w).toInt ∧ (tr w).toInt ≤ 9) : (tw_w tr jam mk k).toInt = (tw_trust tr jam j).toInt * 4096 + 2 ^ k := by
  have h1 := tw_trust_bd (jam := jam) hj ht
  have h2 := tw_pow_b k hk
  have h3 := tw_pow k hk
  have h4 : ((4096 : Int32)).toInt = 4096 := by decide
  unfold tw_w
  rw [hm, nI_clamp (by omega)]
  have h5 : (tw_trust tr jam j * 4096).toInt = (tw_trust tr jam j).toInt * 4096 := by
    rw [tw_mulI (by rw [h4]; omega) (by rw [h4]; omega), h4]
  rw [tw_addI (by rw [h5, h3]; omega) (by rw [h5, h3]; omega), h5, h3]
theorem tw_w_bd {tr jam mk : Nat → Int32} {k j : Nat} (hk : k < 12) (hj : j ≤ 14) (hm : mk k = nI j) (ht : ∀ w, w < 14 → 1 ≤ (tr w).toInt ∧ (tr w).toInt ≤ 9) : 0 < (tw_w tr jam mk k).toInt ∧ (tw_w tr jam mk k).toInt ≤ 300000 := by
  have h1 := tw_trust_bd (jam := jam) hj ht
  have h2 := tw_pow_b k hk
  rw [tw_w_eq hk hj hm ht]
  omega
theorem tw_st_of {sg : kx_S} {i n : Nat} {w : Nat → Int} {fo : Nat → Nat → Bool} {st : Nat → Bool} (hw : ∀ k, k < n → w k = (tw_w (sg 3 0) (fun d => sg 8 d 1) (sg 12 i) k).toInt) (hf : fo = fun j k => tw_tru (sg 13 i k) (nI j)) (hs : st = fun k => tw_tru (sg 13 i k) 12) : nI ((dp_best (dp_S w fo st) n).toNat % 4096) = tw_st sg i n := by
  subst hf; subst hs
  unfold tw_st
  rw [dp_best_congr n (dp_S_congr (n := n) hw (fun _ _ => rfl) (fun _ _ _ _ => rfl))]

theorem c_X0_isDelivered2 (l : Launch) (G : kx_G) (z0 : Nat) (ad : kx_A) (nb : Nat) (sg : kx_S) (i : Nat) (hi : i < nb) (n : Nat) (hn : sg 9 i 6 = nI n) (h12 : n ≤ 12) (st : Int32) (pl : Nat → Int32) (h7 : sg 9 i 7 = st) (h11 : sg 11 i = pl) : kx_M l yX0_isDelivered wsX0_isDelivered 2 42 0 0 G z0 ad nb sg [.ref (ad 9 i)] (fun r sg' => r = some (.int (tw_b (decide (tw_last st pl n = 30)))) ∧ sg' = sg) := by
  subst h7; subst h11
  exact c_X0_isDelivered l G z0 ad nb sg i hi n hn h12

theorem c_X0_deliverer2 (l : Launch) (G : kx_G) (z0 : Nat) (ad : kx_A) (nb : Nat) (sg : kx_S) (i : Nat) (hi : i < nb) (n : Nat) (hn : sg 9 i 6 = nI n) (h12 : n ≤ 12) (st : Int32) (pl : Nat → Int32) (h7 : sg 9 i 7 = st) (h11 : sg 11 i = pl) : kx_M l yX0_deliverer wsX0_deliverer 2 42 0 0 G z0 ad nb sg [.ref (ad 9 i)] (fun r sg' => r = some (.int (tw_cour st pl n)) ∧ sg' = sg) := by
  subst h7; subst h11
  exact c_X0_deliverer l G z0 ad nb sg i hi n hn h12

set_option maxHeartbeats 16000000 in
set_option maxRecDepth 100000 in
/-- story and debts of a box -/
theorem c_X3_settle (l : Launch) (G : kx_G) (z0 : Nat) (ad : kx_A) (nb : Nat) (sg : kx_S) (i : Nat) (hi : i < nb) (n : Nat) (hn : sg 9 i 6 = nI n) (h12 : n ≤ 12) (hm : ∀ k, k < n → ∃ j : Nat, j ≤ 14 ∧ sg 12 i k = nI j) (ht : ∀ w, w < 14 → 1 ≤ (sg 3 0 w).toInt ∧ (sg 3 0 w).toInt ≤ 9) : kx_M l yX3_settle wsX3_settle 3 65 0 0 G z0 ad nb sg [.ref (ad 0 0), .ref (ad 9 i)] (fun r sg' => r = none ∧ tw_SR sg sg' i (tw_stl sg i n)) := by
  refine Met.ofW (cc := cX3_settle) (maxL := 3) (ret := none) (by decide) rfl ?_
  intro p e s m args below meth c s₁ B hml hv
  obtain ⟨rfl, hW, hV⟩ := hv
  have hts := atoms_spec (ws := wsX3_settle) B.pre
  have F : kx_F p s m c cX3_settle 3 RX3 _ wsX3_settle G z0 := ⟨B.exec, B.bytes, hml, findClass_of_methodNamed B.named, hts, hV⟩
  have hx := B.exec; have hb := B.bytes; have hr := B.returns; have hlocks := B.notSynchronized
  have hS : va_S (kx_Ad z0) s.heap s.heap [] := va_S.rf
  have L_107 : Cond.fieldLink RX3 107 (TX0 0).1 (TX0 0).2.1 (TX0 0).2.2.1 ∈ wsX3_settle := by decide +kernel
  have L_156 : Cond.fieldLink RX3 156 (TX0 8).1 (TX0 8).2.1 (TX0 8).2.2.1 ∈ wsX3_settle := by decide +kernel
  have L_165 : Cond.fieldLink RX3 165 (TX0 1).1 (TX0 1).2.1 (TX0 1).2.2.1 ∈ wsX3_settle := by decide +kernel
  have L_191 : Cond.fieldLink RX3 191 (TX0 9).1 (TX0 9).2.1 (TX0 9).2.2.1 ∈ wsX3_settle := by decide +kernel
  have L_252 : Cond.fieldLink RX3 252 (TX0 10).1 (TX0 10).2.1 (TX0 10).2.2.1 ∈ wsX3_settle := by decide +kernel
  have L_28 : Cond.fieldLink RX3 28 (TX3 3).1 (TX3 3).2.1 (TX3 3).2.2.1 ∈ wsX3_settle := by decide +kernel
  have L_32 : Cond.fieldLink RX3 32 (TX3 4).1 (TX3 4).2.1 (TX3 4).2.2.1 ∈ wsX3_settle := by decide +kernel
  have L_35 : Cond.fieldLink RX3 35 (TX3 5).1 (TX3 5).2.1 (TX3 5).2.2.1 ∈ wsX3_settle := by decide +kernel
  have inX0 : ∀ w ∈ u_ws RX0 TX0 11, w ∈ wsX3_settle := by decide +kernel
  have inX3 : ∀ w ∈ u_ws RX3 TX3 9, w ∈ wsX3_settle := by decide +kernel
  have hl := lv_entry ([.ref (ad 0 0), .ref (ad 9 i)]) (n := 3) (Nat.le_of_ble_eq_true rfl)
  rw [lg_entry_eq]
  generalize (lg_sl ([.ref (ad 0 0), .ref (ad 9 i)]) ++ List.replicate (3 - (lg_sl ([.ref (ad 0 0), .ref (ad 9 i)])).length) Slot.unset).toArray = ls at hl ⊢
  have hl : lv_has ls 3 [(0, .ref (ad 0 0)), (1, .ref (ad 9 i))] := hl
  refine lv_aload_n hx hb dX3_settle_0 rfl (lv_at hl 0 rfl) ?_
  refine lv_aload_n hx hb dX3_settle_1 rfl (lv_at hl 1 rfl) ?_
  refine kx_cV (na := 1) F (q := 0) (n := 0) (c_X3_weighScans l G z0 ad nb sg i hi n hn h12 hm) gX3_settle_X3_weighScans rfl (by decide +kernel) ⟨Nat.le_of_ble_eq_true rfl, Nat.le_of_ble_eq_true rfl⟩ hW hS ⟨by decide, rfl⟩ rfl rfl (As := [.ref (ad 9 i)]) (rest := []) rfl hl.1 rfl (Nat.le_of_ble_eq_true rfl) dX3_settle_2 ⟨by first | exact Nat.le_of_ble_eq_true rfl | omega, by first | exact Nat.le_of_ble_eq_true rfl | omega⟩ (fun r9 sg9 H locs hq hW hS => ?_)
  obtain ⟨rfl, f6, e9, hf6⟩ := hq
  rw [e9] at hW
  have hW : kx_Wd G z0 ad nb (kx_up sg 6 0 f6) H := by first | exact hW | (simp only [kx_up_s, kx_up_up] at hW; exact hW) | (simp only [kx_up_s, kx_up_up, upd_s] at hW; exact hW)
  refine W.eq (g2 := F0 m 5 ls []) rfl ?_
  refine lv_aload_n hx hb dX3_settle_5 rfl (lv_at hl 1 rfl) ?_
  refine lv_aload_n hx hb dX3_settle_6 rfl (lv_at hl 0 rfl) ?_
  refine kx_g F inX3 hW 0 0 ⟨by decide, rfl⟩ rfl rfl 4 (by decide) L_32 (v := .ref (ad 6 0)) rfl dX3_settle_7 ?_
  refine lv_aload_n hx hb dX3_settle_10 rfl (lv_at hl 0 rfl) ?_
  refine kx_g F inX3 hW 0 0 ⟨by decide, rfl⟩ rfl rfl 5 (by decide) L_35 (v := .ref (ad 7 0)) rfl dX3_settle_11 ?_
  have hw6 : ∀ k, k < n → 0 < ((kx_up sg 6 0 f6) 6 0 k).toInt ∧ ((kx_up sg 6 0 f6) 6 0 k).toInt ≤ 300000 := fun k hk => by
    obtain ⟨j, hj, hmj⟩ := hm k hk
    have h9 := tw_w_bd (jam := fun d => sg 8 d 1) (by omega : k < 12) hj hmj ht
    rw [show (kx_up sg 6 0 f6) 6 0 k = f6 k from rfl, hf6 k hk]
    exact h9
  refine kx_cV (na := 2) F (q := 9) (n := i) (c_X0_chooseStory l G z0 ad nb (kx_up sg 6 0 f6) i hi n hn h12 hw6) gX3_settle_X0_chooseStory rfl (by decide +kernel) ⟨Nat.le_of_ble_eq_true rfl, Nat.le_of_ble_eq_true rfl⟩ hW hS hi rfl rfl (As := [.ref (ad 6 0), .ref (ad 7 0)]) (rest := []) rfl hl.1 rfl (Nat.le_of_ble_eq_true rfl) dX3_settle_14 ⟨by first | exact Nat.le_of_ble_eq_true rfl | omega, by first | exact Nat.le_of_ble_eq_true rfl | omega⟩ (fun r9 sg9 H locs hq hW hS => ?_)
  obtain ⟨rfl, f7, e9⟩ := hq
  rw [e9] at hW
  have est := tw_st_of (sg := sg) (i := i) (n := n) (w := fun k => ((kx_up sg 6 0 f6) 6 0 k).toInt) (fo := fun j k => tw_tru ((kx_up sg 6 0 f6) 13 i k) (nI j)) (st := fun k => tw_tru ((kx_up sg 6 0 f6) 13 i k) 12) (fun k hk => congrArg Int32.toInt (hf6 k hk)) rfl rfl
  rw [est] at hW
  have hW : kx_Wd G z0 ad nb (kx_up (kx_up (kx_up sg 6 0 f6) 7 0 f7) 9 i (upd (sg 9 i) 7 (tw_st sg i n))) H := by first | exact hW | (simp only [kx_up_s, kx_up_up] at hW; exact hW) | (simp only [kx_up_s, kx_up_up, upd_s] at hW; exact hW)
  refine W.eq (g2 := F0 m 17 ls []) rfl ?_
  refine lv_aload_n hx hb dX3_settle_17 rfl (lv_at hl 1 rfl) ?_
  refine kx_cV (na := 0) F (q := 9) (n := i) (c_X0_isDelivered2 l G z0 ad nb (kx_up (kx_up (kx_up sg 6 0 f6) 7 0 f7) 9 i (upd (sg 9 i) 7 (tw_st sg i n))) i hi n (by simp [kx_up, upd, hn]) h12 (tw_st sg i n) (sg 11 i) (by simp [kx_up, upd]) rfl) gX3_settle_X0_isDelivered rfl (by decide +kernel) ⟨Nat.le_of_ble_eq_true rfl, Nat.le_of_ble_eq_true rfl⟩ hW hS hi rfl rfl (As := []) (rest := []) rfl hl.1 rfl (Nat.le_of_ble_eq_true rfl) dX3_settle_18 ⟨by first | exact Nat.le_of_ble_eq_true rfl | omega, by first | exact Nat.le_of_ble_eq_true rfl | omega⟩ (fun r9 sg9 H locs hq hW hS => ?_)
  obtain ⟨rfl, e9⟩ := hq
  rw [e9] at hW
  refine W.eq (g2 := F0 m 21 ls [.int (tw_b (decide (tw_last (tw_st sg i n) (sg 11 i) n = 30)))]) rfl ?_
  refine lv_istore_n (lv' := [(2, .int (tw_b (decide (tw_last (tw_st sg i n) (sg 11 i) n = 30)))), (0, .ref (ad 0 0)), (1, .ref (ad 9 i))]) hx hb dX3_settle_21 rfl hl (by decide) rfl (fun ls hl => ?_)
  refine lv_iload_n hx hb dX3_settle_22 rfl (lv_at hl 0 rfl) ?_
  refine lv_if_eq (tgt := 49) hx hb dX3_settle_23 (by decide) (fun c_23 => ?_) (fun c_23 => ?_)
  · refine lv_iload_n hx hb dX3_settle_49 rfl (lv_at hl 0 rfl) ?_
    refine lv_if_eq (tgt := 91) hx hb dX3_settle_50 (by decide) (fun c_50 => ?_) (fun c_50 => ?_)
    · refine lv_iload_n hx hb dX3_settle_91 rfl (lv_at hl 0 rfl) ?_
      refine lv_if_ne (tgt := 125) hx hb dX3_settle_92 (by decide) (fun c_92 => ?_) (fun c_92 => ?_)
      · exact absurd c_23 c_92
      · refine lv_aload_n hx hb dX3_settle_95 rfl (lv_at hl 2 rfl) ?_
        refine kx_g F inX0 hW 9 i hi rfl rfl 9 (by decide) L_191 (v := .int (sg 9 i 9)) (by first | rfl | (simp only [kx_up_s]; done) | (simp only [kx_up_s, upd_s]; done) | (simp only [kx_up_s]; rfl) | (simp [kx_up, upd]; done)) dX3_settle_96 ?_
        refine lv_if_eq (tgt := 125) hx hb dX3_settle_99 (by decide) (fun c_99 => ?_) (fun c_99 => ?_)
        · have hdl : decide (tw_last (tw_st sg i n) (sg 11 i) n = 30) = false := tw_b_0 c_23
          have hA : tw_debA (decide (tw_last (tw_st sg i n) (sg 11 i) n = 30)) (upd (sg 9 i) 7 (tw_st sg i n), sg 4 0, sg 5 0) = (upd (sg 9 i) 7 (tw_st sg i n), sg 4 0, sg 5 0) := if_neg (fun h => by rw [hdl] at h; exact absurd h.1 (by decide))
          have hB : tw_debB (decide (tw_last (tw_st sg i n) (sg 11 i) n = 30)) (tw_cour (tw_st sg i n) (sg 11 i) n) (upd (sg 9 i) 7 (tw_st sg i n), sg 4 0, sg 5 0) = (upd (sg 9 i) 7 (tw_st sg i n), sg 4 0, sg 5 0) := if_neg (fun h => by rw [hdl] at h; exact absurd h.1 (by decide))
          have hC : tw_debC (decide (tw_last (tw_st sg i n) (sg 11 i) n = 30)) (upd (sg 9 i) 7 (tw_st sg i n), sg 4 0, sg 5 0) = (upd (sg 9 i) 7 (tw_st sg i n), sg 4 0, sg 5 0) := if_neg (fun h => h.2 c_99)
          have hpost : tw_SR sg (kx_up (kx_up (kx_up sg 6 0 f6) 7 0 f7) 9 i (upd (sg 9 i) 7 (tw_st sg i n))) i (tw_stl sg i n) := by
            rw [tw_stl, tw_deb, hA, hB, hC]
            refine ⟨fun q m h4 h5 h6 h7 h9 => ?_, ?_, ?_, ?_⟩
            · simp [kx_up, h4, h5, h6, h7, h9]
            · simp [kx_up]
            · simp [kx_up]
            · simp [kx_up]
          exact kx_rv F hr hlocks hW hS (by first | exact Nat.le_of_ble_eq_true rfl | omega) (by first | exact Nat.le_of_ble_eq_true rfl | omega) (⟨rfl, hpost⟩) dX3_settle_125
        · refine lv_aload_n hx hb dX3_settle_102 rfl (lv_at hl 2 rfl) ?_
          refine lv_iconst (v := 0) hx hb dX3_settle_103 (by decide) ?_
          refine kx_p F inX0 tyX0 tyX0_ok nmX0 hW hS 9 i hi rfl rfl 9 (by decide) L_191 rfl (v := .int 0) rfl rfl (Nat.le_of_ble_eq_true rfl) (upd ((kx_up (kx_up (kx_up sg 6 0 f6) 7 0 f7) 9 i (upd (sg 9 i) 7 (tw_st sg i n))) 9 i) 9 0) rfl dX3_settle_104 (fun H locs hW hS => ?_)
          have er9 : (kx_up (kx_up (kx_up sg 6 0 f6) 7 0 f7) 9 i (upd (sg 9 i) 7 (tw_st sg i n))) 9 i = upd (sg 9 i) 7 (tw_st sg i n) := by first | rfl | (simp only [kx_up_s]; done) | (simp [kx_up]; done)
          rw [er9] at hW
          rw [kx_up_up] at hW
          have hW : kx_Wd G z0 ad nb (kx_up (kx_up (kx_up sg 6 0 f6) 7 0 f7) 9 i (upd (upd (sg 9 i) 7 (tw_st sg i n)) 9 0)) H := hW
          refine lv_aload_n hx hb dX3_settle_107 rfl (lv_at hl 1 rfl) ?_
          refine kx_g F inX3 hW 0 0 ⟨by decide, rfl⟩ rfl rfl 3 (by decide) L_28 (v := .ref (ad 4 0)) rfl dX3_settle_108 ?_
          refine lv_aload_n hx hb dX3_settle_111 rfl (lv_at hl 2 rfl) ?_
          refine kx_g F inX0 hW 9 i hi rfl rfl 10 (by decide) L_252 (v := .int (sg 9 i 10)) (by first | rfl | (simp only [kx_up_s]; done) | (simp only [kx_up_s, upd_s]; done) | (simp only [kx_up_s]; rfl) | (simp [kx_up, upd]; done)) dX3_settle_112 ?_
          refine lv_bipush (v := (-10)) hx hb dX3_settle_115 (by decide) ?_
          refine lv_aload_n hx hb dX3_settle_117 rfl (lv_at hl 2 rfl) ?_
          refine kx_g F inX0 hW 9 i hi rfl rfl 0 (by decide) L_107 (v := .int (sg 9 i 0)) (by first | rfl | (simp only [kx_up_s]; done) | (simp only [kx_up_s, upd_s]; done) | (simp only [kx_up_s]; rfl) | (simp [kx_up, upd]; done)) dX3_settle_118 ?_
          refine lv_imul hx hb dX3_settle_121 ?_
          refine kx_cV (na := 2) F (q := 4) (n := 0) (c_X2_writeFee l G z0 ad nb (kx_up (kx_up (kx_up sg 6 0 f6) 7 0 f7) 9 i (upd (upd (sg 9 i) 7 (tw_st sg i n)) 9 0)) (sg 9 i 10) ((-10) * (sg 9 i 0))) gX3_settle_X2_writeFee rfl (by decide +kernel) ⟨Nat.le_of_ble_eq_true rfl, Nat.le_of_ble_eq_true rfl⟩ hW hS ⟨by decide, rfl⟩ rfl rfl (As := [.int (sg 9 i 10), .int ((-10) * (sg 9 i 0))]) (rest := []) rfl hl.1 rfl (Nat.le_of_ble_eq_true rfl) dX3_settle_122 ⟨by first | exact Nat.le_of_ble_eq_true rfl | omega, by first | exact Nat.le_of_ble_eq_true rfl | omega⟩ (fun r9 sg9 H locs hq hW hS => ?_)
          obtain ⟨rfl, e9⟩ := hq
          rw [e9] at hW
          have hW : kx_Wd G z0 ad nb (kx_up (kx_up (kx_up (kx_up (kx_up sg 6 0 f6) 7 0 f7) 9 i (upd (upd (sg 9 i) 7 (tw_st sg i n)) 9 0)) 5 0 (tw_fee (sg 5 0) (sg 9 i 10) ((-10) * (sg 9 i 0)))) 4 0 (tw_note (sg 4 0))) H := by first | exact hW | (simp only [kx_up_s, kx_up_up] at hW; exact hW) | (simp only [kx_up_s, kx_up_up, upd_s] at hW; exact hW)
          refine W.eq (g2 := F0 m 125 ls []) rfl ?_
          have hdl : decide (tw_last (tw_st sg i n) (sg 11 i) n = 30) = false := tw_b_0 c_23
          have hA : tw_debA (decide (tw_last (tw_st sg i n) (sg 11 i) n = 30)) (upd (sg 9 i) 7 (tw_st sg i n), sg 4 0, sg 5 0) = (upd (sg 9 i) 7 (tw_st sg i n), sg 4 0, sg 5 0) := if_neg (fun h => by rw [hdl] at h; exact absurd h.1 (by decide))
          have hB : tw_debB (decide (tw_last (tw_st sg i n) (sg 11 i) n = 30)) (tw_cour (tw_st sg i n) (sg 11 i) n) (upd (sg 9 i) 7 (tw_st sg i n), sg 4 0, sg 5 0) = (upd (sg 9 i) 7 (tw_st sg i n), sg 4 0, sg 5 0) := if_neg (fun h => by rw [hdl] at h; exact absurd h.1 (by decide))
          have hC : tw_debC (decide (tw_last (tw_st sg i n) (sg 11 i) n = 30)) (upd (sg 9 i) 7 (tw_st sg i n), sg 4 0, sg 5 0) = (upd (upd (sg 9 i) 7 (tw_st sg i n)) 9 0, tw_note (sg 4 0), tw_fee (sg 5 0) (sg 9 i 10) ((-10) * sg 9 i 0)) := if_pos ⟨hdl, c_99⟩
          have hpost : tw_SR sg (kx_up (kx_up (kx_up (kx_up (kx_up sg 6 0 f6) 7 0 f7) 9 i (upd (upd (sg 9 i) 7 (tw_st sg i n)) 9 0)) 5 0 (tw_fee (sg 5 0) (sg 9 i 10) ((-10) * (sg 9 i 0)))) 4 0 (tw_note (sg 4 0))) i (tw_stl sg i n) := by
            rw [tw_stl, tw_deb, hA, hB, hC]
            refine ⟨fun q m h4 h5 h6 h7 h9 => ?_, ?_, ?_, ?_⟩
            · simp [kx_up, h4, h5, h6, h7, h9]
            · simp [kx_up]
            · simp [kx_up]
            · simp [kx_up]
          exact kx_rv F hr hlocks hW hS (by first | exact Nat.le_of_ble_eq_true rfl | omega) (by first | exact Nat.le_of_ble_eq_true rfl | omega) (⟨rfl, hpost⟩) dX3_settle_125
    · exact absurd c_23 c_50
  · refine lv_aload_n hx hb dX3_settle_26 rfl (lv_at hl 2 rfl) ?_
    refine kx_g F inX0 hW 9 i hi rfl rfl 8 (by decide) L_156 (v := .int (sg 9 i 8)) (by first | rfl | (simp only [kx_up_s]; done) | (simp only [kx_up_s, upd_s]; done) | (simp only [kx_up_s]; rfl) | (simp [kx_up, upd]; done)) dX3_settle_27 ?_
    refine lv_if_eq (tgt := 49) hx hb dX3_settle_30 (by decide) (fun c_30 => ?_) (fun c_30 => ?_)
    · refine lv_iload_n hx hb dX3_settle_49 rfl (lv_at hl 0 rfl) ?_
      refine lv_if_eq (tgt := 91) hx hb dX3_settle_50 (by decide) (fun c_50 => ?_) (fun c_50 => ?_)
      · exact absurd c_50 c_23
      · refine lv_aload_n hx hb dX3_settle_53 rfl (lv_at hl 2 rfl) ?_
        refine kx_g F inX0 hW 9 i hi rfl rfl 9 (by decide) L_191 (v := .int (sg 9 i 9)) (by first | rfl | (simp only [kx_up_s]; done) | (simp only [kx_up_s, upd_s]; done) | (simp only [kx_up_s]; rfl) | (simp [kx_up, upd]; done)) dX3_settle_54 ?_
        refine lv_if_ne (tgt := 91) hx hb dX3_settle_57 (by decide) (fun c_57 => ?_) (fun c_57 => ?_)
        · refine lv_iload_n hx hb dX3_settle_91 rfl (lv_at hl 0 rfl) ?_
          refine lv_if_ne (tgt := 125) hx hb dX3_settle_92 (by decide) (fun c_92 => ?_) (fun c_92 => ?_)
          · have hdl : decide (tw_last (tw_st sg i n) (sg 11 i) n = 30) = true := tw_b_1 c_23
            have hA : tw_debA (decide (tw_last (tw_st sg i n) (sg 11 i) n = 30)) (upd (sg 9 i) 7 (tw_st sg i n), sg 4 0, sg 5 0) = (upd (sg 9 i) 7 (tw_st sg i n), sg 4 0, sg 5 0) := if_neg (fun h => h.2 c_30)
            have hB : tw_debB (decide (tw_last (tw_st sg i n) (sg 11 i) n = 30)) (tw_cour (tw_st sg i n) (sg 11 i) n) (upd (sg 9 i) 7 (tw_st sg i n), sg 4 0, sg 5 0) = (upd (sg 9 i) 7 (tw_st sg i n), sg 4 0, sg 5 0) := if_neg (fun h => c_57 h.2)
            have hC : tw_debC (decide (tw_last (tw_st sg i n) (sg 11 i) n = 30)) (upd (sg 9 i) 7 (tw_st sg i n), sg 4 0, sg 5 0) = (upd (sg 9 i) 7 (tw_st sg i n), sg 4 0, sg 5 0) := if_neg (fun h => by rw [hdl] at h; exact absurd h.1 (by decide))
            have hpost : tw_SR sg (kx_up (kx_up (kx_up sg 6 0 f6) 7 0 f7) 9 i (upd (sg 9 i) 7 (tw_st sg i n))) i (tw_stl sg i n) := by
              rw [tw_stl, tw_deb, hA, hB, hC]
              refine ⟨fun q m h4 h5 h6 h7 h9 => ?_, ?_, ?_, ?_⟩
              · simp [kx_up, h4, h5, h6, h7, h9]
              · simp [kx_up]
              · simp [kx_up]
              · simp [kx_up]
            exact kx_rv F hr hlocks hW hS (by first | exact Nat.le_of_ble_eq_true rfl | omega) (by first | exact Nat.le_of_ble_eq_true rfl | omega) (⟨rfl, hpost⟩) dX3_settle_125
          · exact absurd c_92 c_23
        · refine lv_aload_n hx hb dX3_settle_60 rfl (lv_at hl 2 rfl) ?_
          refine lv_iconst (v := 1) hx hb dX3_settle_61 (by decide) ?_
          refine kx_p F inX0 tyX0 tyX0_ok nmX0 hW hS 9 i hi rfl rfl 9 (by decide) L_191 rfl (v := .int 1) rfl rfl (Nat.le_of_ble_eq_true rfl) (upd ((kx_up (kx_up (kx_up sg 6 0 f6) 7 0 f7) 9 i (upd (sg 9 i) 7 (tw_st sg i n))) 9 i) 9 1) rfl dX3_settle_62 (fun H locs hW hS => ?_)
          have er9 : (kx_up (kx_up (kx_up sg 6 0 f6) 7 0 f7) 9 i (upd (sg 9 i) 7 (tw_st sg i n))) 9 i = upd (sg 9 i) 7 (tw_st sg i n) := by first | rfl | (simp only [kx_up_s]; done) | (simp [kx_up]; done)
          rw [er9] at hW
          rw [kx_up_up] at hW
          have hW : kx_Wd G z0 ad nb (kx_up (kx_up (kx_up sg 6 0 f6) 7 0 f7) 9 i (upd (upd (sg 9 i) 7 (tw_st sg i n)) 9 1)) H := hW
          refine lv_aload_n hx hb dX3_settle_65 rfl (lv_at hl 2 rfl) ?_
          refine lv_aload_n hx hb dX3_settle_66 rfl (lv_at hl 2 rfl) ?_
          refine kx_cV (na := 0) F (q := 9) (n := i) (c_X0_deliverer2 l G z0 ad nb (kx_up (kx_up (kx_up sg 6 0 f6) 7 0 f7) 9 i (upd (upd (sg 9 i) 7 (tw_st sg i n)) 9 1)) i hi n (by simp [kx_up, upd, hn]) h12 (tw_st sg i n) (sg 11 i) (by simp [kx_up, upd]) rfl) gX3_settle_X0_deliverer rfl (by decide +kernel) ⟨Nat.le_of_ble_eq_true rfl, Nat.le_of_ble_eq_true rfl⟩ hW hS hi rfl rfl (As := []) (rest := [.ref (ad 9 i)]) rfl hl.1 rfl (Nat.le_of_ble_eq_true rfl) dX3_settle_67 ⟨by first | exact Nat.le_of_ble_eq_true rfl | omega, by first | exact Nat.le_of_ble_eq_true rfl | omega⟩ (fun r9 sg9 H locs hq hW hS => ?_)
          obtain ⟨rfl, e9⟩ := hq
          rw [e9] at hW
          refine W.eq (g2 := F0 m 70 ls [.int (tw_cour (tw_st sg i n) (sg 11 i) n), .ref (ad 9 i)]) rfl ?_
          refine kx_p F inX0 tyX0 tyX0_ok nmX0 hW hS 9 i hi rfl rfl 10 (by decide) L_252 rfl (v := .int (tw_cour (tw_st sg i n) (sg 11 i) n)) rfl rfl (Nat.le_of_ble_eq_true rfl) (upd ((kx_up (kx_up (kx_up sg 6 0 f6) 7 0 f7) 9 i (upd (upd (sg 9 i) 7 (tw_st sg i n)) 9 1)) 9 i) 10 (tw_cour (tw_st sg i n) (sg 11 i) n)) rfl dX3_settle_70 (fun H locs hW hS => ?_)
          have er9 : (kx_up (kx_up (kx_up sg 6 0 f6) 7 0 f7) 9 i (upd (upd (sg 9 i) 7 (tw_st sg i n)) 9 1)) 9 i = upd (upd (sg 9 i) 7 (tw_st sg i n)) 9 1 := by first | rfl | (simp only [kx_up_s]; done) | (simp [kx_up]; done)
          rw [er9] at hW
          rw [kx_up_up] at hW
          have hW : kx_Wd G z0 ad nb (kx_up (kx_up (kx_up sg 6 0 f6) 7 0 f7) 9 i (upd (upd (upd (sg 9 i) 7 (tw_st sg i n)) 9 1) 10 (tw_cour (tw_st sg i n) (sg 11 i) n))) H := hW
          refine lv_aload_n hx hb dX3_settle_73 rfl (lv_at hl 1 rfl) ?_
          refine kx_g F inX3 hW 0 0 ⟨by decide, rfl⟩ rfl rfl 3 (by decide) L_28 (v := .ref (ad 4 0)) rfl dX3_settle_74 ?_
          refine lv_aload_n hx hb dX3_settle_77 rfl (lv_at hl 2 rfl) ?_
          refine kx_g F inX0 hW 9 i hi rfl rfl 10 (by decide) L_252 (v := .int (tw_cour (tw_st sg i n) (sg 11 i) n)) (by first | rfl | (simp only [kx_up_s]; done) | (simp only [kx_up_s, upd_s]; done) | (simp only [kx_up_s]; rfl) | (simp [kx_up, upd]; done)) dX3_settle_78 ?_
          refine lv_bipush (v := 10) hx hb dX3_settle_81 (by decide) ?_
          refine lv_aload_n hx hb dX3_settle_83 rfl (lv_at hl 2 rfl) ?_
          refine kx_g F inX0 hW 9 i hi rfl rfl 0 (by decide) L_107 (v := .int (sg 9 i 0)) (by first | rfl | (simp only [kx_up_s]; done) | (simp only [kx_up_s, upd_s]; done) | (simp only [kx_up_s]; rfl) | (simp [kx_up, upd]; done)) dX3_settle_84 ?_
          refine lv_imul hx hb dX3_settle_87 ?_
          refine kx_cV (na := 2) F (q := 4) (n := 0) (c_X2_writeFee l G z0 ad nb (kx_up (kx_up (kx_up sg 6 0 f6) 7 0 f7) 9 i (upd (upd (upd (sg 9 i) 7 (tw_st sg i n)) 9 1) 10 (tw_cour (tw_st sg i n) (sg 11 i) n))) (tw_cour (tw_st sg i n) (sg 11 i) n) (10 * (sg 9 i 0))) gX3_settle_X2_writeFee rfl (by decide +kernel) ⟨Nat.le_of_ble_eq_true rfl, Nat.le_of_ble_eq_true rfl⟩ hW hS ⟨by decide, rfl⟩ rfl rfl (As := [.int (tw_cour (tw_st sg i n) (sg 11 i) n), .int (10 * (sg 9 i 0))]) (rest := []) rfl hl.1 rfl (Nat.le_of_ble_eq_true rfl) dX3_settle_88 ⟨by first | exact Nat.le_of_ble_eq_true rfl | omega, by first | exact Nat.le_of_ble_eq_true rfl | omega⟩ (fun r9 sg9 H locs hq hW hS => ?_)
          obtain ⟨rfl, e9⟩ := hq
          rw [e9] at hW
          have hW : kx_Wd G z0 ad nb (kx_up (kx_up (kx_up (kx_up (kx_up sg 6 0 f6) 7 0 f7) 9 i (upd (upd (upd (sg 9 i) 7 (tw_st sg i n)) 9 1) 10 (tw_cour (tw_st sg i n) (sg 11 i) n))) 5 0 (tw_fee (sg 5 0) (tw_cour (tw_st sg i n) (sg 11 i) n) (10 * (sg 9 i 0)))) 4 0 (tw_note (sg 4 0))) H := by first | exact hW | (simp only [kx_up_s, kx_up_up] at hW; exact hW) | (simp only [kx_up_s, kx_up_up, upd_s] at hW; exact hW)
          refine W.eq (g2 := F0 m 91 ls []) rfl ?_
          refine lv_iload_n hx hb dX3_settle_91 rfl (lv_at hl 0 rfl) ?_
          refine lv_if_ne (tgt := 125) hx hb dX3_settle_92 (by decide) (fun c_92 => ?_) (fun c_92 => ?_)
          · have hdl : decide (tw_last (tw_st sg i n) (sg 11 i) n = 30) = true := tw_b_1 c_23
            have hA : tw_debA (decide (tw_last (tw_st sg i n) (sg 11 i) n = 30)) (upd (sg 9 i) 7 (tw_st sg i n), sg 4 0, sg 5 0) = (upd (sg 9 i) 7 (tw_st sg i n), sg 4 0, sg 5 0) := if_neg (fun h => h.2 c_30)
            have hB : tw_debB (decide (tw_last (tw_st sg i n) (sg 11 i) n = 30)) (tw_cour (tw_st sg i n) (sg 11 i) n) (upd (sg 9 i) 7 (tw_st sg i n), sg 4 0, sg 5 0) = (upd (upd (upd (sg 9 i) 7 (tw_st sg i n)) 9 1) 10 (tw_cour (tw_st sg i n) (sg 11 i) n), tw_note (sg 4 0), tw_fee (sg 5 0) (tw_cour (tw_st sg i n) (sg 11 i) n) (10 * sg 9 i 0)) := if_pos ⟨hdl, c_57⟩
            have hC : tw_debC (decide (tw_last (tw_st sg i n) (sg 11 i) n = 30)) (upd (upd (upd (sg 9 i) 7 (tw_st sg i n)) 9 1) 10 (tw_cour (tw_st sg i n) (sg 11 i) n), tw_note (sg 4 0), tw_fee (sg 5 0) (tw_cour (tw_st sg i n) (sg 11 i) n) (10 * sg 9 i 0)) = (upd (upd (upd (sg 9 i) 7 (tw_st sg i n)) 9 1) 10 (tw_cour (tw_st sg i n) (sg 11 i) n), tw_note (sg 4 0), tw_fee (sg 5 0) (tw_cour (tw_st sg i n) (sg 11 i) n) (10 * sg 9 i 0)) := if_neg (fun h => by rw [hdl] at h; exact absurd h.1 (by decide))
            have hpost : tw_SR sg (kx_up (kx_up (kx_up (kx_up (kx_up sg 6 0 f6) 7 0 f7) 9 i (upd (upd (upd (sg 9 i) 7 (tw_st sg i n)) 9 1) 10 (tw_cour (tw_st sg i n) (sg 11 i) n))) 5 0 (tw_fee (sg 5 0) (tw_cour (tw_st sg i n) (sg 11 i) n) (10 * (sg 9 i 0)))) 4 0 (tw_note (sg 4 0))) i (tw_stl sg i n) := by
              rw [tw_stl, tw_deb, hA, hB, hC]
              refine ⟨fun q m h4 h5 h6 h7 h9 => ?_, ?_, ?_, ?_⟩
              · simp [kx_up, h4, h5, h6, h7, h9]
              · simp [kx_up]
              · simp [kx_up]
              · simp [kx_up]
            exact kx_rv F hr hlocks hW hS (by first | exact Nat.le_of_ble_eq_true rfl | omega) (by first | exact Nat.le_of_ble_eq_true rfl | omega) (⟨rfl, hpost⟩) dX3_settle_125
          · exact absurd c_92 c_23
    · refine lv_aload_n hx hb dX3_settle_33 rfl (lv_at hl 2 rfl) ?_
      refine lv_iconst (v := 0) hx hb dX3_settle_34 (by decide) ?_
      refine kx_p F inX0 tyX0 tyX0_ok nmX0 hW hS 9 i hi rfl rfl 8 (by decide) L_156 rfl (v := .int 0) rfl rfl (Nat.le_of_ble_eq_true rfl) (upd ((kx_up (kx_up (kx_up sg 6 0 f6) 7 0 f7) 9 i (upd (sg 9 i) 7 (tw_st sg i n))) 9 i) 8 0) rfl dX3_settle_35 (fun H locs hW hS => ?_)
      have er9 : (kx_up (kx_up (kx_up sg 6 0 f6) 7 0 f7) 9 i (upd (sg 9 i) 7 (tw_st sg i n))) 9 i = upd (sg 9 i) 7 (tw_st sg i n) := by first | rfl | (simp only [kx_up_s]; done) | (simp [kx_up]; done)
      rw [er9] at hW
      rw [kx_up_up] at hW
      have hW : kx_Wd G z0 ad nb (kx_up (kx_up (kx_up sg 6 0 f6) 7 0 f7) 9 i (upd (upd (sg 9 i) 7 (tw_st sg i n)) 8 0)) H := hW
      refine lv_aload_n hx hb dX3_settle_38 rfl (lv_at hl 1 rfl) ?_
      refine kx_g F inX3 hW 0 0 ⟨by decide, rfl⟩ rfl rfl 3 (by decide) L_28 (v := .ref (ad 4 0)) rfl dX3_settle_39 ?_
      refine lv_aload_n hx hb dX3_settle_42 rfl (lv_at hl 2 rfl) ?_
      refine kx_g F inX0 hW 9 i hi rfl rfl 1 (by decide) L_165 (v := .int (sg 9 i 1)) (by first | rfl | (simp only [kx_up_s]; done) | (simp only [kx_up_s, upd_s]; done) | (simp only [kx_up_s]; rfl) | (simp [kx_up, upd]; done)) dX3_settle_43 ?_
      refine kx_cV (na := 1) F (q := 4) (n := 0) (c_X2_claimBack l G z0 ad nb (kx_up (kx_up (kx_up sg 6 0 f6) 7 0 f7) 9 i (upd (upd (sg 9 i) 7 (tw_st sg i n)) 8 0)) (sg 9 i 1)) gX3_settle_X2_claimBack rfl (by decide +kernel) ⟨Nat.le_of_ble_eq_true rfl, Nat.le_of_ble_eq_true rfl⟩ hW hS ⟨by decide, rfl⟩ rfl rfl (As := [.int (sg 9 i 1)]) (rest := []) rfl hl.1 rfl (Nat.le_of_ble_eq_true rfl) dX3_settle_46 ⟨by first | exact Nat.le_of_ble_eq_true rfl | omega, by first | exact Nat.le_of_ble_eq_true rfl | omega⟩ (fun r9 sg9 H locs hq hW hS => ?_)
      obtain ⟨rfl, e9⟩ := hq
      rw [e9] at hW
      have hW : kx_Wd G z0 ad nb (kx_up (kx_up (kx_up (kx_up sg 6 0 f6) 7 0 f7) 9 i (upd (upd (sg 9 i) 7 (tw_st sg i n)) 8 0)) 4 0 (tw_back (sg 4 0) (sg 9 i 1))) H := by first | exact hW | (simp only [kx_up_s, kx_up_up] at hW; exact hW) | (simp only [kx_up_s, kx_up_up, upd_s] at hW; exact hW)
      refine W.eq (g2 := F0 m 49 ls []) rfl ?_
      refine lv_iload_n hx hb dX3_settle_49 rfl (lv_at hl 0 rfl) ?_
      refine lv_if_eq (tgt := 91) hx hb dX3_settle_50 (by decide) (fun c_50 => ?_) (fun c_50 => ?_)
      · exact absurd c_50 c_23
      · refine lv_aload_n hx hb dX3_settle_53 rfl (lv_at hl 2 rfl) ?_
        refine kx_g F inX0 hW 9 i hi rfl rfl 9 (by decide) L_191 (v := .int (sg 9 i 9)) (by first | rfl | (simp only [kx_up_s]; done) | (simp only [kx_up_s, upd_s]; done) | (simp only [kx_up_s]; rfl) | (simp [kx_up, upd]; done)) dX3_settle_54 ?_
        refine lv_if_ne (tgt := 91) hx hb dX3_settle_57 (by decide) (fun c_57 => ?_) (fun c_57 => ?_)
        · refine lv_iload_n hx hb dX3_settle_91 rfl (lv_at hl 0 rfl) ?_
          refine lv_if_ne (tgt := 125) hx hb dX3_settle_92 (by decide) (fun c_92 => ?_) (fun c_92 => ?_)
          · have hdl : decide (tw_last (tw_st sg i n) (sg 11 i) n = 30) = true := tw_b_1 c_23
            have hA : tw_debA (decide (tw_last (tw_st sg i n) (sg 11 i) n = 30)) (upd (sg 9 i) 7 (tw_st sg i n), sg 4 0, sg 5 0) = (upd (upd (sg 9 i) 7 (tw_st sg i n)) 8 0, tw_back (sg 4 0) (sg 9 i 1), sg 5 0) := if_pos ⟨hdl, c_30⟩
            have hB : tw_debB (decide (tw_last (tw_st sg i n) (sg 11 i) n = 30)) (tw_cour (tw_st sg i n) (sg 11 i) n) (upd (upd (sg 9 i) 7 (tw_st sg i n)) 8 0, tw_back (sg 4 0) (sg 9 i 1), sg 5 0) = (upd (upd (sg 9 i) 7 (tw_st sg i n)) 8 0, tw_back (sg 4 0) (sg 9 i 1), sg 5 0) := if_neg (fun h => c_57 h.2)
            have hC : tw_debC (decide (tw_last (tw_st sg i n) (sg 11 i) n = 30)) (upd (upd (sg 9 i) 7 (tw_st sg i n)) 8 0, tw_back (sg 4 0) (sg 9 i 1), sg 5 0) = (upd (upd (sg 9 i) 7 (tw_st sg i n)) 8 0, tw_back (sg 4 0) (sg 9 i 1), sg 5 0) := if_neg (fun h => by rw [hdl] at h; exact absurd h.1 (by decide))
            have hpost : tw_SR sg (kx_up (kx_up (kx_up (kx_up sg 6 0 f6) 7 0 f7) 9 i (upd (upd (sg 9 i) 7 (tw_st sg i n)) 8 0)) 4 0 (tw_back (sg 4 0) (sg 9 i 1))) i (tw_stl sg i n) := by
              rw [tw_stl, tw_deb, hA, hB, hC]
              refine ⟨fun q m h4 h5 h6 h7 h9 => ?_, ?_, ?_, ?_⟩
              · simp [kx_up, h4, h5, h6, h7, h9]
              · simp [kx_up]
              · simp [kx_up]
              · simp [kx_up]
            exact kx_rv F hr hlocks hW hS (by first | exact Nat.le_of_ble_eq_true rfl | omega) (by first | exact Nat.le_of_ble_eq_true rfl | omega) (⟨rfl, hpost⟩) dX3_settle_125
          · exact absurd c_92 c_23
        · refine lv_aload_n hx hb dX3_settle_60 rfl (lv_at hl 2 rfl) ?_
          refine lv_iconst (v := 1) hx hb dX3_settle_61 (by decide) ?_
          refine kx_p F inX0 tyX0 tyX0_ok nmX0 hW hS 9 i hi rfl rfl 9 (by decide) L_191 rfl (v := .int 1) rfl rfl (Nat.le_of_ble_eq_true rfl) (upd ((kx_up (kx_up (kx_up (kx_up sg 6 0 f6) 7 0 f7) 9 i (upd (upd (sg 9 i) 7 (tw_st sg i n)) 8 0)) 4 0 (tw_back (sg 4 0) (sg 9 i 1))) 9 i) 9 1) rfl dX3_settle_62 (fun H locs hW hS => ?_)
          have er9 : (kx_up (kx_up (kx_up (kx_up sg 6 0 f6) 7 0 f7) 9 i (upd (upd (sg 9 i) 7 (tw_st sg i n)) 8 0)) 4 0 (tw_back (sg 4 0) (sg 9 i 1))) 9 i = upd (upd (sg 9 i) 7 (tw_st sg i n)) 8 0 := by first | rfl | (simp only [kx_up_s]; done) | (simp [kx_up]; done)
          rw [er9] at hW
          have hW : kx_Wd G z0 ad nb (kx_up (kx_up (kx_up (kx_up (kx_up sg 6 0 f6) 7 0 f7) 9 i (upd (upd (sg 9 i) 7 (tw_st sg i n)) 8 0)) 4 0 (tw_back (sg 4 0) (sg 9 i 1))) 9 i (upd (upd (upd (sg 9 i) 7 (tw_st sg i n)) 8 0) 9 1)) H := hW
          refine lv_aload_n hx hb dX3_settle_65 rfl (lv_at hl 2 rfl) ?_
          refine lv_aload_n hx hb dX3_settle_66 rfl (lv_at hl 2 rfl) ?_
          refine kx_cV (na := 0) F (q := 9) (n := i) (c_X0_deliverer2 l G z0 ad nb (kx_up (kx_up (kx_up (kx_up (kx_up sg 6 0 f6) 7 0 f7) 9 i (upd (upd (sg 9 i) 7 (tw_st sg i n)) 8 0)) 4 0 (tw_back (sg 4 0) (sg 9 i 1))) 9 i (upd (upd (upd (sg 9 i) 7 (tw_st sg i n)) 8 0) 9 1)) i hi n (by simp [kx_up, upd, hn]) h12 (tw_st sg i n) (sg 11 i) (by simp [kx_up, upd]) rfl) gX3_settle_X0_deliverer rfl (by decide +kernel) ⟨Nat.le_of_ble_eq_true rfl, Nat.le_of_ble_eq_true rfl⟩ hW hS hi rfl rfl (As := []) (rest := [.ref (ad 9 i)]) rfl hl.1 rfl (Nat.le_of_ble_eq_true rfl) dX3_settle_67 ⟨by first | exact Nat.le_of_ble_eq_true rfl | omega, by first | exact Nat.le_of_ble_eq_true rfl | omega⟩ (fun r9 sg9 H locs hq hW hS => ?_)
          obtain ⟨rfl, e9⟩ := hq
          rw [e9] at hW
          refine W.eq (g2 := F0 m 70 ls [.int (tw_cour (tw_st sg i n) (sg 11 i) n), .ref (ad 9 i)]) rfl ?_
          refine kx_p F inX0 tyX0 tyX0_ok nmX0 hW hS 9 i hi rfl rfl 10 (by decide) L_252 rfl (v := .int (tw_cour (tw_st sg i n) (sg 11 i) n)) rfl rfl (Nat.le_of_ble_eq_true rfl) (upd ((kx_up (kx_up (kx_up (kx_up (kx_up sg 6 0 f6) 7 0 f7) 9 i (upd (upd (sg 9 i) 7 (tw_st sg i n)) 8 0)) 4 0 (tw_back (sg 4 0) (sg 9 i 1))) 9 i (upd (upd (upd (sg 9 i) 7 (tw_st sg i n)) 8 0) 9 1)) 9 i) 10 (tw_cour (tw_st sg i n) (sg 11 i) n)) rfl dX3_settle_70 (fun H locs hW hS => ?_)
          have er9 : (kx_up (kx_up (kx_up (kx_up (kx_up sg 6 0 f6) 7 0 f7) 9 i (upd (upd (sg 9 i) 7 (tw_st sg i n)) 8 0)) 4 0 (tw_back (sg 4 0) (sg 9 i 1))) 9 i (upd (upd (upd (sg 9 i) 7 (tw_st sg i n)) 8 0) 9 1)) 9 i = upd (upd (upd (sg 9 i) 7 (tw_st sg i n)) 8 0) 9 1 := by first | rfl | (simp only [kx_up_s]; done) | (simp [kx_up]; done)
          rw [er9] at hW
          rw [kx_up_up] at hW
          have hW : kx_Wd G z0 ad nb (kx_up (kx_up (kx_up (kx_up (kx_up sg 6 0 f6) 7 0 f7) 9 i (upd (upd (sg 9 i) 7 (tw_st sg i n)) 8 0)) 4 0 (tw_back (sg 4 0) (sg 9 i 1))) 9 i (upd (upd (upd (upd (sg 9 i) 7 (tw_st sg i n)) 8 0) 9 1) 10 (tw_cour (tw_st sg i n) (sg 11 i) n))) H := hW
          refine lv_aload_n hx hb dX3_settle_73 rfl (lv_at hl 1 rfl) ?_
          refine kx_g F inX3 hW 0 0 ⟨by decide, rfl⟩ rfl rfl 3 (by decide) L_28 (v := .ref (ad 4 0)) rfl dX3_settle_74 ?_
          refine lv_aload_n hx hb dX3_settle_77 rfl (lv_at hl 2 rfl) ?_
          refine kx_g F inX0 hW 9 i hi rfl rfl 10 (by decide) L_252 (v := .int (tw_cour (tw_st sg i n) (sg 11 i) n)) (by first | rfl | (simp only [kx_up_s]; done) | (simp only [kx_up_s, upd_s]; done) | (simp only [kx_up_s]; rfl) | (simp [kx_up, upd]; done)) dX3_settle_78 ?_
          refine lv_bipush (v := 10) hx hb dX3_settle_81 (by decide) ?_
          refine lv_aload_n hx hb dX3_settle_83 rfl (lv_at hl 2 rfl) ?_
          refine kx_g F inX0 hW 9 i hi rfl rfl 0 (by decide) L_107 (v := .int (sg 9 i 0)) (by first | rfl | (simp only [kx_up_s]; done) | (simp only [kx_up_s, upd_s]; done) | (simp only [kx_up_s]; rfl) | (simp [kx_up, upd]; done)) dX3_settle_84 ?_
          refine lv_imul hx hb dX3_settle_87 ?_
          refine kx_cV (na := 2) F (q := 4) (n := 0) (c_X2_writeFee l G z0 ad nb (kx_up (kx_up (kx_up (kx_up (kx_up sg 6 0 f6) 7 0 f7) 9 i (upd (upd (sg 9 i) 7 (tw_st sg i n)) 8 0)) 4 0 (tw_back (sg 4 0) (sg 9 i 1))) 9 i (upd (upd (upd (upd (sg 9 i) 7 (tw_st sg i n)) 8 0) 9 1) 10 (tw_cour (tw_st sg i n) (sg 11 i) n))) (tw_cour (tw_st sg i n) (sg 11 i) n) (10 * (sg 9 i 0))) gX3_settle_X2_writeFee rfl (by decide +kernel) ⟨Nat.le_of_ble_eq_true rfl, Nat.le_of_ble_eq_true rfl⟩ hW hS ⟨by decide, rfl⟩ rfl rfl (As := [.int (tw_cour (tw_st sg i n) (sg 11 i) n), .int (10 * (sg 9 i 0))]) (rest := []) rfl hl.1 rfl (Nat.le_of_ble_eq_true rfl) dX3_settle_88 ⟨by first | exact Nat.le_of_ble_eq_true rfl | omega, by first | exact Nat.le_of_ble_eq_true rfl | omega⟩ (fun r9 sg9 H locs hq hW hS => ?_)
          obtain ⟨rfl, e9⟩ := hq
          rw [e9] at hW
          have hW : kx_Wd G z0 ad nb (kx_up (kx_up (kx_up (kx_up (kx_up (kx_up (kx_up sg 6 0 f6) 7 0 f7) 9 i (upd (upd (sg 9 i) 7 (tw_st sg i n)) 8 0)) 4 0 (tw_back (sg 4 0) (sg 9 i 1))) 9 i (upd (upd (upd (upd (sg 9 i) 7 (tw_st sg i n)) 8 0) 9 1) 10 (tw_cour (tw_st sg i n) (sg 11 i) n))) 5 0 (tw_fee (sg 5 0) (tw_cour (tw_st sg i n) (sg 11 i) n) (10 * (sg 9 i 0)))) 4 0 (tw_note (tw_back (sg 4 0) (sg 9 i 1)))) H := by first | exact hW | (simp only [kx_up_s, kx_up_up] at hW; exact hW) | (simp only [kx_up_s, kx_up_up, upd_s] at hW; exact hW)
          refine W.eq (g2 := F0 m 91 ls []) rfl ?_
          refine lv_iload_n hx hb dX3_settle_91 rfl (lv_at hl 0 rfl) ?_
          refine lv_if_ne (tgt := 125) hx hb dX3_settle_92 (by decide) (fun c_92 => ?_) (fun c_92 => ?_)
          · have hdl : decide (tw_last (tw_st sg i n) (sg 11 i) n = 30) = true := tw_b_1 c_23
            have hA : tw_debA (decide (tw_last (tw_st sg i n) (sg 11 i) n = 30)) (upd (sg 9 i) 7 (tw_st sg i n), sg 4 0, sg 5 0) = (upd (upd (sg 9 i) 7 (tw_st sg i n)) 8 0, tw_back (sg 4 0) (sg 9 i 1), sg 5 0) := if_pos ⟨hdl, c_30⟩
            have hB : tw_debB (decide (tw_last (tw_st sg i n) (sg 11 i) n = 30)) (tw_cour (tw_st sg i n) (sg 11 i) n) (upd (upd (sg 9 i) 7 (tw_st sg i n)) 8 0, tw_back (sg 4 0) (sg 9 i 1), sg 5 0) = (upd (upd (upd (upd (sg 9 i) 7 (tw_st sg i n)) 8 0) 9 1) 10 (tw_cour (tw_st sg i n) (sg 11 i) n), tw_note (tw_back (sg 4 0) (sg 9 i 1)), tw_fee (sg 5 0) (tw_cour (tw_st sg i n) (sg 11 i) n) (10 * sg 9 i 0)) := if_pos ⟨hdl, c_57⟩
            have hC : tw_debC (decide (tw_last (tw_st sg i n) (sg 11 i) n = 30)) (upd (upd (upd (upd (sg 9 i) 7 (tw_st sg i n)) 8 0) 9 1) 10 (tw_cour (tw_st sg i n) (sg 11 i) n), tw_note (tw_back (sg 4 0) (sg 9 i 1)), tw_fee (sg 5 0) (tw_cour (tw_st sg i n) (sg 11 i) n) (10 * sg 9 i 0)) = (upd (upd (upd (upd (sg 9 i) 7 (tw_st sg i n)) 8 0) 9 1) 10 (tw_cour (tw_st sg i n) (sg 11 i) n), tw_note (tw_back (sg 4 0) (sg 9 i 1)), tw_fee (sg 5 0) (tw_cour (tw_st sg i n) (sg 11 i) n) (10 * sg 9 i 0)) := if_neg (fun h => by rw [hdl] at h; exact absurd h.1 (by decide))
            have hpost : tw_SR sg (kx_up (kx_up (kx_up (kx_up (kx_up (kx_up (kx_up sg 6 0 f6) 7 0 f7) 9 i (upd (upd (sg 9 i) 7 (tw_st sg i n)) 8 0)) 4 0 (tw_back (sg 4 0) (sg 9 i 1))) 9 i (upd (upd (upd (upd (sg 9 i) 7 (tw_st sg i n)) 8 0) 9 1) 10 (tw_cour (tw_st sg i n) (sg 11 i) n))) 5 0 (tw_fee (sg 5 0) (tw_cour (tw_st sg i n) (sg 11 i) n) (10 * (sg 9 i 0)))) 4 0 (tw_note (tw_back (sg 4 0) (sg 9 i 1)))) i (tw_stl sg i n) := by
              rw [tw_stl, tw_deb, hA, hB, hC]
              refine ⟨fun q m h4 h5 h6 h7 h9 => ?_, ?_, ?_, ?_⟩
              · simp [kx_up, h4, h5, h6, h7, h9]
              · simp [kx_up]
              · simp [kx_up]
              · simp [kx_up]
            exact kx_rv F hr hlocks hW hS (by first | exact Nat.le_of_ble_eq_true rfl | omega) (by first | exact Nat.le_of_ble_eq_true rfl | omega) (⟨rfl, hpost⟩) dX3_settle_125
          · exact absurd c_92 c_23
