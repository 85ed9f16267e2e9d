abbrev tm_R : Type := (Nat → Int32) × (Nat → Int32) × (Nat → Int32) × (Nat → Int32)
def tm_debA (dl : Bool) (i : Nat) (v : Int32) (x : tm_R) : tm_R := if dl = true ∧ ¬ x.2.1 i = 0 then (upd (upd x.1 18 (x.1 18 - v)) 19 (x.1 19 + 1), upd x.2.1 i 0, x.2.2.1, x.2.2.2) else x
def tm_debB (dl : Bool) (i : Nat) (co : Int32) (x : tm_R) : tm_R := if ¬ tw_b dl = x.2.2.1 i then (upd x.1 19 (x.1 19 + 1), x.2.1, upd x.2.2.1 i (tw_b dl), upd x.2.2.2 i co) else x
def tm_pl (sg : kx_S) (i : Nat) : Nat → Int32 := fun k => sg 21 0 (12 * i + k)
def tm_dl (sg : kx_S) (i n : Nat) : Bool := decide (tw_last (tm_st sg i n) (tm_pl sg i) n = 30)
def tm_co (sg : kx_S) (i n : Nat) : Int32 := tw_cour (tm_st sg i n) (tm_pl sg i) n
/-- what settling does to the reference's row of numbers, its insured, fee, feeOf -/
def tm_stl (sg : kx_S) (i n : Nat) : tm_R := tm_debB (tm_dl sg i n) i (tm_co sg i n) (tm_debA (tm_dl sg i n) i (sg 16 0 i) (sg 14 0, sg 18 0, sg 19 0, sg 20 0))
def tm_SR (sg sg' : kx_S) (x : tm_R) : Prop := (∀ q m, q ≠ 14 → q ≠ 18 → q ≠ 19 → q ≠ 20 → q ≠ 30 → q ≠ 31 → sg' q m = sg q m) ∧ sg' 14 0 = x.1 ∧ sg' 18 0 = x.2.1 ∧ sg' 19 0 = x.2.2.1 ∧ sg' 20 0 = x.2.2.2
def tm_St (sg : kx_S) (i : Nat) (sg' : kx_S) : Prop := ∃ n : Nat, sg 17 0 i = nI n ∧ n ≤ 12 ∧ tm_SR sg sg' (tm_stl sg i n)
def tm_SA : Nat → kx_S → kx_S → Prop
  | 0, s, s' => s' = s
  | k + 1, s, s' => ∃ s1, tm_SA k s s1 ∧ tm_St s1 k s'
/-- the reference is well kept -/
def tm_WF (mb : Nat) (sg : kx_S) : Prop := sg 14 0 7 = nI mb ∧ mb ≤ 16 ∧ (∀ i, i < mb → ∃ n : Nat, sg 17 0 i = nI n ∧ n ≤ 12 ∧ ∀ k, k < n → tw_who (sg 23 0 (12 * i + k))) ∧ ∀ w, w < 14 → 1 ≤ (sg 24 0 w).toInt ∧ (sg 24 0 w).toInt ≤ 9
theorem tm_stl_f (sg : kx_S) (i n : Nat) {j : Nat} (h18 : j ≠ 18) (h19 : j ≠ 19) : (tm_stl sg i n).1 j = sg 14 0 j := by
  have hA : ∀ (dl : Bool) (v : Int32) (x : tm_R), (tm_debA dl i v x).1 j = x.1 j := by
    intro dl v x; unfold tm_debA; split
    · show upd (upd x.1 18 _) 19 _ j = x.1 j
      rw [upd_n h19, upd_n h18]
    · rfl
  have hB : ∀ (dl : Bool) (co : Int32) (x : tm_R), (tm_debB dl i co x).1 j = x.1 j := by
    intro dl co x; unfold tm_debB; split
    · show upd x.1 19 _ j = x.1 j
      rw [upd_n h19]
    · rfl
  unfold tm_stl
  rw [hB, hA]
theorem tm_SA_fr : ∀ {k : Nat} {s s' : kx_S}, tm_SA k s s' → ∀ q m, q ≠ 14 → q ≠ 18 → q ≠ 19 → q ≠ 20 → q ≠ 30 → q ≠ 31 → s' q m = s q m := by
  intro k
  induction k with
  | zero => intro s s' h q m _ _ _ _ _ _; rw [show s' = s from h]
  | succ k ih =>
    intro s s' h q m a b c d e f
    obtain ⟨s1, h1, n, -, -, h2, -⟩ := h
    rw [h2 q m a b c d e f]
    exact ih h1 q m a b c d e f
theorem tm_SA_14 : ∀ {k : Nat} {s s' : kx_S}, tm_SA k s s' → ∀ j, j ≠ 18 → j ≠ 19 → s' 14 0 j = s 14 0 j := by
  intro k
  induction k with
  | zero => intro s s' h j _ _; rw [show s' = s from h]
  | succ k ih =>
    intro s s' h j a b
    obtain ⟨s1, h1, n, -, -, -, h2, -⟩ := h
    rw [h2, tm_stl_f s1 k n a b]
    exact ih h1 j a b
theorem tm_WF_eq {mb : Nat} {s s' : kx_S} (h : tm_WF mb s) (h7 : s' 14 0 7 = s 14 0 7) (h17 : s' 17 0 = s 17 0) (h23 : s' 23 0 = s 23 0) (h24 : s' 24 0 = s 24 0) : tm_WF mb s' := by
  unfold tm_WF
  rw [h7, h17, h23, h24]
  exact h
theorem tm_WF_St {mb : Nat} {s s' : kx_S} {i : Nat} (h : tm_WF mb s) (hs : tm_St s i s') : tm_WF mb s' := by
  obtain ⟨n, -, -, h2, h3, -⟩ := hs
  exact tm_WF_eq h (by rw [h3, tm_stl_f s i n (by decide) (by decide)]) (h2 17 0 (by decide) (by decide) (by decide) (by decide) (by decide) (by decide)) (h2 23 0 (by decide) (by decide) (by decide) (by decide) (by decide) (by decide)) (h2 24 0 (by decide) (by decide) (by decide) (by decide) (by decide) (by decide))
theorem tm_WF_SA {mb : Nat} {k : Nat} {s s' : kx_S} (h : tm_WF mb s) (hs : tm_SA k s s') : tm_WF mb s' :=
  tm_WF_eq h (tm_SA_14 hs 7 (by decide) (by decide)) (tm_SA_fr hs 17 0 (by decide) (by decide) (by decide) (by decide) (by decide) (by decide)) (tm_SA_fr hs 23 0 (by decide) (by decide) (by decide) (by decide) (by decide) (by decide)) (tm_SA_fr hs 24 0 (by decide) (by decide) (by decide) (by decide) (by decide) (by decide))

set_option maxHeartbeats 8000000 in
set_option maxRecDepth 100000 in
theorem c_X4_settles (l : Launch) (G : kx_G) (z0 : Nat) (ad : kx_A) (nb : Nat) (sg : kx_S) (mb : Nat) (hwf : tm_WF mb sg) : kx_M l yX4_settles wsX4_settles 3 72 0 0 G z0 ad nb sg [.ref (ad 14 0)] (fun r sg' => r = none ∧ tm_SA mb sg sg') := by
  refine Met.ofW (cc := cX4_settles) (maxL := 4) (ret := none) (by decide) rfl ?_
  intro p e s m args below meth c s₁ B hml hv
  obtain ⟨rfl, hW, hV⟩ := hv
  have hts := atoms_spec (ws := wsX4_settles) B.pre
  have F : kx_F p s m c cX4_settles 4 RX4 _ wsX4_settles G z0 := ⟨B.exec, B.bytes, hml, findClass_of_methodNamed B.named, hts, hV⟩
  have hx := B.exec; have hb := B.bytes; have hr := B.returns; have hlocks := B.notSynchronized
  have hS : va_S (kx_Ad z0) s.heap s.heap [] := va_S.rf
  have L_13 : Cond.fieldLink RX4 13 (TX4 2).1 (TX4 2).2.1 (TX4 2).2.2.1 ∈ wsX4_settles := by decide +kernel
  have L_19 : Cond.fieldLink RX4 19 (TX4 4).1 (TX4 4).2.1 (TX4 4).2.2.1 ∈ wsX4_settles := by decide +kernel
  have L_23 : Cond.fieldLink RX4 23 (TX4 5).1 (TX4 5).2.1 (TX4 5).2.2.1 ∈ wsX4_settles := by decide +kernel
  have L_26 : Cond.fieldLink RX4 26 (TX4 6).1 (TX4 6).2.1 (TX4 6).2.2.1 ∈ wsX4_settles := by decide +kernel
  have L_66 : Cond.fieldLink RX4 66 (TX4 7).1 (TX4 7).2.1 (TX4 7).2.2.1 ∈ wsX4_settles := by decide +kernel
  have L_91 : Cond.fieldLink RX4 91 (TX4 18).1 (TX4 18).2.1 (TX4 18).2.2.1 ∈ wsX4_settles := by decide +kernel
  have L_94 : Cond.fieldLink RX4 94 (TX4 19).1 (TX4 19).2.1 (TX4 19).2.2.1 ∈ wsX4_settles := by decide +kernel
  have inX4 : ∀ w ∈ u_ws RX4 TX4 23, w ∈ wsX4_settles := by decide +kernel
  have hl := lv_entry ([.ref (ad 14 0)]) (n := 4) (Nat.le_of_ble_eq_true rfl)
  rw [lg_entry_eq]
  generalize (lg_sl ([.ref (ad 14 0)]) ++ List.replicate (4 - (lg_sl ([.ref (ad 14 0)])).length) Slot.unset).toArray = ls at hl ⊢
  have hl : lv_has ls 4 [(0, .ref (ad 14 0))] := hl
  have loop : ∀ (j k : Nat) (s1 : kx_S), mb = k + j → tm_SA k sg s1 → tm_WF mb s1 → ∀ (H : Heap) (locs : List Loc) (ls : Array Slot), kx_Wd G z0 ad nb s1 H → va_S (kx_Ad z0) s.heap H locs → lv_has ls 4 [(1, .int (nI k)), (0, .ref (ad 14 0))] → W p l e (headSpec wsX4_settles { frames := 3, cells := 0, slots := 0, locals := 72 }).room s m ([.ref (ad 14 0)] : List Value).toArray below meth c H locs 0 0 (MQ below (kx_Q G z0 ad nb (fun r sg' => r = none ∧ tm_SA mb sg sg')) ([.ref (ad 14 0)] : List Value).toArray s 0 0 (kx_Ad z0)) (F0 m 2 ls []) := by
    intro j
    induction j with
    | zero =>
      intro k s1 hk hL hw1 H locs ls hW hS hl
      have hmb16 := hw1.2.1
      refine lv_iload_n hx hb dX4_settles_2 rfl (lv_at hl 0 rfl) ?_
      refine lv_aload_n hx hb dX4_settles_3 rfl (lv_at hl 1 rfl) ?_
      refine kx_g F inX4 hW 14 0 ⟨by decide, rfl⟩ rfl rfl 7 (by decide) L_66 (v := .int (nI mb)) (congrArg (fun z => some (Value.int z)) hw1.1) dX4_settles_4 ?_
      refine lv_icmp_ge (tgt := 123) hx hb dX4_settles_7 (by decide) (fun c_7 => ?_) (fun c_7 => ?_)
      · exact kx_rv F hr hlocks hW hS (by first | exact Nat.le_of_ble_eq_true rfl | omega) (by first | exact Nat.le_of_ble_eq_true rfl | omega) (⟨rfl, by rw [show k = mb by omega] at hL; exact hL⟩) dX4_settles_123
      · exact absurd (nI_le (by omega) (by omega)) c_7
    | succ j ih =>
      intro k s1 hk hL hw1 H locs ls hW hS hl
      have hmb16 := hw1.2.1
      refine lv_iload_n hx hb dX4_settles_2 rfl (lv_at hl 0 rfl) ?_
      refine lv_aload_n hx hb dX4_settles_3 rfl (lv_at hl 1 rfl) ?_
      refine kx_g F inX4 hW 14 0 ⟨by decide, rfl⟩ rfl rfl 7 (by decide) L_66 (v := .int (nI mb)) (congrArg (fun z => some (Value.int z)) hw1.1) dX4_settles_4 ?_
      refine lv_icmp_ge (tgt := 123) hx hb dX4_settles_7 (by decide) (fun c_7 => ?_) (fun c_7 => ?_)
      · exact absurd c_7 (nI_ge (by omega) (by omega))
      · obtain ⟨n9, hn9, h129, hwho9⟩ := hw1.2.2.1 k (by omega)
        refine lv_aload_n hx hb dX4_settles_10 rfl (lv_at hl 1 rfl) ?_
        refine lv_iload_n hx hb dX4_settles_11 rfl (lv_at hl 0 rfl) ?_
        refine kx_cV (na := 1) F (q := 14) (n := 0) (c_X4_storyOf l G z0 ad nb s1 k (by omega) n9 hn9 h129 hwho9 hw1.2.2.2) gX4_settles_X4_storyOf rfl (by decide +kernel) ⟨Nat.le_of_ble_eq_true rfl, Nat.le_of_ble_eq_true rfl⟩ hW hS ⟨by decide, rfl⟩ rfl rfl (As := [.int (nI k)]) (rest := []) rfl hl.1 rfl (Nat.le_of_ble_eq_true rfl) dX4_settles_12 ⟨by first | exact Nat.le_of_ble_eq_true rfl | omega, by first | exact Nat.le_of_ble_eq_true rfl | omega⟩ (fun r9 sg9 H locs hq hW hS => ?_)
        obtain ⟨rfl, f9, g9, e9⟩ := hq
        rw [e9] at hW
        have hW : kx_Wd G z0 ad nb (kx_up (kx_up s1 30 0 f9) 31 0 g9) H := by first | exact hW | (simp only [kx_up_s, kx_up_up] at hW; exact hW) | (simp only [kx_up_s, kx_up_up, upd_s] at hW; exact hW)
        refine W.eq (g2 := F0 m 15 ls [.int (tm_st s1 k n9)]) rfl ?_
        refine lv_istore_n (lv' := [(2, .int (tm_st s1 k n9)), (1, .int (nI k)), (0, .ref (ad 14 0))]) hx hb dX4_settles_15 rfl hl (by decide) rfl (fun ls hl => ?_)
        refine lv_aload_n hx hb dX4_settles_16 rfl (lv_at hl 2 rfl) ?_
        refine lv_iload_n hx hb dX4_settles_17 rfl (lv_at hl 1 rfl) ?_
        refine lv_iload_n hx hb dX4_settles_18 rfl (lv_at hl 0 rfl) ?_
        refine kx_cV (na := 2) F (q := 14) (n := 0) (c_X4_placeBy l G z0 ad nb (kx_up (kx_up s1 30 0 f9) 31 0 g9) k (by omega) n9 hn9 h129 (tm_st s1 k n9)) gX4_settles_X4_placeBy rfl (by decide +kernel) ⟨Nat.le_of_ble_eq_true rfl, Nat.le_of_ble_eq_true rfl⟩ hW hS ⟨by decide, rfl⟩ rfl rfl (As := [.int (nI k), .int (tm_st s1 k n9)]) (rest := []) rfl hl.1 rfl (Nat.le_of_ble_eq_true rfl) dX4_settles_19 ⟨by first | exact Nat.le_of_ble_eq_true rfl | omega, by first | exact Nat.le_of_ble_eq_true rfl | omega⟩ (fun r9 sg9 H locs hq hW hS => ?_)
        have hq : r9 = some (.int (tw_last (tm_st s1 k n9) (tm_pl s1 k) n9)) ∧ sg9 = kx_up (kx_up s1 30 0 f9) 31 0 g9 := hq
        obtain ⟨rfl, e9⟩ := hq
        rw [e9] at hW
        refine W.eq (g2 := F0 m 22 ls [.int (tw_last (tm_st s1 k n9) (tm_pl s1 k) n9)]) rfl ?_
        refine lv_bipush (v := 30) hx hb dX4_settles_22 (by decide) ?_
        refine lv_icmp_ne (tgt := 31) hx hb dX4_settles_24 (by decide) (fun c_24 => ?_) (fun c_24 => ?_)
        · refine lv_iconst (v := 0) hx hb dX4_settles_31 (by decide) ?_
          refine lv_istore_n (lv' := [(3, .int 0), (2, .int (tm_st s1 k n9)), (1, .int (nI k)), (0, .ref (ad 14 0))]) hx hb dX4_settles_32 rfl hl (by decide) rfl (fun ls hl => ?_)
          refine lv_iload_n hx hb dX4_settles_33 rfl (lv_at hl 0 rfl) ?_
          refine lv_if_eq (tgt := 78) hx hb dX4_settles_34 (by decide) (fun c_34 => ?_) (fun c_34 => ?_)
          · refine lv_iload_n hx hb dX4_settles_78 rfl (lv_at hl 0 rfl) ?_
            refine lv_aload_n hx hb dX4_settles_79 rfl (lv_at hl 3 rfl) ?_
            refine kx_g F inX4 hW 14 0 ⟨by decide, rfl⟩ rfl rfl 5 (by decide) L_23 (v := .ref (ad 19 0)) rfl dX4_settles_80 ?_
            refine lv_iload_n hx hb dX4_settles_83 rfl (lv_at hl 2 rfl) ?_
            refine kx_zald F hW 19 0 ⟨by decide, rfl⟩ rfl k (by omega) (by decide) (v := s1 19 0 k) (by first | rfl | (simp only [kx_up_s]; done) | (simp only [kx_up_s, upd_s]; done) | (simp only [kx_up_s]; rfl) | (simp [kx_up, upd]; done)) dX4_settles_84 ?_
            refine lv_icmp_eq (tgt := 117) hx hb dX4_settles_85 (by decide) (fun c_85 => ?_) (fun c_85 => ?_)
            · refine lv_iinc (v := nI (k + 1)) (lv' := [(1, .int (nI (k + 1))), (3, .int 0), (2, .int (tm_st s1 k n9)), (0, .ref (ad 14 0))]) hx hb dX4_settles_117 hl (k := 2) rfl (nI_1 k) (by decide) rfl (fun ls hl => ?_)
              refine lv_goto (tgt := 2) hx hb dX4_settles_120 (by decide) ?_
              have hdl : tm_dl s1 k n9 = false := decide_eq_false c_24
              have hA : tm_debA (tm_dl s1 k n9) k (s1 16 0 k) (s1 14 0, s1 18 0, s1 19 0, s1 20 0) = (s1 14 0, s1 18 0, s1 19 0, s1 20 0) := if_neg (fun h => by rw [hdl] at h; exact absurd h.1 (by decide))
              have hB : tm_debB (tm_dl s1 k n9) k (tm_co s1 k n9) (s1 14 0, s1 18 0, s1 19 0, s1 20 0) = (s1 14 0, s1 18 0, s1 19 0, s1 20 0) := by
                rw [hdl]
                exact if_neg (fun h => h c_85)
              have hst9 : tm_St s1 k (kx_up (kx_up s1 30 0 f9) 31 0 g9) := by
                refine ⟨n9, hn9, h129, ?_⟩
                rw [tm_stl, hA, hB]
                refine ⟨fun q m h4 h5 h6 h7 h8 h9 => ?_, ?_, ?_, ?_, ?_⟩
                · simp [kx_up, h4, h5, h6, h7, h8, h9]
                · simp [kx_up, upd]
                · simp [kx_up, upd]
                · simp [kx_up, upd]
                · simp [kx_up, upd]
              exact ih (k + 1) _ (by omega) ⟨s1, hL, hst9⟩ (tm_WF_St hw1 hst9) H locs ls hW hS (lv_sub hl [0, 3] rfl)
            · refine lv_aload_n hx hb dX4_settles_88 rfl (lv_at hl 3 rfl) ?_
              refine kx_g F inX4 hW 14 0 ⟨by decide, rfl⟩ rfl rfl 5 (by decide) L_23 (v := .ref (ad 19 0)) rfl dX4_settles_89 ?_
              refine lv_iload_n hx hb dX4_settles_92 rfl (lv_at hl 2 rfl) ?_
              refine lv_iload_n hx hb dX4_settles_93 rfl (lv_at hl 0 rfl) ?_
              refine kx_zast F hW hS 19 0 ⟨by decide, rfl⟩ rfl k (by omega) (by decide) (x := 0) rfl rfl dX4_settles_94 (fun H locs hW hS => ?_)
              have er9 : (kx_up (kx_up s1 30 0 f9) 31 0 g9) 19 0 = s1 19 0 := by first | rfl | (simp only [kx_up_s]; done) | (simp [kx_up]; done)
              rw [er9] at hW
              have hW : kx_Wd G z0 ad nb (kx_up (kx_up (kx_up s1 30 0 f9) 31 0 g9) 19 0 (upd (s1 19 0) k 0)) H := hW
              refine lv_aload_n hx hb dX4_settles_95 rfl (lv_at hl 3 rfl) ?_
              refine kx_g F inX4 hW 14 0 ⟨by decide, rfl⟩ rfl rfl 6 (by decide) L_26 (v := .ref (ad 20 0)) rfl dX4_settles_96 ?_
              refine lv_iload_n hx hb dX4_settles_99 rfl (lv_at hl 2 rfl) ?_
              refine lv_aload_n hx hb dX4_settles_100 rfl (lv_at hl 3 rfl) ?_
              refine lv_iload_n hx hb dX4_settles_101 rfl (lv_at hl 2 rfl) ?_
              refine lv_iload_n hx hb dX4_settles_102 rfl (lv_at hl 1 rfl) ?_
              refine kx_cV (na := 2) F (q := 14) (n := 0) (c_X4_courierBy l G z0 ad nb (kx_up (kx_up (kx_up s1 30 0 f9) 31 0 g9) 19 0 (upd (s1 19 0) k 0)) k (by omega) n9 (by simp [kx_up, hn9]) h129 (tm_st s1 k n9)) gX4_settles_X4_courierBy rfl (by decide +kernel) ⟨Nat.le_of_ble_eq_true rfl, Nat.le_of_ble_eq_true rfl⟩ hW hS ⟨by decide, rfl⟩ rfl rfl (As := [.int (nI k), .int (tm_st s1 k n9)]) (rest := [.int (nI k), .ref (ad 20 0)]) rfl hl.1 rfl (Nat.le_of_ble_eq_true rfl) dX4_settles_103 ⟨by first | exact Nat.le_of_ble_eq_true rfl | omega, by first | exact Nat.le_of_ble_eq_true rfl | omega⟩ (fun r9 sg9 H locs hq hW hS => ?_)
              have hq : r9 = some (.int (tm_co s1 k n9)) ∧ sg9 = kx_up (kx_up (kx_up s1 30 0 f9) 31 0 g9) 19 0 (upd (s1 19 0) k 0) := ⟨hq.1.trans (by simp [kx_up, tm_co, tm_pl]; try rfl), hq.2⟩
              obtain ⟨rfl, e9⟩ := hq
              rw [e9] at hW
              refine W.eq (g2 := F0 m 106 ls [.int (tm_co s1 k n9), .int (nI k), .ref (ad 20 0)]) rfl ?_
              refine kx_ast F hW hS 20 0 ⟨by decide, rfl⟩ rfl k (by omega) (by decide) (x := (tm_co s1 k n9)) rfl dX4_settles_106 (fun H locs hW hS => ?_)
              have er9 : (kx_up (kx_up (kx_up s1 30 0 f9) 31 0 g9) 19 0 (upd (s1 19 0) k 0)) 20 0 = s1 20 0 := by first | rfl | (simp only [kx_up_s]; done) | (simp [kx_up]; done)
              rw [er9] at hW
              have hW : kx_Wd G z0 ad nb (kx_up (kx_up (kx_up (kx_up s1 30 0 f9) 31 0 g9) 19 0 (upd (s1 19 0) k 0)) 20 0 (upd (s1 20 0) k (tm_co s1 k n9))) H := hW
              refine lv_aload_n hx hb dX4_settles_107 rfl (lv_at hl 3 rfl) ?_
              refine lv_dup hx hb dX4_settles_108 rfl ?_
              refine kx_g F inX4 hW 14 0 ⟨by decide, rfl⟩ rfl rfl 19 (by decide) L_94 (v := .int (s1 14 0 19)) (by first | rfl | (simp only [kx_up_s]; done) | (simp only [kx_up_s, upd_s]; done) | (simp only [kx_up_s]; rfl) | (simp [kx_up, upd]; done)) dX4_settles_109 ?_
              refine lv_iconst (v := 1) hx hb dX4_settles_112 (by decide) ?_
              refine lv_iadd hx hb dX4_settles_113 ?_
              refine kx_p F inX4 tyX4 tyX4_ok nmX4 hW hS 14 0 ⟨by decide, rfl⟩ rfl rfl 19 (by decide) L_94 rfl (v := .int ((s1 14 0 19) + 1)) rfl rfl (Nat.le_of_ble_eq_true rfl) (upd ((kx_up (kx_up (kx_up (kx_up s1 30 0 f9) 31 0 g9) 19 0 (upd (s1 19 0) k 0)) 20 0 (upd (s1 20 0) k (tm_co s1 k n9))) 14 0) 19 ((s1 14 0 19) + 1)) rfl dX4_settles_114 (fun H locs hW hS => ?_)
              have er9 : (kx_up (kx_up (kx_up (kx_up s1 30 0 f9) 31 0 g9) 19 0 (upd (s1 19 0) k 0)) 20 0 (upd (s1 20 0) k (tm_co s1 k n9))) 14 0 = s1 14 0 := by first | rfl | (simp only [kx_up_s]; done) | (simp [kx_up]; done)
              rw [er9] at hW
              have hW : kx_Wd G z0 ad nb (kx_up (kx_up (kx_up (kx_up (kx_up s1 30 0 f9) 31 0 g9) 19 0 (upd (s1 19 0) k 0)) 20 0 (upd (s1 20 0) k (tm_co s1 k n9))) 14 0 (upd (s1 14 0) 19 ((s1 14 0 19) + 1))) H := hW
              refine lv_iinc (v := nI (k + 1)) (lv' := [(1, .int (nI (k + 1))), (3, .int 0), (2, .int (tm_st s1 k n9)), (0, .ref (ad 14 0))]) hx hb dX4_settles_117 hl (k := 2) rfl (nI_1 k) (by decide) rfl (fun ls hl => ?_)
              refine lv_goto (tgt := 2) hx hb dX4_settles_120 (by decide) ?_
              have hdl : tm_dl s1 k n9 = false := decide_eq_false c_24
              have hA : tm_debA (tm_dl s1 k n9) k (s1 16 0 k) (s1 14 0, s1 18 0, s1 19 0, s1 20 0) = (s1 14 0, s1 18 0, s1 19 0, s1 20 0) := if_neg (fun h => by rw [hdl] at h; exact absurd h.1 (by decide))
              have hB : tm_debB (tm_dl s1 k n9) k (tm_co s1 k n9) (s1 14 0, s1 18 0, s1 19 0, s1 20 0) = (upd (s1 14 0) 19 (s1 14 0 19 + 1), s1 18 0, upd (s1 19 0) k 0, upd (s1 20 0) k (tm_co s1 k n9)) := by
                rw [hdl]
                refine (if_pos c_85).trans ?_
                simp [tw_b, upd]
              have hst9 : tm_St s1 k (kx_up (kx_up (kx_up (kx_up (kx_up s1 30 0 f9) 31 0 g9) 19 0 (upd (s1 19 0) k 0)) 20 0 (upd (s1 20 0) k (tm_co s1 k n9))) 14 0 (upd (s1 14 0) 19 ((s1 14 0 19) + 1))) := by
                refine ⟨n9, hn9, h129, ?_⟩
                rw [tm_stl, hA, hB]
                refine ⟨fun q m h4 h5 h6 h7 h8 h9 => ?_, ?_, ?_, ?_, ?_⟩
                · simp [kx_up, h4, h5, h6, h7, h8, h9]
                · simp [kx_up, upd]
                · simp [kx_up, upd]
                · simp [kx_up, upd]
                · simp [kx_up, upd]
              exact ih (k + 1) _ (by omega) ⟨s1, hL, hst9⟩ (tm_WF_St hw1 hst9) H locs ls hW hS (lv_sub hl [0, 3] rfl)
          · exact absurd rfl c_34
        · refine lv_iconst (v := 1) hx hb dX4_settles_27 (by decide) ?_
          refine lv_goto (tgt := 32) hx hb dX4_settles_28 (by decide) ?_
          refine lv_istore_n (lv' := [(3, .int 1), (2, .int (tm_st s1 k n9)), (1, .int (nI k)), (0, .ref (ad 14 0))]) hx hb dX4_settles_32 rfl hl (by decide) rfl (fun ls hl => ?_)
          refine lv_iload_n hx hb dX4_settles_33 rfl (lv_at hl 0 rfl) ?_
          refine lv_if_eq (tgt := 78) hx hb dX4_settles_34 (by decide) (fun c_34 => ?_) (fun c_34 => ?_)
          · exact absurd c_34 (by decide)
          · refine lv_aload_n hx hb dX4_settles_37 rfl (lv_at hl 3 rfl) ?_
            refine kx_g F inX4 hW 14 0 ⟨by decide, rfl⟩ rfl rfl 4 (by decide) L_19 (v := .ref (ad 18 0)) rfl dX4_settles_38 ?_
            refine lv_iload_n hx hb dX4_settles_41 rfl (lv_at hl 2 rfl) ?_
            refine kx_zald F hW 18 0 ⟨by decide, rfl⟩ rfl k (by omega) (by decide) (v := s1 18 0 k) (by first | rfl | (simp only [kx_up_s]; done) | (simp only [kx_up_s, upd_s]; done) | (simp only [kx_up_s]; rfl) | (simp [kx_up, upd]; done)) dX4_settles_42 ?_
            refine lv_if_eq (tgt := 78) hx hb dX4_settles_43 (by decide) (fun c_43 => ?_) (fun c_43 => ?_)
            · refine lv_iload_n hx hb dX4_settles_78 rfl (lv_at hl 0 rfl) ?_
              refine lv_aload_n hx hb dX4_settles_79 rfl (lv_at hl 3 rfl) ?_
              refine kx_g F inX4 hW 14 0 ⟨by decide, rfl⟩ rfl rfl 5 (by decide) L_23 (v := .ref (ad 19 0)) rfl dX4_settles_80 ?_
              refine lv_iload_n hx hb dX4_settles_83 rfl (lv_at hl 2 rfl) ?_
              refine kx_zald F hW 19 0 ⟨by decide, rfl⟩ rfl k (by omega) (by decide) (v := s1 19 0 k) (by first | rfl | (simp only [kx_up_s]; done) | (simp only [kx_up_s, upd_s]; done) | (simp only [kx_up_s]; rfl) | (simp [kx_up, upd]; done)) dX4_settles_84 ?_
              refine lv_icmp_eq (tgt := 117) hx hb dX4_settles_85 (by decide) (fun c_85 => ?_) (fun c_85 => ?_)
              · refine lv_iinc (v := nI (k + 1)) (lv' := [(1, .int (nI (k + 1))), (3, .int 1), (2, .int (tm_st s1 k n9)), (0, .ref (ad 14 0))]) hx hb dX4_settles_117 hl (k := 2) rfl (nI_1 k) (by decide) rfl (fun ls hl => ?_)
                refine lv_goto (tgt := 2) hx hb dX4_settles_120 (by decide) ?_
                have hdl : tm_dl s1 k n9 = true := decide_eq_true c_24
                have hA : tm_debA (tm_dl s1 k n9) k (s1 16 0 k) (s1 14 0, s1 18 0, s1 19 0, s1 20 0) = (s1 14 0, s1 18 0, s1 19 0, s1 20 0) := if_neg (fun h => h.2 c_43)
                have hB : tm_debB (tm_dl s1 k n9) k (tm_co s1 k n9) (s1 14 0, s1 18 0, s1 19 0, s1 20 0) = (s1 14 0, s1 18 0, s1 19 0, s1 20 0) := by
                  rw [hdl]
                  exact if_neg (fun h => h c_85)
                have hst9 : tm_St s1 k (kx_up (kx_up s1 30 0 f9) 31 0 g9) := by
                  refine ⟨n9, hn9, h129, ?_⟩
                  rw [tm_stl, hA, hB]
                  refine ⟨fun q m h4 h5 h6 h7 h8 h9 => ?_, ?_, ?_, ?_, ?_⟩
                  · simp [kx_up, h4, h5, h6, h7, h8, h9]
                  · simp [kx_up, upd]
                  · simp [kx_up, upd]
                  · simp [kx_up, upd]
                  · simp [kx_up, upd]
                exact ih (k + 1) _ (by omega) ⟨s1, hL, hst9⟩ (tm_WF_St hw1 hst9) H locs ls hW hS (lv_sub hl [0, 3] rfl)
              · refine lv_aload_n hx hb dX4_settles_88 rfl (lv_at hl 3 rfl) ?_
                refine kx_g F inX4 hW 14 0 ⟨by decide, rfl⟩ rfl rfl 5 (by decide) L_23 (v := .ref (ad 19 0)) rfl dX4_settles_89 ?_
                refine lv_iload_n hx hb dX4_settles_92 rfl (lv_at hl 2 rfl) ?_
                refine lv_iload_n hx hb dX4_settles_93 rfl (lv_at hl 0 rfl) ?_
                refine kx_zast F hW hS 19 0 ⟨by decide, rfl⟩ rfl k (by omega) (by decide) (x := 1) rfl rfl dX4_settles_94 (fun H locs hW hS => ?_)
                have er9 : (kx_up (kx_up s1 30 0 f9) 31 0 g9) 19 0 = s1 19 0 := by first | rfl | (simp only [kx_up_s]; done) | (simp [kx_up]; done)
                rw [er9] at hW
                have hW : kx_Wd G z0 ad nb (kx_up (kx_up (kx_up s1 30 0 f9) 31 0 g9) 19 0 (upd (s1 19 0) k 1)) H := hW
                refine lv_aload_n hx hb dX4_settles_95 rfl (lv_at hl 3 rfl) ?_
                refine kx_g F inX4 hW 14 0 ⟨by decide, rfl⟩ rfl rfl 6 (by decide) L_26 (v := .ref (ad 20 0)) rfl dX4_settles_96 ?_
                refine lv_iload_n hx hb dX4_settles_99 rfl (lv_at hl 2 rfl) ?_
                refine lv_aload_n hx hb dX4_settles_100 rfl (lv_at hl 3 rfl) ?_
                refine lv_iload_n hx hb dX4_settles_101 rfl (lv_at hl 2 rfl) ?_
                refine lv_iload_n hx hb dX4_settles_102 rfl (lv_at hl 1 rfl) ?_
                refine kx_cV (na := 2) F (q := 14) (n := 0) (c_X4_courierBy l G z0 ad nb (kx_up (kx_up (kx_up s1 30 0 f9) 31 0 g9) 19 0 (upd (s1 19 0) k 1)) k (by omega) n9 (by simp [kx_up, hn9]) h129 (tm_st s1 k n9)) gX4_settles_X4_courierBy rfl (by decide +kernel) ⟨Nat.le_of_ble_eq_true rfl, Nat.le_of_ble_eq_true rfl⟩ hW hS ⟨by decide, rfl⟩ rfl rfl (As := [.int (nI k), .int (tm_st s1 k n9)]) (rest := [.int (nI k), .ref (ad 20 0)]) rfl hl.1 rfl (Nat.le_of_ble_eq_true rfl) dX4_settles_103 ⟨by first | exact Nat.le_of_ble_eq_true rfl | omega, by first | exact Nat.le_of_ble_eq_true rfl | omega⟩ (fun r9 sg9 H locs hq hW hS => ?_)
                have hq : r9 = some (.int (tm_co s1 k n9)) ∧ sg9 = kx_up (kx_up (kx_up s1 30 0 f9) 31 0 g9) 19 0 (upd (s1 19 0) k 1) := ⟨hq.1.trans (by simp [kx_up, tm_co, tm_pl]; try rfl), hq.2⟩
                obtain ⟨rfl, e9⟩ := hq
                rw [e9] at hW
                refine W.eq (g2 := F0 m 106 ls [.int (tm_co s1 k n9), .int (nI k), .ref (ad 20 0)]) rfl ?_
                refine kx_ast F hW hS 20 0 ⟨by decide, rfl⟩ rfl k (by omega) (by decide) (x := (tm_co s1 k n9)) rfl dX4_settles_106 (fun H locs hW hS => ?_)
                have er9 : (kx_up (kx_up (kx_up s1 30 0 f9) 31 0 g9) 19 0 (upd (s1 19 0) k 1)) 20 0 = s1 20 0 := by first | rfl | (simp only [kx_up_s]; done) | (simp [kx_up]; done)
                rw [er9] at hW
                have hW : kx_Wd G z0 ad nb (kx_up (kx_up (kx_up (kx_up s1 30 0 f9) 31 0 g9) 19 0 (upd (s1 19 0) k 1)) 20 0 (upd (s1 20 0) k (tm_co s1 k n9))) H := hW
                refine lv_aload_n hx hb dX4_settles_107 rfl (lv_at hl 3 rfl) ?_
                refine lv_dup hx hb dX4_settles_108 rfl ?_
                refine kx_g F inX4 hW 14 0 ⟨by decide, rfl⟩ rfl rfl 19 (by decide) L_94 (v := .int (s1 14 0 19)) (by first | rfl | (simp only [kx_up_s]; done) | (simp only [kx_up_s, upd_s]; done) | (simp only [kx_up_s]; rfl) | (simp [kx_up, upd]; done)) dX4_settles_109 ?_
                refine lv_iconst (v := 1) hx hb dX4_settles_112 (by decide) ?_
                refine lv_iadd hx hb dX4_settles_113 ?_
                refine kx_p F inX4 tyX4 tyX4_ok nmX4 hW hS 14 0 ⟨by decide, rfl⟩ rfl rfl 19 (by decide) L_94 rfl (v := .int ((s1 14 0 19) + 1)) rfl rfl (Nat.le_of_ble_eq_true rfl) (upd ((kx_up (kx_up (kx_up (kx_up s1 30 0 f9) 31 0 g9) 19 0 (upd (s1 19 0) k 1)) 20 0 (upd (s1 20 0) k (tm_co s1 k n9))) 14 0) 19 ((s1 14 0 19) + 1)) rfl dX4_settles_114 (fun H locs hW hS => ?_)
                have er9 : (kx_up (kx_up (kx_up (kx_up s1 30 0 f9) 31 0 g9) 19 0 (upd (s1 19 0) k 1)) 20 0 (upd (s1 20 0) k (tm_co s1 k n9))) 14 0 = s1 14 0 := by first | rfl | (simp only [kx_up_s]; done) | (simp [kx_up]; done)
                rw [er9] at hW
                have hW : kx_Wd G z0 ad nb (kx_up (kx_up (kx_up (kx_up (kx_up s1 30 0 f9) 31 0 g9) 19 0 (upd (s1 19 0) k 1)) 20 0 (upd (s1 20 0) k (tm_co s1 k n9))) 14 0 (upd (s1 14 0) 19 ((s1 14 0 19) + 1))) H := hW
                refine lv_iinc (v := nI (k + 1)) (lv' := [(1, .int (nI (k + 1))), (3, .int 1), (2, .int (tm_st s1 k n9)), (0, .ref (ad 14 0))]) hx hb dX4_settles_117 hl (k := 2) rfl (nI_1 k) (by decide) rfl (fun ls hl => ?_)
                refine lv_goto (tgt := 2) hx hb dX4_settles_120 (by decide) ?_
                have hdl : tm_dl s1 k n9 = true := decide_eq_true c_24
                have hA : tm_debA (tm_dl s1 k n9) k (s1 16 0 k) (s1 14 0, s1 18 0, s1 19 0, s1 20 0) = (s1 14 0, s1 18 0, s1 19 0, s1 20 0) := if_neg (fun h => h.2 c_43)
                have hB : tm_debB (tm_dl s1 k n9) k (tm_co s1 k n9) (s1 14 0, s1 18 0, s1 19 0, s1 20 0) = (upd (s1 14 0) 19 (s1 14 0 19 + 1), s1 18 0, upd (s1 19 0) k 1, upd (s1 20 0) k (tm_co s1 k n9)) := by
                  rw [hdl]
                  refine (if_pos c_85).trans ?_
                  simp [tw_b, upd]
                have hst9 : tm_St s1 k (kx_up (kx_up (kx_up (kx_up (kx_up s1 30 0 f9) 31 0 g9) 19 0 (upd (s1 19 0) k 1)) 20 0 (upd (s1 20 0) k (tm_co s1 k n9))) 14 0 (upd (s1 14 0) 19 ((s1 14 0 19) + 1))) := by
                  refine ⟨n9, hn9, h129, ?_⟩
                  rw [tm_stl, hA, hB]
                  refine ⟨fun q m h4 h5 h6 h7 h8 h9 => ?_, ?_, ?_, ?_, ?_⟩
                  · simp [kx_up, h4, h5, h6, h7, h8, h9]
                  · simp [kx_up, upd]
                  · simp [kx_up, upd]
                  · simp [kx_up, upd]
                  · simp [kx_up, upd]
                exact ih (k + 1) _ (by omega) ⟨s1, hL, hst9⟩ (tm_WF_St hw1 hst9) H locs ls hW hS (lv_sub hl [0, 3] rfl)
            · refine lv_aload_n hx hb dX4_settles_46 rfl (lv_at hl 3 rfl) ?_
              refine kx_g F inX4 hW 14 0 ⟨by decide, rfl⟩ rfl rfl 4 (by decide) L_19 (v := .ref (ad 18 0)) rfl dX4_settles_47 ?_
              refine lv_iload_n hx hb dX4_settles_50 rfl (lv_at hl 2 rfl) ?_
              refine lv_iconst (v := 0) hx hb dX4_settles_51 (by decide) ?_
              refine kx_zast F hW hS 18 0 ⟨by decide, rfl⟩ rfl k (by omega) (by decide) (x := 0) rfl rfl dX4_settles_52 (fun H locs hW hS => ?_)
              have er9 : (kx_up (kx_up s1 30 0 f9) 31 0 g9) 18 0 = s1 18 0 := by first | rfl | (simp only [kx_up_s]; done) | (simp [kx_up]; done)
              rw [er9] at hW
              have hW : kx_Wd G z0 ad nb (kx_up (kx_up (kx_up s1 30 0 f9) 31 0 g9) 18 0 (upd (s1 18 0) k 0)) H := hW
              refine lv_aload_n hx hb dX4_settles_53 rfl (lv_at hl 3 rfl) ?_
              refine lv_dup hx hb dX4_settles_54 rfl ?_
              refine kx_g F inX4 hW 14 0 ⟨by decide, rfl⟩ rfl rfl 18 (by decide) L_91 (v := .int (s1 14 0 18)) (by first | rfl | (simp only [kx_up_s]; done) | (simp only [kx_up_s, upd_s]; done) | (simp only [kx_up_s]; rfl) | (simp [kx_up, upd]; done)) dX4_settles_55 ?_
              refine lv_aload_n hx hb dX4_settles_58 rfl (lv_at hl 3 rfl) ?_
              refine kx_g F inX4 hW 14 0 ⟨by decide, rfl⟩ rfl rfl 2 (by decide) L_13 (v := .ref (ad 16 0)) rfl dX4_settles_59 ?_
              refine lv_iload_n hx hb dX4_settles_62 rfl (lv_at hl 2 rfl) ?_
              refine kx_ald F hW 16 0 ⟨by decide, rfl⟩ rfl k (by omega) (by decide) (v := s1 16 0 k) (by first | rfl | (simp only [kx_up_s]; done) | (simp only [kx_up_s, upd_s]; done) | (simp only [kx_up_s]; rfl) | (simp [kx_up, upd]; done)) dX4_settles_63 ?_
              refine lv_isub hx hb dX4_settles_64 ?_
              refine kx_p F inX4 tyX4 tyX4_ok nmX4 hW hS 14 0 ⟨by decide, rfl⟩ rfl rfl 18 (by decide) L_91 rfl (v := .int ((s1 14 0 18) - (s1 16 0 k))) rfl rfl (Nat.le_of_ble_eq_true rfl) (upd ((kx_up (kx_up (kx_up s1 30 0 f9) 31 0 g9) 18 0 (upd (s1 18 0) k 0)) 14 0) 18 ((s1 14 0 18) - (s1 16 0 k))) rfl dX4_settles_65 (fun H locs hW hS => ?_)
              have er9 : (kx_up (kx_up (kx_up s1 30 0 f9) 31 0 g9) 18 0 (upd (s1 18 0) k 0)) 14 0 = s1 14 0 := by first | rfl | (simp only [kx_up_s]; done) | (simp [kx_up]; done)
              rw [er9] at hW
              have hW : kx_Wd G z0 ad nb (kx_up (kx_up (kx_up (kx_up s1 30 0 f9) 31 0 g9) 18 0 (upd (s1 18 0) k 0)) 14 0 (upd (s1 14 0) 18 ((s1 14 0 18) - (s1 16 0 k)))) H := hW
              refine lv_aload_n hx hb dX4_settles_68 rfl (lv_at hl 3 rfl) ?_
              refine lv_dup hx hb dX4_settles_69 rfl ?_
              refine kx_g F inX4 hW 14 0 ⟨by decide, rfl⟩ rfl rfl 19 (by decide) L_94 (v := .int (s1 14 0 19)) (by first | rfl | (simp only [kx_up_s]; done) | (simp only [kx_up_s, upd_s]; done) | (simp only [kx_up_s]; rfl) | (simp [kx_up, upd]; done)) dX4_settles_70 ?_
              refine lv_iconst (v := 1) hx hb dX4_settles_73 (by decide) ?_
              refine lv_iadd hx hb dX4_settles_74 ?_
              refine kx_p F inX4 tyX4 tyX4_ok nmX4 hW hS 14 0 ⟨by decide, rfl⟩ rfl rfl 19 (by decide) L_94 rfl (v := .int ((s1 14 0 19) + 1)) rfl rfl (Nat.le_of_ble_eq_true rfl) (upd ((kx_up (kx_up (kx_up (kx_up s1 30 0 f9) 31 0 g9) 18 0 (upd (s1 18 0) k 0)) 14 0 (upd (s1 14 0) 18 ((s1 14 0 18) - (s1 16 0 k)))) 14 0) 19 ((s1 14 0 19) + 1)) rfl dX4_settles_75 (fun H locs hW hS => ?_)
              have er9 : (kx_up (kx_up (kx_up (kx_up s1 30 0 f9) 31 0 g9) 18 0 (upd (s1 18 0) k 0)) 14 0 (upd (s1 14 0) 18 ((s1 14 0 18) - (s1 16 0 k)))) 14 0 = upd (s1 14 0) 18 ((s1 14 0 18) - (s1 16 0 k)) := by first | rfl | (simp only [kx_up_s]; done) | (simp [kx_up]; done)
              rw [er9] at hW
              rw [kx_up_up] at hW
              have hW : kx_Wd G z0 ad nb (kx_up (kx_up (kx_up (kx_up s1 30 0 f9) 31 0 g9) 18 0 (upd (s1 18 0) k 0)) 14 0 (upd (upd (s1 14 0) 18 ((s1 14 0 18) - (s1 16 0 k))) 19 ((s1 14 0 19) + 1))) H := hW
              refine lv_iload_n hx hb dX4_settles_78 rfl (lv_at hl 0 rfl) ?_
              refine lv_aload_n hx hb dX4_settles_79 rfl (lv_at hl 3 rfl) ?_
              refine kx_g F inX4 hW 14 0 ⟨by decide, rfl⟩ rfl rfl 5 (by decide) L_23 (v := .ref (ad 19 0)) rfl dX4_settles_80 ?_
              refine lv_iload_n hx hb dX4_settles_83 rfl (lv_at hl 2 rfl) ?_
              refine kx_zald F hW 19 0 ⟨by decide, rfl⟩ rfl k (by omega) (by decide) (v := s1 19 0 k) (by first | rfl | (simp only [kx_up_s]; done) | (simp only [kx_up_s, upd_s]; done) | (simp only [kx_up_s]; rfl) | (simp [kx_up, upd]; done)) dX4_settles_84 ?_
              refine lv_icmp_eq (tgt := 117) hx hb dX4_settles_85 (by decide) (fun c_85 => ?_) (fun c_85 => ?_)
              · refine lv_iinc (v := nI (k + 1)) (lv' := [(1, .int (nI (k + 1))), (3, .int 1), (2, .int (tm_st s1 k n9)), (0, .ref (ad 14 0))]) hx hb dX4_settles_117 hl (k := 2) rfl (nI_1 k) (by decide) rfl (fun ls hl => ?_)
                refine lv_goto (tgt := 2) hx hb dX4_settles_120 (by decide) ?_
                have hdl : tm_dl s1 k n9 = true := decide_eq_true c_24
                have hA : tm_debA (tm_dl s1 k n9) k (s1 16 0 k) (s1 14 0, s1 18 0, s1 19 0, s1 20 0) = (upd (upd (s1 14 0) 18 (s1 14 0 18 - s1 16 0 k)) 19 (s1 14 0 19 + 1), upd (s1 18 0) k 0, s1 19 0, s1 20 0) := if_pos ⟨hdl, c_43⟩
                have hB : tm_debB (tm_dl s1 k n9) k (tm_co s1 k n9) (upd (upd (s1 14 0) 18 (s1 14 0 18 - s1 16 0 k)) 19 (s1 14 0 19 + 1), upd (s1 18 0) k 0, s1 19 0, s1 20 0) = (upd (upd (s1 14 0) 18 (s1 14 0 18 - s1 16 0 k)) 19 (s1 14 0 19 + 1), upd (s1 18 0) k 0, s1 19 0, s1 20 0) := by
                  rw [hdl]
                  exact if_neg (fun h => h c_85)
                have hst9 : tm_St s1 k (kx_up (kx_up (kx_up (kx_up s1 30 0 f9) 31 0 g9) 18 0 (upd (s1 18 0) k 0)) 14 0 (upd (upd (s1 14 0) 18 ((s1 14 0 18) - (s1 16 0 k))) 19 ((s1 14 0 19) + 1))) := by
                  refine ⟨n9, hn9, h129, ?_⟩
                  rw [tm_stl, hA, hB]
                  refine ⟨fun q m h4 h5 h6 h7 h8 h9 => ?_, ?_, ?_, ?_, ?_⟩
                  · simp [kx_up, h4, h5, h6, h7, h8, h9]
                  · simp [kx_up, upd]
                  · simp [kx_up, upd]
                  · simp [kx_up, upd]
                  · simp [kx_up, upd]
                exact ih (k + 1) _ (by omega) ⟨s1, hL, hst9⟩ (tm_WF_St hw1 hst9) H locs ls hW hS (lv_sub hl [0, 3] rfl)
              · refine lv_aload_n hx hb dX4_settles_88 rfl (lv_at hl 3 rfl) ?_
                refine kx_g F inX4 hW 14 0 ⟨by decide, rfl⟩ rfl rfl 5 (by decide) L_23 (v := .ref (ad 19 0)) rfl dX4_settles_89 ?_
                refine lv_iload_n hx hb dX4_settles_92 rfl (lv_at hl 2 rfl) ?_
                refine lv_iload_n hx hb dX4_settles_93 rfl (lv_at hl 0 rfl) ?_
                refine kx_zast F hW hS 19 0 ⟨by decide, rfl⟩ rfl k (by omega) (by decide) (x := 1) rfl rfl dX4_settles_94 (fun H locs hW hS => ?_)
                have er9 : (kx_up (kx_up (kx_up (kx_up s1 30 0 f9) 31 0 g9) 18 0 (upd (s1 18 0) k 0)) 14 0 (upd (upd (s1 14 0) 18 ((s1 14 0 18) - (s1 16 0 k))) 19 ((s1 14 0 19) + 1))) 19 0 = s1 19 0 := by first | rfl | (simp only [kx_up_s]; done) | (simp [kx_up]; done)
                rw [er9] at hW
                have hW : kx_Wd G z0 ad nb (kx_up (kx_up (kx_up (kx_up (kx_up s1 30 0 f9) 31 0 g9) 18 0 (upd (s1 18 0) k 0)) 14 0 (upd (upd (s1 14 0) 18 ((s1 14 0 18) - (s1 16 0 k))) 19 ((s1 14 0 19) + 1))) 19 0 (upd (s1 19 0) k 1)) H := hW
                refine lv_aload_n hx hb dX4_settles_95 rfl (lv_at hl 3 rfl) ?_
                refine kx_g F inX4 hW 14 0 ⟨by decide, rfl⟩ rfl rfl 6 (by decide) L_26 (v := .ref (ad 20 0)) rfl dX4_settles_96 ?_
                refine lv_iload_n hx hb dX4_settles_99 rfl (lv_at hl 2 rfl) ?_
                refine lv_aload_n hx hb dX4_settles_100 rfl (lv_at hl 3 rfl) ?_
                refine lv_iload_n hx hb dX4_settles_101 rfl (lv_at hl 2 rfl) ?_
                refine lv_iload_n hx hb dX4_settles_102 rfl (lv_at hl 1 rfl) ?_
                refine kx_cV (na := 2) F (q := 14) (n := 0) (c_X4_courierBy l G z0 ad nb (kx_up (kx_up (kx_up (kx_up (kx_up s1 30 0 f9) 31 0 g9) 18 0 (upd (s1 18 0) k 0)) 14 0 (upd (upd (s1 14 0) 18 ((s1 14 0 18) - (s1 16 0 k))) 19 ((s1 14 0 19) + 1))) 19 0 (upd (s1 19 0) k 1)) k (by omega) n9 (by simp [kx_up, hn9]) h129 (tm_st s1 k n9)) gX4_settles_X4_courierBy rfl (by decide +kernel) ⟨Nat.le_of_ble_eq_true rfl, Nat.le_of_ble_eq_true rfl⟩ hW hS ⟨by decide, rfl⟩ rfl rfl (As := [.int (nI k), .int (tm_st s1 k n9)]) (rest := [.int (nI k), .ref (ad 20 0)]) rfl hl.1 rfl (Nat.le_of_ble_eq_true rfl) dX4_settles_103 ⟨by first | exact Nat.le_of_ble_eq_true rfl | omega, by first | exact Nat.le_of_ble_eq_true rfl | omega⟩ (fun r9 sg9 H locs hq hW hS => ?_)
                have hq : r9 = some (.int (tm_co s1 k n9)) ∧ sg9 = kx_up (kx_up (kx_up (kx_up (kx_up s1 30 0 f9) 31 0 g9) 18 0 (upd (s1 18 0) k 0)) 14 0 (upd (upd (s1 14 0) 18 ((s1 14 0 18) - (s1 16 0 k))) 19 ((s1 14 0 19) + 1))) 19 0 (upd (s1 19 0) k 1) := ⟨hq.1.trans (by simp [kx_up, tm_co, tm_pl]; try rfl), hq.2⟩
                obtain ⟨rfl, e9⟩ := hq
                rw [e9] at hW
                refine W.eq (g2 := F0 m 106 ls [.int (tm_co s1 k n9), .int (nI k), .ref (ad 20 0)]) rfl ?_
                refine kx_ast F hW hS 20 0 ⟨by decide, rfl⟩ rfl k (by omega) (by decide) (x := (tm_co s1 k n9)) rfl dX4_settles_106 (fun H locs hW hS => ?_)
                have er9 : (kx_up (kx_up (kx_up (kx_up (kx_up s1 30 0 f9) 31 0 g9) 18 0 (upd (s1 18 0) k 0)) 14 0 (upd (upd (s1 14 0) 18 ((s1 14 0 18) - (s1 16 0 k))) 19 ((s1 14 0 19) + 1))) 19 0 (upd (s1 19 0) k 1)) 20 0 = s1 20 0 := by first | rfl | (simp only [kx_up_s]; done) | (simp [kx_up]; done)
                rw [er9] at hW
                have hW : kx_Wd G z0 ad nb (kx_up (kx_up (kx_up (kx_up (kx_up (kx_up s1 30 0 f9) 31 0 g9) 18 0 (upd (s1 18 0) k 0)) 14 0 (upd (upd (s1 14 0) 18 ((s1 14 0 18) - (s1 16 0 k))) 19 ((s1 14 0 19) + 1))) 19 0 (upd (s1 19 0) k 1)) 20 0 (upd (s1 20 0) k (tm_co s1 k n9))) H := hW
                refine lv_aload_n hx hb dX4_settles_107 rfl (lv_at hl 3 rfl) ?_
                refine lv_dup hx hb dX4_settles_108 rfl ?_
                refine kx_g F inX4 hW 14 0 ⟨by decide, rfl⟩ rfl rfl 19 (by decide) L_94 (v := .int ((s1 14 0 19) + 1)) (by first | rfl | (simp only [kx_up_s]; done) | (simp only [kx_up_s, upd_s]; done) | (simp only [kx_up_s]; rfl) | (simp [kx_up, upd]; done)) dX4_settles_109 ?_
                refine lv_iconst (v := 1) hx hb dX4_settles_112 (by decide) ?_
                refine lv_iadd hx hb dX4_settles_113 ?_
                refine kx_p F inX4 tyX4 tyX4_ok nmX4 hW hS 14 0 ⟨by decide, rfl⟩ rfl rfl 19 (by decide) L_94 rfl (v := .int (((s1 14 0 19) + 1) + 1)) rfl rfl (Nat.le_of_ble_eq_true rfl) (upd ((kx_up (kx_up (kx_up (kx_up (kx_up (kx_up s1 30 0 f9) 31 0 g9) 18 0 (upd (s1 18 0) k 0)) 14 0 (upd (upd (s1 14 0) 18 ((s1 14 0 18) - (s1 16 0 k))) 19 ((s1 14 0 19) + 1))) 19 0 (upd (s1 19 0) k 1)) 20 0 (upd (s1 20 0) k (tm_co s1 k n9))) 14 0) 19 (((s1 14 0 19) + 1) + 1)) rfl dX4_settles_114 (fun H locs hW hS => ?_)
                have er9 : (kx_up (kx_up (kx_up (kx_up (kx_up (kx_up s1 30 0 f9) 31 0 g9) 18 0 (upd (s1 18 0) k 0)) 14 0 (upd (upd (s1 14 0) 18 ((s1 14 0 18) - (s1 16 0 k))) 19 ((s1 14 0 19) + 1))) 19 0 (upd (s1 19 0) k 1)) 20 0 (upd (s1 20 0) k (tm_co s1 k n9))) 14 0 = upd (upd (s1 14 0) 18 ((s1 14 0 18) - (s1 16 0 k))) 19 ((s1 14 0 19) + 1) := by first | rfl | (simp only [kx_up_s]; done) | (simp [kx_up]; done)
                rw [er9] at hW
                have hW : kx_Wd G z0 ad nb (kx_up (kx_up (kx_up (kx_up (kx_up (kx_up (kx_up s1 30 0 f9) 31 0 g9) 18 0 (upd (s1 18 0) k 0)) 14 0 (upd (upd (s1 14 0) 18 ((s1 14 0 18) - (s1 16 0 k))) 19 ((s1 14 0 19) + 1))) 19 0 (upd (s1 19 0) k 1)) 20 0 (upd (s1 20 0) k (tm_co s1 k n9))) 14 0 (upd (upd (upd (s1 14 0) 18 ((s1 14 0 18) - (s1 16 0 k))) 19 ((s1 14 0 19) + 1)) 19 (((s1 14 0 19) + 1) + 1))) H := hW
                refine lv_iinc (v := nI (k + 1)) (lv' := [(1, .int (nI (k + 1))), (3, .int 1), (2, .int (tm_st s1 k n9)), (0, .ref (ad 14 0))]) hx hb dX4_settles_117 hl (k := 2) rfl (nI_1 k) (by decide) rfl (fun ls hl => ?_)
                refine lv_goto (tgt := 2) hx hb dX4_settles_120 (by decide) ?_
                have hdl : tm_dl s1 k n9 = true := decide_eq_true c_24
                have hA : tm_debA (tm_dl s1 k n9) k (s1 16 0 k) (s1 14 0, s1 18 0, s1 19 0, s1 20 0) = (upd (upd (s1 14 0) 18 (s1 14 0 18 - s1 16 0 k)) 19 (s1 14 0 19 + 1), upd (s1 18 0) k 0, s1 19 0, s1 20 0) := if_pos ⟨hdl, c_43⟩
                have hB : tm_debB (tm_dl s1 k n9) k (tm_co s1 k n9) (upd (upd (s1 14 0) 18 (s1 14 0 18 - s1 16 0 k)) 19 (s1 14 0 19 + 1), upd (s1 18 0) k 0, s1 19 0, s1 20 0) = (upd (upd (upd (s1 14 0) 18 (s1 14 0 18 - s1 16 0 k)) 19 (s1 14 0 19 + 1)) 19 (s1 14 0 19 + 1 + 1), upd (s1 18 0) k 0, upd (s1 19 0) k 1, upd (s1 20 0) k (tm_co s1 k n9)) := by
                  rw [hdl]
                  refine (if_pos c_85).trans ?_
                  simp [tw_b, upd]
                have hst9 : tm_St s1 k (kx_up (kx_up (kx_up (kx_up (kx_up (kx_up (kx_up s1 30 0 f9) 31 0 g9) 18 0 (upd (s1 18 0) k 0)) 14 0 (upd (upd (s1 14 0) 18 ((s1 14 0 18) - (s1 16 0 k))) 19 ((s1 14 0 19) + 1))) 19 0 (upd (s1 19 0) k 1)) 20 0 (upd (s1 20 0) k (tm_co s1 k n9))) 14 0 (upd (upd (upd (s1 14 0) 18 ((s1 14 0 18) - (s1 16 0 k))) 19 ((s1 14 0 19) + 1)) 19 (((s1 14 0 19) + 1) + 1))) := by
                  refine ⟨n9, hn9, h129, ?_⟩
                  rw [tm_stl, hA, hB]
                  refine ⟨fun q m h4 h5 h6 h7 h8 h9 => ?_, ?_, ?_, ?_, ?_⟩
                  · simp [kx_up, h4, h5, h6, h7, h8, h9]
                  · simp [kx_up, upd]
                  · simp [kx_up, upd]
                  · simp [kx_up, upd]
                  · simp [kx_up, upd]
                exact ih (k + 1) _ (by omega) ⟨s1, hL, hst9⟩ (tm_WF_St hw1 hst9) H locs ls hW hS (lv_sub hl [0, 3] rfl)
  refine lv_iconst (v := 0) hx hb dX4_settles_0 (by decide) ?_
  refine lv_istore_n (lv' := [(1, .int 0), (0, .ref (ad 14 0))]) hx hb dX4_settles_1 rfl hl (by decide) rfl (fun ls hl => ?_)
  exact loop mb 0 sg (by omega) rfl hwf _ _ ls hW hS (lv_sub hl [0, 1] rfl)

/-- the reference's rows when a scan is put down -/
def tm_add (sg : kx_S) (i n : Nat) (q w : Int32) : kx_S := kx_up (kx_up (kx_up (kx_up sg 21 0 (upd (sg 21 0) (12 * i + n) q)) 22 0 (upd (sg 22 0) (12 * i + n) (sg 14 0 0))) 23 0 (upd (sg 23 0) (12 * i + n) w)) 17 0 (upd (sg 17 0) i (nI (n + 1)))
theorem tm_WF_add {mb : Nat} {sg : kx_S} {i n : Nat} {q w : Int32} (h : tm_WF mb sg) (hi : i < mb) (hn : sg 17 0 i = nI n) (h12 : n < 12) (hw : tw_who w) : tm_WF mb (tm_add sg i n q w) := by
  refine ⟨h.1, h.2.1, fun j hj => ?_, h.2.2.2⟩
  obtain ⟨n2, q1, q2, q3⟩ := h.2.2.1 j hj
  by_cases e : j = i
  · subst e
    have e2 : n2 = n := (nI_eq (by omega) (by omega)).mp (q1.symm.trans hn)
    subst e2
    refine ⟨n2 + 1, ?_, by omega, fun k hk => ?_⟩
    · show upd (sg 17 0) j (nI (n2 + 1)) j = _
      rw [upd_s]
    · show tw_who (upd (sg 23 0) (12 * j + n2) w (12 * j + k))
      by_cases e : k = n2
      · subst e; rw [upd_s]; exact hw
      · rw [upd_n (by omega)]; exact q3 k (by omega)
  · refine ⟨n2, ?_, q2, fun k hk => ?_⟩
    · show upd (sg 17 0) i (nI (n + 1)) j = _
      rw [upd_n e]; exact q1
    · show tw_who (upd (sg 23 0) (12 * i + n) w (12 * j + k))
      rw [upd_n (by omega)]
      exact q3 k hk

set_option maxHeartbeats 4000000 in
set_option maxRecDepth 100000 in
theorem c_X4_adds (l : Launch) (G : kx_G) (z0 : Nat) (ad : kx_A) (nb : Nat) (sg : kx_S) (mb : Nat) (hwf : tm_WF mb sg) (i : Nat) (hi : i < mb) (n : Nat) (hn : sg 17 0 i = nI n) (h12 : n < 12) (q w : Int32) (hw : tw_who w) : kx_M l yX4_adds wsX4_adds 4 95 0 0 G z0 ad nb sg [.ref (ad 14 0), .int (nI i), .int q, .int w] (fun r sg' => r = some (.int (nI n)) ∧ tm_SA mb (tm_add sg i n q w) sg') := by
  refine Met.ofW (cc := cX4_adds) (maxL := 5) (ret := (some .int)) (by decide) rfl ?_
  intro p e s m args below meth c s₁ B hml hv
  obtain ⟨rfl, hW, hV⟩ := hv
  have hts := atoms_spec (ws := wsX4_adds) B.pre
  have F : kx_F p s m c cX4_adds 5 RX4 _ wsX4_adds G z0 := ⟨B.exec, B.bytes, hml, findClass_of_methodNamed B.named, hts, hV⟩
  have hx := B.exec; have hb := B.bytes; have hr := B.returns; have hlocks := B.notSynchronized
  have hS : va_S (kx_Ad z0) s.heap s.heap [] := va_S.rf
  have hmb16 := hwf.2.1
  have L_107 : Cond.fieldLink RX4 107 (TX4 0).1 (TX4 0).2.1 (TX4 0).2.2.1 ∈ wsX4_adds := by decide +kernel
  have L_16 : Cond.fieldLink RX4 16 (TX4 3).1 (TX4 3).2.1 (TX4 3).2.2.1 ∈ wsX4_adds := by decide +kernel
  have L_29 : Cond.fieldLink RX4 29 (TX4 8).1 (TX4 8).2.1 (TX4 8).2.2.1 ∈ wsX4_adds := by decide +kernel
  have L_32 : Cond.fieldLink RX4 32 (TX4 9).1 (TX4 9).2.1 (TX4 9).2.2.1 ∈ wsX4_adds := by decide +kernel
  have L_35 : Cond.fieldLink RX4 35 (TX4 10).1 (TX4 10).2.1 (TX4 10).2.2.1 ∈ wsX4_adds := by decide +kernel
  have inX4 : ∀ w ∈ u_ws RX4 TX4 23, w ∈ wsX4_adds := by decide +kernel
  have hl := lv_entry ([.ref (ad 14 0), .int (nI i), .int q, .int w]) (n := 5) (Nat.le_of_ble_eq_true rfl)
  rw [lg_entry_eq]
  generalize (lg_sl ([.ref (ad 14 0), .int (nI i), .int q, .int w]) ++ List.replicate (5 - (lg_sl ([.ref (ad 14 0), .int (nI i), .int q, .int w])).length) Slot.unset).toArray = ls at hl ⊢
  have hl : lv_has ls 5 [(0, .ref (ad 14 0)), (1, .int (nI i)), (2, .int q), (3, .int w)] := hl
  refine lv_bipush (v := 12) hx hb dX4_adds_0 (by decide) ?_
  refine lv_iload_n hx hb dX4_adds_2 rfl (lv_at hl 1 rfl) ?_
  refine lv_imul hx hb dX4_adds_3 ?_
  refine lv_aload_n hx hb dX4_adds_4 rfl (lv_at hl 0 rfl) ?_
  refine kx_g F inX4 hW 14 0 ⟨by decide, rfl⟩ rfl rfl 3 (by decide) L_16 (v := .ref (ad 17 0)) rfl dX4_adds_5 ?_
  refine lv_iload_n hx hb dX4_adds_8 rfl (lv_at hl 1 rfl) ?_
  refine kx_ald F hW 17 0 ⟨by decide, rfl⟩ rfl i (by omega) (by decide) (v := nI n) hn dX4_adds_9 ?_
  refine lv_iadd hx hb dX4_adds_10 ?_
  rw [tw_ix i n]
  refine lv_istore (lv' := [(4, .int (nI (12 * i + n))), (0, .ref (ad 14 0)), (1, .int (nI i)), (2, .int q), (3, .int w)]) hx hb dX4_adds_11 hl (by decide) rfl (fun ls hl => ?_)
  refine lv_aload_n hx hb dX4_adds_13 rfl (lv_at hl 1 rfl) ?_
  refine kx_g F inX4 hW 14 0 ⟨by decide, rfl⟩ rfl rfl 8 (by decide) L_29 (v := .ref (ad 21 0)) rfl dX4_adds_14 ?_
  refine lv_iload hx hb dX4_adds_17 (lv_at hl 0 rfl) ?_
  refine lv_iload_n hx hb dX4_adds_19 rfl (lv_at hl 3 rfl) ?_
  refine kx_ast F hW hS 21 0 ⟨by decide, rfl⟩ rfl (12 * i + n) (by omega) (by decide) (x := q) rfl dX4_adds_20 (fun H locs hW hS => ?_)
  have hW : kx_Wd G z0 ad nb (kx_up sg 21 0 (upd (sg 21 0) (12 * i + n) q)) H := hW
  refine lv_aload_n hx hb dX4_adds_21 rfl (lv_at hl 1 rfl) ?_
  refine kx_g F inX4 hW 14 0 ⟨by decide, rfl⟩ rfl rfl 9 (by decide) L_32 (v := .ref (ad 22 0)) rfl dX4_adds_22 ?_
  refine lv_iload hx hb dX4_adds_25 (lv_at hl 0 rfl) ?_
  refine lv_aload_n hx hb dX4_adds_27 rfl (lv_at hl 1 rfl) ?_
  refine kx_g F inX4 hW 14 0 ⟨by decide, rfl⟩ rfl rfl 0 (by decide) L_107 (v := .int (sg 14 0 0)) (by first | rfl | (simp only [kx_up_s]; done) | (simp only [kx_up_s, upd_s]; done) | (simp only [kx_up_s]; rfl) | (simp [kx_up, upd]; done)) dX4_adds_28 ?_
  refine kx_ast F hW hS 22 0 ⟨by decide, rfl⟩ rfl (12 * i + n) (by omega) (by decide) (x := (sg 14 0 0)) rfl dX4_adds_31 (fun H locs hW hS => ?_)
  have er9 : (kx_up sg 21 0 (upd (sg 21 0) (12 * i + n) q)) 22 0 = sg 22 0 := by first | rfl | (simp only [kx_up_s]; done) | (simp [kx_up]; done)
  rw [er9] at hW
  have hW : kx_Wd G z0 ad nb (kx_up (kx_up sg 21 0 (upd (sg 21 0) (12 * i + n) q)) 22 0 (upd (sg 22 0) (12 * i + n) (sg 14 0 0))) H := hW
  refine lv_aload_n hx hb dX4_adds_32 rfl (lv_at hl 1 rfl) ?_
  refine kx_g F inX4 hW 14 0 ⟨by decide, rfl⟩ rfl rfl 10 (by decide) L_35 (v := .ref (ad 23 0)) rfl dX4_adds_33 ?_
  refine lv_iload hx hb dX4_adds_36 (lv_at hl 0 rfl) ?_
  refine lv_iload_n hx hb dX4_adds_38 rfl (lv_at hl 4 rfl) ?_
  refine kx_ast F hW hS 23 0 ⟨by decide, rfl⟩ rfl (12 * i + n) (by omega) (by decide) (x := w) rfl dX4_adds_39 (fun H locs hW hS => ?_)
  have er9 : (kx_up (kx_up sg 21 0 (upd (sg 21 0) (12 * i + n) q)) 22 0 (upd (sg 22 0) (12 * i + n) (sg 14 0 0))) 23 0 = sg 23 0 := by first | rfl | (simp only [kx_up_s]; done) | (simp [kx_up]; done)
  rw [er9] at hW
  have hW : kx_Wd G z0 ad nb (kx_up (kx_up (kx_up sg 21 0 (upd (sg 21 0) (12 * i + n) q)) 22 0 (upd (sg 22 0) (12 * i + n) (sg 14 0 0))) 23 0 (upd (sg 23 0) (12 * i + n) w)) H := hW
  refine lv_aload_n hx hb dX4_adds_40 rfl (lv_at hl 1 rfl) ?_
  refine kx_g F inX4 hW 14 0 ⟨by decide, rfl⟩ rfl rfl 3 (by decide) L_16 (v := .ref (ad 17 0)) rfl dX4_adds_41 ?_
  refine lv_iload_n hx hb dX4_adds_44 rfl (lv_at hl 2 rfl) ?_
  refine lv_dup2_11 hx hb dX4_adds_45 rfl rfl ?_
  refine kx_ald F hW 17 0 ⟨by decide, rfl⟩ rfl i (by omega) (by decide) (v := nI n) (by simp [kx_up]; exact hn) dX4_adds_46 ?_
  refine lv_iconst (v := 1) hx hb dX4_adds_47 (by decide) ?_
  refine lv_iadd hx hb dX4_adds_48 ?_
  rw [show nI n + 1 = nI (n + 1) from nI_add n 1]
  refine kx_ast F hW hS 17 0 ⟨by decide, rfl⟩ rfl i (by omega) (by decide) (x := (nI (n + 1))) rfl dX4_adds_49 (fun H locs hW hS => ?_)
  have er9 : (kx_up (kx_up (kx_up sg 21 0 (upd (sg 21 0) (12 * i + n) q)) 22 0 (upd (sg 22 0) (12 * i + n) (sg 14 0 0))) 23 0 (upd (sg 23 0) (12 * i + n) w)) 17 0 = sg 17 0 := by first | rfl | (simp only [kx_up_s]; done) | (simp [kx_up]; done)
  rw [er9] at hW
  have hW : kx_Wd G z0 ad nb (kx_up (kx_up (kx_up (kx_up sg 21 0 (upd (sg 21 0) (12 * i + n) q)) 22 0 (upd (sg 22 0) (12 * i + n) (sg 14 0 0))) 23 0 (upd (sg 23 0) (12 * i + n) w)) 17 0 (upd (sg 17 0) i (nI (n + 1)))) H := hW
  have hW : kx_Wd G z0 ad nb (tm_add sg i n q w) H := hW
  refine lv_aload_n hx hb dX4_adds_50 rfl (lv_at hl 1 rfl) ?_
  refine kx_cV (na := 0) F (q := 14) (n := 0) (c_X4_settles l G z0 ad nb (tm_add sg i n q w) mb (tm_WF_add hwf hi hn h12 hw)) gX4_adds_X4_settles rfl (by decide +kernel) ⟨Nat.le_of_ble_eq_true rfl, Nat.le_of_ble_eq_true rfl⟩ hW hS ⟨by decide, rfl⟩ rfl rfl (As := []) (rest := []) rfl hl.1 rfl (Nat.le_of_ble_eq_true rfl) dX4_adds_51 ⟨by first | exact Nat.le_of_ble_eq_true rfl | omega, by first | exact Nat.le_of_ble_eq_true rfl | omega⟩ (fun r9 sg9 H locs hq hW hS => ?_)
  obtain ⟨rfl, hsa9⟩ := hq
  have hW : kx_Wd G z0 ad nb (sg9) H := by first | exact hW | (simp only [kx_up_s, kx_up_up] at hW; exact hW) | (simp only [kx_up_s, kx_up_up, upd_s] at hW; exact hW)
  refine W.eq (g2 := F0 m 54 ls []) rfl ?_
  refine lv_aload_n hx hb dX4_adds_54 rfl (lv_at hl 1 rfl) ?_
  refine kx_g F inX4 hW 14 0 ⟨by decide, rfl⟩ rfl rfl 3 (by decide) L_16 (v := .ref (ad 17 0)) rfl dX4_adds_55 ?_
  refine lv_iload_n hx hb dX4_adds_58 rfl (lv_at hl 2 rfl) ?_
  refine kx_ald F hW 17 0 ⟨by decide, rfl⟩ rfl i (by omega) (by decide) (v := nI (n + 1)) (by rw [tm_SA_fr hsa9 17 0 (by decide) (by decide) (by decide) (by decide) (by decide) (by decide)]; exact upd_s) dX4_adds_59 ?_
  refine lv_iconst (v := 1) hx hb dX4_adds_60 (by decide) ?_
  refine lv_isub hx hb dX4_adds_61 ?_
  exact kx_ri F hr hlocks hW hS (by first | exact Nat.le_of_ble_eq_true rfl | omega) (by first | exact Nat.le_of_ble_eq_true rfl | omega) (⟨congrArg (fun z => some (Value.int z)) (tw_m1 n), hsa9⟩) dX4_adds_62
