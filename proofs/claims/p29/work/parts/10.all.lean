theorem tw_gw_if {x : Nat} (hx : x < 13) : (if nI x - 1 = (-1 : Int32) then (12 : Int32) else nI x - 1) = (match x with | 0 => 12 | j + 1 => nI j) := by
  cases x with
  | zero => rw [if_pos (by decide)]
  | succ j => rw [tw_m1, if_neg (tw_m1ne j (by omega))]
theorem tw_gw_t (r : Nat → Int32) {x k : Nat} (hx : x < 13) (h : tw_tru (r k) (if nI x - 1 = (-1 : Int32) then (12 : Int32) else nI x - 1) = true) : dp_g (fun j k => tw_tru (r k) (nI j)) (fun k => tw_tru (r k) 12) x k = true := by
  rw [tw_gw_if hx] at h
  cases x with
  | zero => exact h
  | succ j => exact h
theorem tw_gw_f (r : Nat → Int32) {x k : Nat} (hx : x < 13) (h : tw_tru (r k) (if nI x - 1 = (-1 : Int32) then (12 : Int32) else nI x - 1) = false) : dp_g (fun j k => tw_tru (r k) (nI j)) (fun k => tw_tru (r k) 12) x k = false := by
  rw [tw_gw_if hx] at h
  cases x with
  | zero => exact h
  | succ j => exact h
theorem tw_gw_x {n x ln : Nat} (h12 : n ≤ 12) (hx : x ≤ n) (hl : ln ≤ x) (c : ¬ nI ln < nI n) : n ≤ x := by
  rcases Nat.lt_or_ge ln n with q | q
  · exact absurd (nI_lt q (by omega)) c
  · omega
theorem tw_gw_re {l : Launch} {fr lo : Nat} {G : kx_G} {z0 : Nat} {ad : kx_A} {nb : Nat} {sg : kx_S} {i k ln : Nat} {v : Int32} {post : Option Value → kx_S → Prop} (h : kx_M l yX3_greatestWorth wsX3_greatestWorth fr lo 0 0 G z0 ad nb sg [.ref (ad 9 i), .ref (ad 6 0), .int (nI (k + 1) - 1), .int v, .int (nI ln)] post) : kx_M l yX3_greatestWorth wsX3_greatestWorth fr lo 0 0 G z0 ad nb sg [.ref (ad 9 i), .ref (ad 6 0), .int (nI k), .int v, .int (nI ln)] post := by
  rw [tw_m1] at h
  exact h

set_option maxHeartbeats 1000000 in
set_option maxRecDepth 100000 in
/-- the greatest worth of all that go on, by the depth d that is left -/
theorem c_X3_greatestWorth (l : Launch) (G : kx_G) (z0 : Nat) (ad : kx_A) (nb : Nat) (sg : kx_S) (i : Nat) (hi : i < nb) (n : Nat) (hn : sg 9 i 6 = nI n) (h12 : n ≤ 12) (hw : ∀ k, k < n → 0 < (sg 6 0 k).toInt ∧ (sg 6 0 k).toInt ≤ 300000) : ∀ (d x ln : Nat) (v : Int32), x ≤ n → n - x ≤ d → ln ≤ x → 0 ≤ v.toInt → v.toInt ≤ (x : Int) * 300000 → kx_M l yX3_greatestWorth wsX3_greatestWorth (d + 1) (27 * d + 40) 0 0 G z0 ad nb sg [.ref (ad 9 i), .ref (ad 6 0), .int (nI x - 1), .int v, .int (nI ln)] (fun r sg' => ∃ a : Int32, r = some (.int a) ∧ sg' = sg ∧ a.toInt = v.toInt + dp_e (dp_g (fun j k => tw_tru (sg 13 i k) (nI j)) (fun k => tw_tru (sg 13 i k) 12)) (fun k => (sg 6 0 k).toInt) n d x) := by
  intro d
  induction d with
  | zero =>
    intro x ln v hxn hd hln hv0 hv1
    refine Met.ofW (cc := cX3_greatestWorth) (maxL := 8) (ret := (some .int)) (by decide) rfl ?_
    intro p e s m args below meth c s₁ B hml hv
    obtain ⟨rfl, hW, hV⟩ := hv
    have hts := atoms_spec (ws := wsX3_greatestWorth) B.pre
    have F : kx_F p s m c cX3_greatestWorth 8 RX3 _ wsX3_greatestWorth G z0 := ⟨B.exec, B.bytes, hml, findClass_of_methodNamed B.named, hts, hV⟩
    have hx := B.exec; have hb := B.bytes; have hr := B.returns; have hlocks := B.notSynchronized
    have hS : va_S (kx_Ad z0) s.heap s.heap [] := va_S.rf
    have L_171 : Cond.fieldLink RX3 171 (TX0 6).1 (TX0 6).2.1 (TX0 6).2.2.1 ∈ wsX3_greatestWorth := by decide +kernel
    have inX0 : ∀ w ∈ u_ws RX0 TX0 11, w ∈ wsX3_greatestWorth := by decide +kernel
    have hl := lv_entry ([.ref (ad 9 i), .ref (ad 6 0), .int (nI x - 1), .int v, .int (nI ln)]) (n := 8) (Nat.le_of_ble_eq_true rfl)
    rw [lg_entry_eq]
    generalize (lg_sl ([.ref (ad 9 i), .ref (ad 6 0), .int (nI x - 1), .int v, .int (nI ln)]) ++ List.replicate (8 - (lg_sl ([.ref (ad 9 i), .ref (ad 6 0), .int (nI x - 1), .int v, .int (nI ln)])).length) Slot.unset).toArray = ls at hl ⊢
    have hl : lv_has ls 8 [(0, .ref (ad 9 i)), (1, .ref (ad 6 0)), (2, .int (nI x - 1)), (3, .int v), (4, .int (nI ln))] := hl
    have loop : ∀ (j k : Nat) (g : Int32), n = k + j → x ≤ k → g.toInt = v.toInt + 0 → ∀ (H : Heap) (locs : List Loc) (ls : Array Slot), kx_Wd G z0 ad nb sg H → va_S (kx_Ad z0) s.heap H locs → lv_has ls 8 [(6, .int (nI k)), (5, .int g), (0, .ref (ad 9 i)), (1, .ref (ad 6 0)), (2, .int (nI x - 1)), (3, .int v), (4, .int (nI ln))] → W p l e (headSpec wsX3_greatestWorth { frames := 0 + 1, cells := 0, slots := 0, locals := 27 * 0 + 40 }).room s m ([.ref (ad 9 i), .ref (ad 6 0), .int (nI x - 1), .int v, .int (nI ln)] : List Value).toArray below meth c H locs 0 0 (MQ below (kx_Q G z0 ad nb (fun r sg' => ∃ a : Int32, r = some (.int a) ∧ sg' = sg ∧ a.toInt = v.toInt + dp_e (dp_g (fun j k => tw_tru (sg 13 i k) (nI j)) (fun k => tw_tru (sg 13 i k) 12)) (fun k => (sg 6 0 k).toInt) n 0 x)) ([.ref (ad 9 i), .ref (ad 6 0), .int (nI x - 1), .int v, .int (nI ln)] : List Value).toArray s 0 0 (kx_Ad z0)) (F0 m 20 ls []) := by
      intro j
      induction j with
      | zero =>
        intro k g hk hxk hg H locs ls hW hS hl
        refine lv_iload hx hb dX3_greatestWorth_20 (lv_at hl 0 rfl) ?_
        refine lv_aload_n hx hb dX3_greatestWorth_22 rfl (lv_at hl 2 rfl) ?_
        refine kx_g F inX0 hW 9 i hi rfl rfl 6 (by decide) L_171 (v := .int (nI n)) (congrArg (fun z => some (Value.int z)) hn) dX3_greatestWorth_23 ?_
        refine lv_icmp_ge (tgt := 73) hx hb dX3_greatestWorth_26 (by decide) (fun c_26 => ?_) (fun c_26 => ?_)
        · refine lv_iload hx hb dX3_greatestWorth_73 (lv_at hl 1 rfl) ?_
          exact kx_ri F hr hlocks hW hS (by first | exact Nat.le_of_ble_eq_true rfl | omega) (by first | exact Nat.le_of_ble_eq_true rfl | omega) (⟨g, rfl, rfl, by rw [hg, dp_e]⟩) dX3_greatestWorth_75
        · exact absurd (nI_le (by omega) (by omega)) c_26
      | succ j ih =>
        intro k g hk hxk hg H locs ls hW hS hl
        exact absurd hk (by omega)
    refine lv_iload_n hx hb dX3_greatestWorth_0 rfl (lv_at hl 3 rfl) ?_
    refine lv_istore (lv' := [(5, .int v), (0, .ref (ad 9 i)), (1, .ref (ad 6 0)), (2, .int (nI x - 1)), (3, .int v), (4, .int (nI ln))]) hx hb dX3_greatestWorth_1 hl (by decide) rfl (fun ls hl => ?_)
    refine lv_iload hx hb dX3_greatestWorth_3 (lv_at hl 5 rfl) ?_
    refine lv_aload_n hx hb dX3_greatestWorth_5 rfl (lv_at hl 1 rfl) ?_
    refine kx_g F inX0 hW 9 i hi rfl rfl 6 (by decide) L_171 (v := .int (nI n)) (congrArg (fun z => some (Value.int z)) hn) dX3_greatestWorth_6 ?_
    refine lv_icmp_lt (tgt := 15) hx hb dX3_greatestWorth_9 (by decide) (fun c_9 => ?_) (fun c_9 => ?_)
    · refine lv_iload_n hx hb dX3_greatestWorth_15 rfl (lv_at hl 3 rfl) ?_
      refine lv_iconst (v := 1) hx hb dX3_greatestWorth_16 (by decide) ?_
      refine lv_iadd hx hb dX3_greatestWorth_17 ?_
      rw [show nI x - 1 + 1 = nI x from Int32.sub_add_cancel _ _]
      refine lv_istore (lv' := [(6, .int (nI x)), (5, .int v), (0, .ref (ad 9 i)), (1, .ref (ad 6 0)), (2, .int (nI x - 1)), (3, .int v), (4, .int (nI ln))]) hx hb dX3_greatestWorth_18 hl (by decide) rfl (fun ls hl => ?_)
      exact loop (n - x) x v (by omega) (Nat.le_refl x) (by omega) _ _ ls hW hS (lv_sub hl [0, 1, 2, 3, 4, 5, 6] rfl)
    · refine lv_iload hx hb dX3_greatestWorth_12 (lv_at hl 0 rfl) ?_
      exact kx_ri F hr hlocks hW hS (by first | exact Nat.le_of_ble_eq_true rfl | omega) (by first | exact Nat.le_of_ble_eq_true rfl | omega) (⟨v, rfl, rfl, by rw [dp_e_n (show n ≤ x from tw_gw_x (by omega) (by omega) (by omega) c_9)]; omega⟩) dX3_greatestWorth_14
  | succ d ihd =>
    intro x ln v hxn hd hln hv0 hv1
    refine Met.ofW (cc := cX3_greatestWorth) (maxL := 8) (ret := (some .int)) (by decide) rfl ?_
    intro p e s m args below meth c s₁ B hml hv
    obtain ⟨rfl, hW, hV⟩ := hv
    have hts := atoms_spec (ws := wsX3_greatestWorth) B.pre
    have F : kx_F p s m c cX3_greatestWorth 8 RX3 _ wsX3_greatestWorth G z0 := ⟨B.exec, B.bytes, hml, findClass_of_methodNamed B.named, hts, hV⟩
    have hx := B.exec; have hb := B.bytes; have hr := B.returns; have hlocks := B.notSynchronized
    have hS : va_S (kx_Ad z0) s.heap s.heap [] := va_S.rf
    have L_171 : Cond.fieldLink RX3 171 (TX0 6).1 (TX0 6).2.1 (TX0 6).2.2.1 ∈ wsX3_greatestWorth := by decide +kernel
    have inX0 : ∀ w ∈ u_ws RX0 TX0 11, w ∈ wsX3_greatestWorth := by decide +kernel
    have hl := lv_entry ([.ref (ad 9 i), .ref (ad 6 0), .int (nI x - 1), .int v, .int (nI ln)]) (n := 8) (Nat.le_of_ble_eq_true rfl)
    rw [lg_entry_eq]
    generalize (lg_sl ([.ref (ad 9 i), .ref (ad 6 0), .int (nI x - 1), .int v, .int (nI ln)]) ++ List.replicate (8 - (lg_sl ([.ref (ad 9 i), .ref (ad 6 0), .int (nI x - 1), .int v, .int (nI ln)])).length) Slot.unset).toArray = ls at hl ⊢
    have hl : lv_has ls 8 [(0, .ref (ad 9 i)), (1, .ref (ad 6 0)), (2, .int (nI x - 1)), (3, .int v), (4, .int (nI ln))] := hl
    have loop : ∀ (j k : Nat) (g : Int32), n = k + j → x ≤ k → g.toInt = v.toInt + dp_fi (dp_g (fun j k => tw_tru (sg 13 i k) (nI j)) (fun k => tw_tru (sg 13 i k) 12)) (fun k => (sg 6 0 k).toInt) (dp_e (dp_g (fun j k => tw_tru (sg 13 i k) (nI j)) (fun k => tw_tru (sg 13 i k) 12)) (fun k => (sg 6 0 k).toInt) n d) x (k - x) → ∀ (H : Heap) (locs : List Loc) (ls : Array Slot), kx_Wd G z0 ad nb sg H → va_S (kx_Ad z0) s.heap H locs → lv_has ls 8 [(6, .int (nI k)), (5, .int g), (0, .ref (ad 9 i)), (1, .ref (ad 6 0)), (2, .int (nI x - 1)), (3, .int v), (4, .int (nI ln))] → W p l e (headSpec wsX3_greatestWorth { frames := (d + 1) + 1, cells := 0, slots := 0, locals := 27 * (d + 1) + 40 }).room s m ([.ref (ad 9 i), .ref (ad 6 0), .int (nI x - 1), .int v, .int (nI ln)] : List Value).toArray below meth c H locs 0 0 (MQ below (kx_Q G z0 ad nb (fun r sg' => ∃ a : Int32, r = some (.int a) ∧ sg' = sg ∧ a.toInt = v.toInt + dp_e (dp_g (fun j k => tw_tru (sg 13 i k) (nI j)) (fun k => tw_tru (sg 13 i k) 12)) (fun k => (sg 6 0 k).toInt) n (d + 1) x)) ([.ref (ad 9 i), .ref (ad 6 0), .int (nI x - 1), .int v, .int (nI ln)] : List Value).toArray s 0 0 (kx_Ad z0)) (F0 m 20 ls []) := by
      intro j
      induction j with
      | zero =>
        intro k g hk hxk hg H locs ls hW hS hl
        refine lv_iload hx hb dX3_greatestWorth_20 (lv_at hl 0 rfl) ?_
        refine lv_aload_n hx hb dX3_greatestWorth_22 rfl (lv_at hl 2 rfl) ?_
        refine kx_g F inX0 hW 9 i hi rfl rfl 6 (by decide) L_171 (v := .int (nI n)) (congrArg (fun z => some (Value.int z)) hn) dX3_greatestWorth_23 ?_
        refine lv_icmp_ge (tgt := 73) hx hb dX3_greatestWorth_26 (by decide) (fun c_26 => ?_) (fun c_26 => ?_)
        · refine lv_iload hx hb dX3_greatestWorth_73 (lv_at hl 1 rfl) ?_
          exact kx_ri F hr hlocks hW hS (by first | exact Nat.le_of_ble_eq_true rfl | omega) (by first | exact Nat.le_of_ble_eq_true rfl | omega) (⟨g, rfl, rfl, by rw [hg, dp_e, show n - x = k - x by omega]⟩) dX3_greatestWorth_75
        · exact absurd (nI_le (by omega) (by omega)) c_26
      | succ j ih =>
        intro k g hk hxk hg H locs ls hW hS hl
        refine lv_iload hx hb dX3_greatestWorth_20 (lv_at hl 0 rfl) ?_
        refine lv_aload_n hx hb dX3_greatestWorth_22 rfl (lv_at hl 2 rfl) ?_
        refine kx_g F inX0 hW 9 i hi rfl rfl 6 (by decide) L_171 (v := .int (nI n)) (congrArg (fun z => some (Value.int z)) hn) dX3_greatestWorth_23 ?_
        refine lv_icmp_ge (tgt := 73) hx hb dX3_greatestWorth_26 (by decide) (fun c_26 => ?_) (fun c_26 => ?_)
        · exact absurd c_26 (nI_ge (by omega) (by omega))
        · refine lv_aload_n hx hb dX3_greatestWorth_29 rfl (lv_at hl 2 rfl) ?_
          refine lv_iload_n hx hb dX3_greatestWorth_30 rfl (lv_at hl 4 rfl) ?_
          refine lv_iload hx hb dX3_greatestWorth_31 (lv_at hl 0 rfl) ?_
          refine kx_cV (na := 2) F (q := 9) (n := i) (c_X0_canFollow l G z0 ad nb sg i hi (nI x - 1) k (by omega)) gX3_greatestWorth_X0_canFollow rfl (by decide +kernel) ⟨by show 0 + 1 ≤ d + 1 + 1; omega, by show 8 + (4 + 11) + 0 ≤ 27 * (d + 1) + 40; omega⟩ hW hS hi rfl rfl (As := [.int (nI x - 1), .int (nI k)]) (rest := []) rfl hl.1 rfl (Nat.le_of_ble_eq_true rfl) dX3_greatestWorth_33 ⟨by first | exact Nat.le_of_ble_eq_true rfl | omega, by first | exact Nat.le_of_ble_eq_true rfl | omega⟩ (fun r9 sg9 H locs hq hW hS => ?_)
          obtain ⟨rfl, e9⟩ := hq
          rw [e9] at hW
          refine W.eq (g2 := F0 m 36 ls [.int (tw_b (tw_tru (sg 13 i k) (if (nI x - 1) = -1 then 12 else (nI x - 1))))]) rfl ?_
          refine lv_if_eq (tgt := 67) hx hb dX3_greatestWorth_36 (by decide) (fun c_36 => ?_) (fun c_36 => ?_)
          · refine lv_iinc (v := nI (k + 1)) (lv' := [(6, .int (nI (k + 1))), (5, .int g), (0, .ref (ad 9 i)), (1, .ref (ad 6 0)), (2, .int (nI x - 1)), (3, .int v), (4, .int (nI ln))]) hx hb dX3_greatestWorth_67 hl (k := 0) rfl (nI_1 k) (by decide) rfl (fun ls hl => ?_)
            refine lv_goto (tgt := 20) hx hb dX3_greatestWorth_70 (by decide) ?_
            exact ih (k + 1) g (by omega) (by omega) (by
              rw [hg, show k + 1 - x = (k - x) + 1 by omega, dp_fi, show x + (k - x) = k by omega, if_neg (by rw [tw_gw_f (sg 13 i) (by omega) (tw_b_0 c_36)]; decide)]) H locs ls hW hS (lv_sub hl [0, 1, 2, 3, 4, 5, 6] rfl)
          · have hwk := hw k (by omega)
            have hgk : dp_g (fun j k => tw_tru (sg 13 i k) (nI j)) (fun k => tw_tru (sg 13 i k) 12) x k = true := tw_gw_t (sg 13 i) (by omega) (tw_b_1 c_36)
            have hkx : ((x : Int) + 1) * 300000 ≤ (k + 1) * 300000 := Int.mul_le_mul_of_nonneg_right (by omega) (by decide)
            have hxx : ((x : Int) + 1) * 300000 = x * 300000 + 300000 := by rw [Int.add_mul, Int.one_mul]
            have hx12 : (x : Int) * 300000 ≤ 12 * 300000 := Int.mul_le_mul_of_nonneg_right (by omega) (by decide)
            refine lv_iload_n hx hb dX3_greatestWorth_39 rfl (lv_at hl 5 rfl) ?_
            refine lv_aload_n hx hb dX3_greatestWorth_40 rfl (lv_at hl 3 rfl) ?_
            refine lv_iload hx hb dX3_greatestWorth_41 (lv_at hl 0 rfl) ?_
            refine kx_ald F hW 6 0 ⟨by decide, rfl⟩ rfl k (by omega) (by decide) (v := sg 6 0 k) rfl dX3_greatestWorth_43 ?_
            refine lv_iadd hx hb dX3_greatestWorth_44 ?_
            refine lv_istore (lv' := [(7, .int (v + (sg 6 0 k))), (6, .int (nI k)), (5, .int g), (0, .ref (ad 9 i)), (1, .ref (ad 6 0)), (2, .int (nI x - 1)), (3, .int v), (4, .int (nI ln))]) hx hb dX3_greatestWorth_45 hl (by decide) rfl (fun ls hl => ?_)
            refine lv_iload hx hb dX3_greatestWorth_47 (lv_at hl 2 rfl) ?_
            refine lv_aload_n hx hb dX3_greatestWorth_49 rfl (lv_at hl 3 rfl) ?_
            refine lv_aload_n hx hb dX3_greatestWorth_50 rfl (lv_at hl 4 rfl) ?_
            refine lv_iload hx hb dX3_greatestWorth_51 (lv_at hl 1 rfl) ?_
            refine lv_iload hx hb dX3_greatestWorth_53 (lv_at hl 0 rfl) ?_
            refine lv_iload hx hb dX3_greatestWorth_55 (lv_at hl 7 rfl) ?_
            refine lv_iconst (v := 1) hx hb dX3_greatestWorth_57 (by decide) ?_
            refine lv_iadd hx hb dX3_greatestWorth_58 ?_
            have hlong : (v + sg 6 0 k).toInt = v.toInt + (sg 6 0 k).toInt := tw_addI (by omega) (by omega)
            rw [nI_1 ln]
            refine kx_cS (na := 5) F (tw_gw_re (ihd (k + 1) (ln + 1) (v + sg 6 0 k) (by omega) (by omega) (by omega) (by omega) (by rw [hlong]; push_cast; omega))) gX3_greatestWorth_X3_greatestWorth rfl (by decide +kernel) ⟨by show d + 1 + 1 ≤ d + 1 + 1; omega, by show 8 + (8 + 11) + (27 * d + 40) ≤ 27 * (d + 1) + 40; omega⟩ hW hS (As := [.ref (ad 9 i), .ref (ad 6 0), .int (nI k), .int (v + (sg 6 0 k)), .int (nI (ln + 1))]) (rest := [.int g]) rfl hl.1 rfl (Nat.le_of_ble_eq_true rfl) dX3_greatestWorth_59 ⟨by first | exact Nat.le_of_ble_eq_true rfl | omega, by first | exact Nat.le_of_ble_eq_true rfl | omega⟩ (fun r9 sg9 H locs hq hW hS => ?_)
            obtain ⟨a9, rfl, e9, ha9⟩ := hq
            rw [e9] at hW
            refine W.eq (g2 := F0 m 62 ls [.int a9, .int g]) rfl ?_
            refine va_mmax hx hb (F.2.2.1.trans hl.1.symm) F.2.2.2.1 (hts (.methodLink RX3 206 Lib.Math.max.name) (by decide +kernel)) (hts (.static Lib.Math.max.name) (by decide +kernel)) (hts (.initialized "java/lang/Math") (by decide +kernel)) (hts (.code Lib.Math.max.name Lib.Math.max.code 2 (some .int)) (by decide +kernel)) (Nat.le_of_ble_eq_true rfl) (Nat.le_of_ble_eq_true rfl) (by first | exact Nat.zero_le _ | omega) (by first | exact Nat.zero_le _ | omega) dX3_greatestWorth_62 ?_
            refine lv_istore (lv' := [(5, .int (if g < a9 then a9 else g)), (7, .int (v + (sg 6 0 k))), (6, .int (nI k)), (0, .ref (ad 9 i)), (1, .ref (ad 6 0)), (2, .int (nI x - 1)), (3, .int v), (4, .int (nI ln))]) hx hb dX3_greatestWorth_65 hl (by decide) rfl (fun ls hl => ?_)
            refine lv_iinc (v := nI (k + 1)) (lv' := [(6, .int (nI (k + 1))), (5, .int (if g < a9 then a9 else g)), (7, .int (v + (sg 6 0 k))), (0, .ref (ad 9 i)), (1, .ref (ad 6 0)), (2, .int (nI x - 1)), (3, .int v), (4, .int (nI ln))]) hx hb dX3_greatestWorth_67 hl (k := 2) rfl (nI_1 k) (by decide) rfl (fun ls hl => ?_)
            refine lv_goto (tgt := 20) hx hb dX3_greatestWorth_70 (by decide) ?_
            exact ih (k + 1) _ (by omega) (by omega) (by
              rw [tw_max, hg, ha9, hlong, show k + 1 - x = (k - x) + 1 by omega, dp_fi, show x + (k - x) = k by omega, if_pos hgk]
              omega) H locs ls hW hS (lv_sub hl [0, 1, 3, 4, 5, 6, 7] rfl)
    refine lv_iload_n hx hb dX3_greatestWorth_0 rfl (lv_at hl 3 rfl) ?_
    refine lv_istore (lv' := [(5, .int v), (0, .ref (ad 9 i)), (1, .ref (ad 6 0)), (2, .int (nI x - 1)), (3, .int v), (4, .int (nI ln))]) hx hb dX3_greatestWorth_1 hl (by decide) rfl (fun ls hl => ?_)
    refine lv_iload hx hb dX3_greatestWorth_3 (lv_at hl 5 rfl) ?_
    refine lv_aload_n hx hb dX3_greatestWorth_5 rfl (lv_at hl 1 rfl) ?_
    refine kx_g F inX0 hW 9 i hi rfl rfl 6 (by decide) L_171 (v := .int (nI n)) (congrArg (fun z => some (Value.int z)) hn) dX3_greatestWorth_6 ?_
    refine lv_icmp_lt (tgt := 15) hx hb dX3_greatestWorth_9 (by decide) (fun c_9 => ?_) (fun c_9 => ?_)
    · refine lv_iload_n hx hb dX3_greatestWorth_15 rfl (lv_at hl 3 rfl) ?_
      refine lv_iconst (v := 1) hx hb dX3_greatestWorth_16 (by decide) ?_
      refine lv_iadd hx hb dX3_greatestWorth_17 ?_
      rw [show nI x - 1 + 1 = nI x from Int32.sub_add_cancel _ _]
      refine lv_istore (lv' := [(6, .int (nI x)), (5, .int v), (0, .ref (ad 9 i)), (1, .ref (ad 6 0)), (2, .int (nI x - 1)), (3, .int v), (4, .int (nI ln))]) hx hb dX3_greatestWorth_18 hl (by decide) rfl (fun ls hl => ?_)
      exact loop (n - x) x v (by omega) (Nat.le_refl x) (by rw [Nat.sub_self, dp_fi]; omega) _ _ ls hW hS (lv_sub hl [0, 1, 2, 3, 4, 5, 6] rfl)
    · refine lv_iload hx hb dX3_greatestWorth_12 (lv_at hl 0 rfl) ?_
      exact kx_ri F hr hlocks hW hS (by first | exact Nat.le_of_ble_eq_true rfl | omega) (by first | exact Nat.le_of_ble_eq_true rfl | omega) (⟨v, rfl, rfl, by rw [dp_e_n (show n ≤ x from tw_gw_x (by omega) (by omega) (by omega) c_9)]; omega⟩) dX3_greatestWorth_14
