set_option maxHeartbeats 4000000 in
set_option maxRecDepth 100000 in
/-- is it within? -/
theorem c_X3_isWithin (l : Launch) (G : kx_G) (z0 : Nat) (ad : kx_A) (nb : Nat) (sg : kx_S) (x a b : Int32) : kx_M l yX3_isWithin wsX3_isWithin 0 0 0 0 G z0 ad nb sg [.int x, .int a, .int b] (fun r sg' => r = some (.int (tw_b (tw_in x a b))) ∧ sg' = sg) := by
  refine Met.ofW (cc := cX3_isWithin) (maxL := 3) (ret := (some .boolean)) (by decide) rfl ?_
  intro p e s m args below meth c s₁ B hml hv
  obtain ⟨rfl, hW, hV⟩ := hv
  have hts := atoms_spec (ws := wsX3_isWithin) B.pre
  have F : kx_F p s m c cX3_isWithin 3 RX3 _ wsX3_isWithin G z0 := ⟨B.exec, B.bytes, hml, findClass_of_methodNamed B.named, hts, hV⟩
  have hx := B.exec; have hb := B.bytes; have hr := B.returns; have hlocks := B.notSynchronized
  have hS : va_S (kx_Ad z0) s.heap s.heap [] := va_S.rf
  have hl := lv_entry ([.int x, .int a, .int b]) (n := 3) (Nat.le_of_ble_eq_true rfl)
  rw [lg_entry_eq]
  generalize (lg_sl ([.int x, .int a, .int b]) ++ List.replicate (3 - (lg_sl ([.int x, .int a, .int b])).length) Slot.unset).toArray = ls at hl ⊢
  have hl : lv_has ls 3 [(0, .int x), (1, .int a), (2, .int b)] := hl
  refine lv_iload_n hx hb dX3_isWithin_0 rfl (lv_at hl 0 rfl) ?_
  refine lv_iload_n hx hb dX3_isWithin_1 rfl (lv_at hl 1 rfl) ?_
  refine lv_icmp_lt (tgt := 14) hx hb dX3_isWithin_2 (by decide) (fun c_2 => ?_) (fun c_2 => ?_)
  · refine lv_iconst (v := 0) hx hb dX3_isWithin_14 (by decide) ?_
    exact kx_rz F hr hlocks hW hS (by first | exact Nat.le_of_ble_eq_true rfl | omega) (by first | exact Nat.le_of_ble_eq_true rfl | omega) (by rfl) (⟨congrArg (fun z => some (Value.int z)) (tw_b_f (tw_in_1 c_2)), rfl⟩) dX3_isWithin_15
  · refine lv_iload_n hx hb dX3_isWithin_5 rfl (lv_at hl 0 rfl) ?_
    refine lv_iload_n hx hb dX3_isWithin_6 rfl (lv_at hl 2 rfl) ?_
    refine lv_icmp_gt (tgt := 14) hx hb dX3_isWithin_7 (by decide) (fun c_7 => ?_) (fun c_7 => ?_)
    · refine lv_iconst (v := 0) hx hb dX3_isWithin_14 (by decide) ?_
      exact kx_rz F hr hlocks hW hS (by first | exact Nat.le_of_ble_eq_true rfl | omega) (by first | exact Nat.le_of_ble_eq_true rfl | omega) (by rfl) (⟨congrArg (fun z => some (Value.int z)) (tw_b_f (tw_in_2 c_7)), rfl⟩) dX3_isWithin_15
    · refine lv_iconst (v := 1) hx hb dX3_isWithin_10 (by decide) ?_
      refine lv_goto (tgt := 15) hx hb dX3_isWithin_11 (by decide) ?_
      exact kx_rz F hr hlocks hW hS (by first | exact Nat.le_of_ble_eq_true rfl | omega) (by first | exact Nat.le_of_ble_eq_true rfl | omega) (by rfl) (⟨congrArg (fun z => some (Value.int z)) (tw_b_t (tw_in_3 c_2 c_7)), rfl⟩) dX3_isWithin_15

set_option maxHeartbeats 4000000 in
set_option maxRecDepth 100000 in
/-- the kind of a place -/
theorem c_X3_kindOf (l : Launch) (G : kx_G) (z0 : Nat) (ad : kx_A) (nb : Nat) (sg : kx_S) (x : Int32) : kx_M l yX3_kindOf wsX3_kindOf 1 22 0 0 G z0 ad nb sg [.int x] (fun r sg' => r = some (.int (tw_kind x)) ∧ sg' = sg) := by
  refine Met.ofW (cc := cX3_kindOf) (maxL := 1) (ret := (some .int)) (by decide) rfl ?_
  intro p e s m args below meth c s₁ B hml hv
  obtain ⟨rfl, hW, hV⟩ := hv
  have hts := atoms_spec (ws := wsX3_kindOf) B.pre
  have F : kx_F p s m c cX3_kindOf 1 RX3 _ wsX3_kindOf G z0 := ⟨B.exec, B.bytes, hml, findClass_of_methodNamed B.named, hts, hV⟩
  have hx := B.exec; have hb := B.bytes; have hr := B.returns; have hlocks := B.notSynchronized
  have hS : va_S (kx_Ad z0) s.heap s.heap [] := va_S.rf
  have hl := lv_entry ([.int x]) (n := 1) (Nat.le_of_ble_eq_true rfl)
  rw [lg_entry_eq]
  generalize (lg_sl ([.int x]) ++ List.replicate (1 - (lg_sl ([.int x])).length) Slot.unset).toArray = ls at hl ⊢
  have hl : lv_has ls 1 [(0, .int x)] := hl
  refine lv_iload_n hx hb dX3_kindOf_0 rfl (lv_at hl 0 rfl) ?_
  refine lv_if_ne (tgt := 6) hx hb dX3_kindOf_1 (by decide) (fun c_1 => ?_) (fun c_1 => ?_)
  · refine lv_iload_n hx hb dX3_kindOf_6 rfl (lv_at hl 0 rfl) ?_
    refine lv_iconst (v := 1) hx hb dX3_kindOf_7 (by decide) ?_
    refine lv_iconst (v := 4) hx hb dX3_kindOf_8 (by decide) ?_
    refine kx_cS (na := 3) F (c_X3_isWithin l G z0 ad nb sg x 1 4) gX3_kindOf_X3_isWithin rfl (by decide +kernel) ⟨Nat.le_of_ble_eq_true rfl, Nat.le_of_ble_eq_true rfl⟩ hW hS (As := [.int x, .int 1, .int 4]) (rest := []) rfl hl.1 rfl (by decide) dX3_kindOf_9 ⟨by first | exact Nat.le_of_ble_eq_true rfl | omega, by first | exact Nat.le_of_ble_eq_true rfl | omega⟩ (fun r9 sg9 H locs hq hW hS => ?_)
    obtain ⟨rfl, e9⟩ := hq
    rw [e9] at hW
    refine W.eq (g2 := F0 m 12 ls [.int (tw_b (tw_in x 1 4))]) rfl ?_
    refine lv_if_eq (tgt := 17) hx hb dX3_kindOf_12 (by decide) (fun c_12 => ?_) (fun c_12 => ?_)
    · refine lv_iload_n hx hb dX3_kindOf_17 rfl (lv_at hl 0 rfl) ?_
      refine lv_bipush (v := 10) hx hb dX3_kindOf_18 (by decide) ?_
      refine lv_bipush (v := 19) hx hb dX3_kindOf_20 (by decide) ?_
      refine kx_cS (na := 3) F (c_X3_isWithin l G z0 ad nb sg x 10 19) gX3_kindOf_X3_isWithin rfl (by decide +kernel) ⟨Nat.le_of_ble_eq_true rfl, Nat.le_of_ble_eq_true rfl⟩ hW hS (As := [.int x, .int 10, .int 19]) (rest := []) rfl hl.1 rfl (by decide) dX3_kindOf_22 ⟨by first | exact Nat.le_of_ble_eq_true rfl | omega, by first | exact Nat.le_of_ble_eq_true rfl | omega⟩ (fun r9 sg9 H locs hq hW hS => ?_)
      obtain ⟨rfl, e9⟩ := hq
      rw [e9] at hW
      refine W.eq (g2 := F0 m 25 ls [.int (tw_b (tw_in x 10 19))]) rfl ?_
      refine lv_if_eq (tgt := 30) hx hb dX3_kindOf_25 (by decide) (fun c_25 => ?_) (fun c_25 => ?_)
      · refine lv_iload_n hx hb dX3_kindOf_30 rfl (lv_at hl 0 rfl) ?_
        refine lv_bipush (v := 30) hx hb dX3_kindOf_31 (by decide) ?_
        refine lv_icmp_ne (tgt := 40) hx hb dX3_kindOf_33 (by decide) (fun c_33 => ?_) (fun c_33 => ?_)
        · refine lv_iconst (v := (-1)) hx hb dX3_kindOf_40 (by decide) ?_
          exact kx_ri F hr hlocks hW hS (by first | exact Nat.le_of_ble_eq_true rfl | omega) (by first | exact Nat.le_of_ble_eq_true rfl | omega) (⟨congrArg (fun z => some (Value.int z)) (by rw [tw_kind, if_neg c_1, if_neg (by rw [tw_b_0 c_12]; decide), if_neg (by rw [tw_b_0 c_25]; decide), if_neg c_33]), rfl⟩) dX3_kindOf_41
        · refine lv_iconst (v := 3) hx hb dX3_kindOf_36 (by decide) ?_
          refine lv_goto (tgt := 41) hx hb dX3_kindOf_37 (by decide) ?_
          exact kx_ri F hr hlocks hW hS (by first | exact Nat.le_of_ble_eq_true rfl | omega) (by first | exact Nat.le_of_ble_eq_true rfl | omega) (⟨congrArg (fun z => some (Value.int z)) (by rw [tw_kind, if_neg c_1, if_neg (by rw [tw_b_0 c_12]; decide), if_neg (by rw [tw_b_0 c_25]; decide), if_pos c_33]), rfl⟩) dX3_kindOf_41
      · refine lv_iconst (v := 2) hx hb dX3_kindOf_28 (by decide) ?_
        exact kx_ri F hr hlocks hW hS (by first | exact Nat.le_of_ble_eq_true rfl | omega) (by first | exact Nat.le_of_ble_eq_true rfl | omega) (⟨congrArg (fun z => some (Value.int z)) (by rw [tw_kind, if_neg c_1, if_neg (by rw [tw_b_0 c_12]; decide), if_pos (tw_b_1 c_25)]), rfl⟩) dX3_kindOf_29
    · refine lv_iconst (v := 1) hx hb dX3_kindOf_15 (by decide) ?_
      exact kx_ri F hr hlocks hW hS (by first | exact Nat.le_of_ble_eq_true rfl | omega) (by first | exact Nat.le_of_ble_eq_true rfl | omega) (⟨congrArg (fun z => some (Value.int z)) (by rw [tw_kind, if_neg c_1, if_pos (tw_b_1 c_12)]), rfl⟩) dX3_kindOf_16
  · refine lv_iconst (v := 0) hx hb dX3_kindOf_4 (by decide) ?_
    exact kx_ri F hr hlocks hW hS (by first | exact Nat.le_of_ble_eq_true rfl | omega) (by first | exact Nat.le_of_ble_eq_true rfl | omega) (⟨congrArg (fun z => some (Value.int z)) (by rw [tw_kind, if_pos c_1]), rfl⟩) dX3_kindOf_5

set_option maxHeartbeats 4000000 in
set_option maxRecDepth 100000 in
/-- the courier of a place -/
theorem c_X3_courierOfPlace (l : Launch) (G : kx_G) (z0 : Nat) (ad : kx_A) (nb : Nat) (sg : kx_S) (x : Int32) : kx_M l yX3_courierOfPlace wsX3_courierOfPlace 1 22 0 0 G z0 ad nb sg [.int x] (fun r sg' => r = some (.int (tw_cour1 x)) ∧ sg' = sg) := by
  refine Met.ofW (cc := cX3_courierOfPlace) (maxL := 1) (ret := (some .int)) (by decide) rfl ?_
  intro p e s m args below meth c s₁ B hml hv
  obtain ⟨rfl, hW, hV⟩ := hv
  have hts := atoms_spec (ws := wsX3_courierOfPlace) B.pre
  have F : kx_F p s m c cX3_courierOfPlace 1 RX3 _ wsX3_courierOfPlace G z0 := ⟨B.exec, B.bytes, hml, findClass_of_methodNamed B.named, hts, hV⟩
  have hx := B.exec; have hb := B.bytes; have hr := B.returns; have hlocks := B.notSynchronized
  have hS : va_S (kx_Ad z0) s.heap s.heap [] := va_S.rf
  have hl := lv_entry ([.int x]) (n := 1) (Nat.le_of_ble_eq_true rfl)
  rw [lg_entry_eq]
  generalize (lg_sl ([.int x]) ++ List.replicate (1 - (lg_sl ([.int x])).length) Slot.unset).toArray = ls at hl ⊢
  have hl : lv_has ls 1 [(0, .int x)] := hl
  refine lv_iload_n hx hb dX3_courierOfPlace_0 rfl (lv_at hl 0 rfl) ?_
  refine lv_iconst (v := 1) hx hb dX3_courierOfPlace_1 (by decide) ?_
  refine lv_iconst (v := 4) hx hb dX3_courierOfPlace_2 (by decide) ?_
  refine kx_cS (na := 3) F (c_X3_isWithin l G z0 ad nb sg x 1 4) gX3_courierOfPlace_X3_isWithin rfl (by decide +kernel) ⟨Nat.le_of_ble_eq_true rfl, Nat.le_of_ble_eq_true rfl⟩ hW hS (As := [.int x, .int 1, .int 4]) (rest := []) rfl hl.1 rfl (by decide) dX3_courierOfPlace_3 ⟨by first | exact Nat.le_of_ble_eq_true rfl | omega, by first | exact Nat.le_of_ble_eq_true rfl | omega⟩ (fun r9 sg9 H locs hq hW hS => ?_)
  obtain ⟨rfl, e9⟩ := hq
  rw [e9] at hW
  refine W.eq (g2 := F0 m 6 ls [.int (tw_b (tw_in x 1 4))]) rfl ?_
  refine lv_if_eq (tgt := 15) hx hb dX3_courierOfPlace_6 (by decide) (fun c_6 => ?_) (fun c_6 => ?_)
  · refine lv_iconst (v := (-1)) hx hb dX3_courierOfPlace_15 (by decide) ?_
    exact kx_ri F hr hlocks hW hS (by first | exact Nat.le_of_ble_eq_true rfl | omega) (by first | exact Nat.le_of_ble_eq_true rfl | omega) (⟨congrArg (fun z => some (Value.int z)) (by rw [tw_cour1, if_neg (by rw [tw_b_0 c_6]; decide)]), rfl⟩) dX3_courierOfPlace_16
  · refine lv_iload_n hx hb dX3_courierOfPlace_9 rfl (lv_at hl 0 rfl) ?_
    refine lv_iconst (v := 1) hx hb dX3_courierOfPlace_10 (by decide) ?_
    refine lv_isub hx hb dX3_courierOfPlace_11 ?_
    refine lv_goto (tgt := 16) hx hb dX3_courierOfPlace_12 (by decide) ?_
    exact kx_ri F hr hlocks hW hS (by first | exact Nat.le_of_ble_eq_true rfl | omega) (by first | exact Nat.le_of_ble_eq_true rfl | omega) (⟨congrArg (fun z => some (Value.int z)) (by rw [tw_cour1, if_pos (tw_b_1 c_6)]), rfl⟩) dX3_courierOfPlace_16

set_option maxHeartbeats 4000000 in
set_option maxRecDepth 100000 in
/-- the minutes between two places -/
theorem c_X3_minutesBetween (l : Launch) (G : kx_G) (z0 : Nat) (ad : kx_A) (nb : Nat) (sg : kx_S) (x y : Int32) : kx_M l yX3_minutesBetween wsX3_minutesBetween 2 42 0 0 G z0 ad nb sg [.int x, .int y] (fun r sg' => r = some (.int (tw_cmn x y)) ∧ sg' = sg) := by
  refine Met.ofW (cc := cX3_minutesBetween) (maxL := 4) (ret := (some .int)) (by decide) rfl ?_
  intro p e s m args below meth c s₁ B hml hv
  obtain ⟨rfl, hW, hV⟩ := hv
  have hts := atoms_spec (ws := wsX3_minutesBetween) B.pre
  have F : kx_F p s m c cX3_minutesBetween 4 RX3 _ wsX3_minutesBetween G z0 := ⟨B.exec, B.bytes, hml, findClass_of_methodNamed B.named, hts, hV⟩
  have hx := B.exec; have hb := B.bytes; have hr := B.returns; have hlocks := B.notSynchronized
  have hS : va_S (kx_Ad z0) s.heap s.heap [] := va_S.rf
  have hl := lv_entry ([.int x, .int y]) (n := 4) (Nat.le_of_ble_eq_true rfl)
  rw [lg_entry_eq]
  generalize (lg_sl ([.int x, .int y]) ++ List.replicate (4 - (lg_sl ([.int x, .int y])).length) Slot.unset).toArray = ls at hl ⊢
  have hl : lv_has ls 4 [(0, .int x), (1, .int y)] := hl
  refine lv_iload_n hx hb dX3_minutesBetween_0 rfl (lv_at hl 0 rfl) ?_
  refine kx_cS (na := 1) F (c_X3_kindOf l G z0 ad nb sg x) gX3_minutesBetween_X3_kindOf rfl (by decide +kernel) ⟨Nat.le_of_ble_eq_true rfl, Nat.le_of_ble_eq_true rfl⟩ hW hS (As := [.int x]) (rest := []) rfl hl.1 rfl (by decide) dX3_minutesBetween_1 ⟨by first | exact Nat.le_of_ble_eq_true rfl | omega, by first | exact Nat.le_of_ble_eq_true rfl | omega⟩ (fun r9 sg9 H locs hq hW hS => ?_)
  obtain ⟨rfl, e9⟩ := hq
  rw [e9] at hW
  refine W.eq (g2 := F0 m 4 ls [.int (tw_kind x)]) rfl ?_
  refine lv_istore_n (lv' := [(2, .int (tw_kind x)), (0, .int x), (1, .int y)]) hx hb dX3_minutesBetween_4 rfl hl (by decide) rfl (fun ls hl => ?_)
  refine lv_iload_n hx hb dX3_minutesBetween_5 rfl (lv_at hl 2 rfl) ?_
  refine kx_cS (na := 1) F (c_X3_kindOf l G z0 ad nb sg y) gX3_minutesBetween_X3_kindOf rfl (by decide +kernel) ⟨Nat.le_of_ble_eq_true rfl, Nat.le_of_ble_eq_true rfl⟩ hW hS (As := [.int y]) (rest := []) rfl hl.1 rfl (by decide) dX3_minutesBetween_6 ⟨by first | exact Nat.le_of_ble_eq_true rfl | omega, by first | exact Nat.le_of_ble_eq_true rfl | omega⟩ (fun r9 sg9 H locs hq hW hS => ?_)
  obtain ⟨rfl, e9⟩ := hq
  rw [e9] at hW
  refine W.eq (g2 := F0 m 9 ls [.int (tw_kind y)]) rfl ?_
  refine lv_istore_n (lv' := [(3, .int (tw_kind y)), (2, .int (tw_kind x)), (0, .int x), (1, .int y)]) hx hb dX3_minutesBetween_9 rfl hl (by decide) rfl (fun ls hl => ?_)
  refine lv_iload_n hx hb dX3_minutesBetween_10 rfl (lv_at hl 2 rfl) ?_
  refine lv_iload_n hx hb dX3_minutesBetween_11 rfl (lv_at hl 3 rfl) ?_
  refine lv_icmp_ne (tgt := 17) hx hb dX3_minutesBetween_12 (by decide) (fun c_12 => ?_) (fun c_12 => ?_)
  · refine lv_iload_n hx hb dX3_minutesBetween_17 rfl (lv_at hl 1 rfl) ?_
    refine lv_iconst (v := (-1)) hx hb dX3_minutesBetween_18 (by decide) ?_
    refine lv_icmp_eq (tgt := 27) hx hb dX3_minutesBetween_19 (by decide) (fun c_19 => ?_) (fun c_19 => ?_)
    · refine lv_ldc (v := 1000000) hx hb F.2.2.2.1 (hts (.constant RX3 221 1000000) (by decide +kernel)) dX3_minutesBetween_27 ?_
      exact kx_ri F hr hlocks hW hS (by first | exact Nat.le_of_ble_eq_true rfl | omega) (by first | exact Nat.le_of_ble_eq_true rfl | omega) (⟨congrArg (fun z => some (Value.int z)) (by rw [tw_cmn, if_neg c_12, if_pos c_19]), rfl⟩) dX3_minutesBetween_29
    · refine lv_iload_n hx hb dX3_minutesBetween_22 rfl (lv_at hl 0 rfl) ?_
      refine lv_iconst (v := (-1)) hx hb dX3_minutesBetween_23 (by decide) ?_
      refine lv_icmp_ne (tgt := 30) hx hb dX3_minutesBetween_24 (by decide) (fun c_24 => ?_) (fun c_24 => ?_)
      · have hin : vp_in (tw_kind x * 4 + tw_kind y) 16 := by
          rcases tw_kind_5 x with h1 | ⟨i, hi, h1⟩
          · exact absurd h1 c_19
          · rcases tw_kind_5 y with h2 | ⟨j, hj, h2⟩
            · exact absurd h2 c_24
            · rw [tw_kind_ix h1 h2 hi hj]
              exact vp_in_nI (by omega) (by decide)
        refine kx_min_ld (ic := 0) F hS (hl := by decide +kernel) (index := 222) dX3_minutesBetween_30 (fun tt hT => ?_)
        refine lv_iload_n hx hb dX3_minutesBetween_33 rfl (lv_at hl 1 rfl) ?_
        refine lv_iconst (v := 4) hx hb dX3_minutesBetween_34 (by decide) ?_
        refine lv_imul hx hb dX3_minutesBetween_35 ?_
        refine lv_iload_n hx hb dX3_minutesBetween_36 rfl (lv_at hl 0 rfl) ?_
        refine lv_iadd hx hb dX3_minutesBetween_37 ?_
        refine va_ti hx hb hT hS (v := .int (kx_min (tw_kind x * 4 + tw_kind y).toNatClampNeg)) hin rfl dX3_minutesBetween_38 ?_
        exact kx_ri F hr hlocks hW hS (by first | exact Nat.le_of_ble_eq_true rfl | omega) (by first | exact Nat.le_of_ble_eq_true rfl | omega) (⟨congrArg (fun z => some (Value.int z)) (by rw [tw_cmn, if_neg c_12, if_neg c_19, if_neg c_24]), rfl⟩) dX3_minutesBetween_39
      · refine lv_ldc (v := 1000000) hx hb F.2.2.2.1 (hts (.constant RX3 221 1000000) (by decide +kernel)) dX3_minutesBetween_27 ?_
        exact kx_ri F hr hlocks hW hS (by first | exact Nat.le_of_ble_eq_true rfl | omega) (by first | exact Nat.le_of_ble_eq_true rfl | omega) (⟨congrArg (fun z => some (Value.int z)) (by rw [tw_cmn, if_neg c_12, if_neg c_19, if_pos c_24]), rfl⟩) dX3_minutesBetween_29
  · refine lv_iconst (v := 0) hx hb dX3_minutesBetween_15 (by decide) ?_
    exact kx_ri F hr hlocks hW hS (by first | exact Nat.le_of_ble_eq_true rfl | omega) (by first | exact Nat.le_of_ble_eq_true rfl | omega) (⟨congrArg (fun z => some (Value.int z)) (by rw [tw_cmn, if_pos c_12]), rfl⟩) dX3_minutesBetween_16

set_option maxHeartbeats 4000000 in
set_option maxRecDepth 100000 in
/-- is the scan in the story? -/
theorem c_X0_isTrue (l : Launch) (G : kx_G) (z0 : Nat) (ad : kx_A) (nb : Nat) (sg : kx_S) (i : Nat) (hi : i < nb) (x : Int32) : kx_M l yX0_isTrue wsX0_isTrue 0 0 0 0 G z0 ad nb sg [.ref (ad 9 i), .int x] (fun r sg' => r = some (.int (tw_b (tw_tru (sg 9 i 7) x))) ∧ sg' = sg) := by
  refine Met.ofW (cc := cX0_isTrue) (maxL := 2) (ret := (some .boolean)) (by decide) rfl ?_
  intro p e s m args below meth c s₁ B hml hv
  obtain ⟨rfl, hW, hV⟩ := hv
  have hts := atoms_spec (ws := wsX0_isTrue) B.pre
  have F : kx_F p s m c cX0_isTrue 2 RX0 _ wsX0_isTrue G z0 := ⟨B.exec, B.bytes, hml, findClass_of_methodNamed B.named, hts, hV⟩
  have hx := B.exec; have hb := B.bytes; have hr := B.returns; have hlocks := B.notSynchronized
  have hS : va_S (kx_Ad z0) s.heap s.heap [] := va_S.rf
  have L_28 : Cond.fieldLink RX0 28 (TX0 7).1 (TX0 7).2.1 (TX0 7).2.2.1 ∈ wsX0_isTrue := by decide +kernel
  have inX0 : ∀ w ∈ u_ws RX0 TX0 11, w ∈ wsX0_isTrue := by decide +kernel
  have hl := lv_entry ([.ref (ad 9 i), .int x]) (n := 2) (Nat.le_of_ble_eq_true rfl)
  rw [lg_entry_eq]
  generalize (lg_sl ([.ref (ad 9 i), .int x]) ++ List.replicate (2 - (lg_sl ([.ref (ad 9 i), .int x])).length) Slot.unset).toArray = ls at hl ⊢
  have hl : lv_has ls 2 [(0, .ref (ad 9 i)), (1, .int x)] := hl
  refine lv_aload_n hx hb dX0_isTrue_0 rfl (lv_at hl 0 rfl) ?_
  refine kx_g F inX0 hW 9 i hi rfl rfl 7 (by decide) L_28 (v := .int (sg 9 i 7)) rfl dX0_isTrue_1 ?_
  refine lv_iload_n hx hb dX0_isTrue_4 rfl (lv_at hl 1 rfl) ?_
  refine lv_ishr hx hb dX0_isTrue_5 ?_
  refine lv_iconst (v := 1) hx hb dX0_isTrue_6 (by decide) ?_
  refine lv_iand hx hb dX0_isTrue_7 ?_
  refine lv_iconst (v := 1) hx hb dX0_isTrue_8 (by decide) ?_
  refine lv_icmp_ne (tgt := 16) hx hb dX0_isTrue_9 (by decide) (fun c_9 => ?_) (fun c_9 => ?_)
  · refine lv_iconst (v := 0) hx hb dX0_isTrue_16 (by decide) ?_
    exact kx_rz F hr hlocks hW hS (by first | exact Nat.le_of_ble_eq_true rfl | omega) (by first | exact Nat.le_of_ble_eq_true rfl | omega) (by rfl) (⟨congrArg (fun z => some (Value.int z)) (tw_b_f (decide_eq_false c_9)), rfl⟩) dX0_isTrue_17
  · refine lv_iconst (v := 1) hx hb dX0_isTrue_12 (by decide) ?_
    refine lv_goto (tgt := 17) hx hb dX0_isTrue_13 (by decide) ?_
    exact kx_rz F hr hlocks hW hS (by first | exact Nat.le_of_ble_eq_true rfl | omega) (by first | exact Nat.le_of_ble_eq_true rfl | omega) (by rfl) (⟨congrArg (fun z => some (Value.int z)) (tw_b_t (decide_eq_true c_9)), rfl⟩) dX0_isTrue_17

set_option maxHeartbeats 4000000 in
set_option maxRecDepth 100000 in
/-- can the scan k follow the scan a? -/
theorem c_X0_canFollow (l : Launch) (G : kx_G) (z0 : Nat) (ad : kx_A) (nb : Nat) (sg : kx_S) (i : Nat) (hi : i < nb) (a : Int32) (k : Nat) (hk : k < 12) : kx_M l yX0_canFollow wsX0_canFollow 0 0 0 0 G z0 ad nb sg [.ref (ad 9 i), .int a, .int (nI k)] (fun r sg' => r = some (.int (tw_b (tw_tru (sg 13 i k) (if a = -1 then 12 else a)))) ∧ sg' = sg) := by
  refine Met.ofW (cc := cX0_canFollow) (maxL := 4) (ret := (some .boolean)) (by decide) rfl ?_
  intro p e s m args below meth c s₁ B hml hv
  obtain ⟨rfl, hW, hV⟩ := hv
  have hts := atoms_spec (ws := wsX0_canFollow) B.pre
  have F : kx_F p s m c cX0_canFollow 4 RX0 _ wsX0_canFollow G z0 := ⟨B.exec, B.bytes, hml, findClass_of_methodNamed B.named, hts, hV⟩
  have hx := B.exec; have hb := B.bytes; have hr := B.returns; have hlocks := B.notSynchronized
  have hS : va_S (kx_Ad z0) s.heap s.heap [] := va_S.rf
  have L_21 : Cond.fieldLink RX0 21 (TX0 5).1 (TX0 5).2.1 (TX0 5).2.2.1 ∈ wsX0_canFollow := by decide +kernel
  have inX0 : ∀ w ∈ u_ws RX0 TX0 11, w ∈ wsX0_canFollow := by decide +kernel
  have hl := lv_entry ([.ref (ad 9 i), .int a, .int (nI k)]) (n := 4) (Nat.le_of_ble_eq_true rfl)
  rw [lg_entry_eq]
  generalize (lg_sl ([.ref (ad 9 i), .int a, .int (nI k)]) ++ List.replicate (4 - (lg_sl ([.ref (ad 9 i), .int a, .int (nI k)])).length) Slot.unset).toArray = ls at hl ⊢
  have hl : lv_has ls 4 [(0, .ref (ad 9 i)), (1, .int a), (2, .int (nI k))] := hl
  refine lv_iload_n hx hb dX0_canFollow_0 rfl (lv_at hl 1 rfl) ?_
  refine lv_iconst (v := (-1)) hx hb dX0_canFollow_1 (by decide) ?_
  refine lv_icmp_ne (tgt := 10) hx hb dX0_canFollow_2 (by decide) (fun c_2 => ?_) (fun c_2 => ?_)
  · refine lv_iload_n hx hb dX0_canFollow_10 rfl (lv_at hl 1 rfl) ?_
    refine lv_istore_n (lv' := [(3, .int a), (0, .ref (ad 9 i)), (1, .int a), (2, .int (nI k))]) hx hb dX0_canFollow_11 rfl hl (by decide) rfl (fun ls hl => ?_)
    refine lv_aload_n hx hb dX0_canFollow_12 rfl (lv_at hl 1 rfl) ?_
    refine kx_g F inX0 hW 9 i hi rfl rfl 5 (by decide) L_21 (v := .ref (ad 13 i)) rfl dX0_canFollow_13 ?_
    refine lv_iload_n hx hb dX0_canFollow_16 rfl (lv_at hl 3 rfl) ?_
    refine kx_ald F hW 13 i hi rfl k hk (by decide) (v := sg 13 i k) rfl dX0_canFollow_17 ?_
    refine lv_iload_n hx hb dX0_canFollow_18 rfl (lv_at hl 0 rfl) ?_
    refine lv_ishr hx hb dX0_canFollow_19 ?_
    refine lv_iconst (v := 1) hx hb dX0_canFollow_20 (by decide) ?_
    refine lv_iand hx hb dX0_canFollow_21 ?_
    refine lv_iconst (v := 1) hx hb dX0_canFollow_22 (by decide) ?_
    refine lv_icmp_ne (tgt := 30) hx hb dX0_canFollow_23 (by decide) (fun c_23 => ?_) (fun c_23 => ?_)
    · refine lv_iconst (v := 0) hx hb dX0_canFollow_30 (by decide) ?_
      exact kx_rz F hr hlocks hW hS (by first | exact Nat.le_of_ble_eq_true rfl | omega) (by first | exact Nat.le_of_ble_eq_true rfl | omega) (by rfl) (⟨congrArg (fun z => some (Value.int z)) (by rw [if_neg c_2]; exact tw_b_f (decide_eq_false c_23)), rfl⟩) dX0_canFollow_31
    · refine lv_iconst (v := 1) hx hb dX0_canFollow_26 (by decide) ?_
      refine lv_goto (tgt := 31) hx hb dX0_canFollow_27 (by decide) ?_
      exact kx_rz F hr hlocks hW hS (by first | exact Nat.le_of_ble_eq_true rfl | omega) (by first | exact Nat.le_of_ble_eq_true rfl | omega) (by rfl) (⟨congrArg (fun z => some (Value.int z)) (by rw [if_neg c_2]; exact tw_b_t (decide_eq_true c_23)), rfl⟩) dX0_canFollow_31
  · refine lv_bipush (v := 12) hx hb dX0_canFollow_5 (by decide) ?_
    refine lv_goto (tgt := 11) hx hb dX0_canFollow_7 (by decide) ?_
    refine lv_istore_n (lv' := [(3, .int 12), (0, .ref (ad 9 i)), (1, .int a), (2, .int (nI k))]) hx hb dX0_canFollow_11 rfl hl (by decide) rfl (fun ls hl => ?_)
    refine lv_aload_n hx hb dX0_canFollow_12 rfl (lv_at hl 1 rfl) ?_
    refine kx_g F inX0 hW 9 i hi rfl rfl 5 (by decide) L_21 (v := .ref (ad 13 i)) rfl dX0_canFollow_13 ?_
    refine lv_iload_n hx hb dX0_canFollow_16 rfl (lv_at hl 3 rfl) ?_
    refine kx_ald F hW 13 i hi rfl k hk (by decide) (v := sg 13 i k) rfl dX0_canFollow_17 ?_
    refine lv_iload_n hx hb dX0_canFollow_18 rfl (lv_at hl 0 rfl) ?_
    refine lv_ishr hx hb dX0_canFollow_19 ?_
    refine lv_iconst (v := 1) hx hb dX0_canFollow_20 (by decide) ?_
    refine lv_iand hx hb dX0_canFollow_21 ?_
    refine lv_iconst (v := 1) hx hb dX0_canFollow_22 (by decide) ?_
    refine lv_icmp_ne (tgt := 30) hx hb dX0_canFollow_23 (by decide) (fun c_23 => ?_) (fun c_23 => ?_)
    · refine lv_iconst (v := 0) hx hb dX0_canFollow_30 (by decide) ?_
      exact kx_rz F hr hlocks hW hS (by first | exact Nat.le_of_ble_eq_true rfl | omega) (by first | exact Nat.le_of_ble_eq_true rfl | omega) (by rfl) (⟨congrArg (fun z => some (Value.int z)) (by rw [if_pos c_2]; exact tw_b_f (decide_eq_false c_23)), rfl⟩) dX0_canFollow_31
    · refine lv_iconst (v := 1) hx hb dX0_canFollow_26 (by decide) ?_
      refine lv_goto (tgt := 31) hx hb dX0_canFollow_27 (by decide) ?_
      exact kx_rz F hr hlocks hW hS (by first | exact Nat.le_of_ble_eq_true rfl | omega) (by first | exact Nat.le_of_ble_eq_true rfl | omega) (by rfl) (⟨congrArg (fun z => some (Value.int z)) (by rw [if_pos c_2]; exact tw_b_t (decide_eq_true c_23)), rfl⟩) dX0_canFollow_31

set_option maxHeartbeats 4000000 in
set_option maxRecDepth 100000 in
/-- where the story tells the box last -/
theorem c_X0_whereabouts (l : Launch) (G : kx_G) (z0 : Nat) (ad : kx_A) (nb : Nat) (sg : kx_S) (i : Nat) (hi : i < nb) (n : Nat) (hn : sg 9 i 6 = nI n) (h12 : n ≤ 12) : kx_M l yX0_whereabouts wsX0_whereabouts 1 21 0 0 G z0 ad nb sg [.ref (ad 9 i)] (fun r sg' => r = some (.int (tw_last (sg 9 i 7) (sg 11 i) n)) ∧ sg' = sg) := by
  refine Met.ofW (cc := cX0_whereabouts) (maxL := 2) (ret := (some .int)) (by decide) rfl ?_
  intro p e s m args below meth c s₁ B hml hv
  obtain ⟨rfl, hW, hV⟩ := hv
  have hts := atoms_spec (ws := wsX0_whereabouts) B.pre
  have F : kx_F p s m c cX0_whereabouts 2 RX0 _ wsX0_whereabouts G z0 := ⟨B.exec, B.bytes, hml, findClass_of_methodNamed B.named, hts, hV⟩
  have hx := B.exec; have hb := B.bytes; have hr := B.returns; have hlocks := B.notSynchronized
  have hS : va_S (kx_Ad z0) s.heap s.heap [] := va_S.rf
  have L_15 : Cond.fieldLink RX0 15 (TX0 3).1 (TX0 3).2.1 (TX0 3).2.2.1 ∈ wsX0_whereabouts := by decide +kernel
  have L_24 : Cond.fieldLink RX0 24 (TX0 6).1 (TX0 6).2.1 (TX0 6).2.2.1 ∈ wsX0_whereabouts := by decide +kernel
  have inX0 : ∀ w ∈ u_ws RX0 TX0 11, w ∈ wsX0_whereabouts := by decide +kernel
  have hl := lv_entry ([.ref (ad 9 i)]) (n := 2) (Nat.le_of_ble_eq_true rfl)
  rw [lg_entry_eq]
  generalize (lg_sl ([.ref (ad 9 i)]) ++ List.replicate (2 - (lg_sl ([.ref (ad 9 i)])).length) Slot.unset).toArray = ls at hl ⊢
  have hl : lv_has ls 2 [(0, .ref (ad 9 i))] := hl
  have loop : ∀ (k : Nat), k ≤ n → tw_last (sg 9 i 7) (sg 11 i) n = tw_last (sg 9 i 7) (sg 11 i) k → ∀ (H : Heap) (locs : List Loc) (ls : Array Slot), kx_Wd G z0 ad nb sg H → va_S (kx_Ad z0) s.heap H locs → lv_has ls 2 [(1, .int (nI k - 1)), (0, .ref (ad 9 i))] → W p l e (headSpec wsX0_whereabouts { frames := 1, cells := 0, slots := 0, locals := 21 }).room s m ([.ref (ad 9 i)] : List Value).toArray below meth c H locs 0 0 (MQ below (kx_Q G z0 ad nb (fun r sg' => r = some (.int (tw_last (sg 9 i 7) (sg 11 i) n)) ∧ sg' = sg)) ([.ref (ad 9 i)] : List Value).toArray s 0 0 (kx_Ad z0)) (F0 m 7 ls []) := by
    intro k
    induction k with
    | zero =>
      intro  hk hL H locs ls hW hS hl
      refine lv_iload_n hx hb dX0_whereabouts_7 rfl (lv_at hl 0 rfl) ?_
      refine lv_if_lt (tgt := 32) hx hb dX0_whereabouts_8 (by decide) (fun c_8 => ?_) (fun c_8 => ?_)
      · refine lv_iconst (v := 0) hx hb dX0_whereabouts_32 (by decide) ?_
        exact kx_ri F hr hlocks hW hS (by first | exact Nat.le_of_ble_eq_true rfl | omega) (by first | exact Nat.le_of_ble_eq_true rfl | omega) (⟨congrArg (fun z => some (Value.int z)) (by rw [hL]; rfl), rfl⟩) dX0_whereabouts_33
      · exact absurd (by decide) c_8
    | succ k ih =>
      intro  hk hL H locs ls hW hS hl
      rw [tw_m1] at hl
      refine lv_iload_n hx hb dX0_whereabouts_7 rfl (lv_at hl 0 rfl) ?_
      refine lv_if_lt (tgt := 32) hx hb dX0_whereabouts_8 (by decide) (fun c_8 => ?_) (fun c_8 => ?_)
      · exact absurd c_8 (tw_neg k (by omega))
      · refine lv_aload_n hx hb dX0_whereabouts_11 rfl (lv_at hl 1 rfl) ?_
        refine lv_iload_n hx hb dX0_whereabouts_12 rfl (lv_at hl 0 rfl) ?_
        refine kx_cV (na := 1) F (q := 9) (n := i) (c_X0_isTrue l G z0 ad nb sg i hi (nI k)) gX0_whereabouts_X0_isTrue rfl (by decide +kernel) ⟨Nat.le_of_ble_eq_true rfl, Nat.le_of_ble_eq_true rfl⟩ hW hS hi rfl rfl (As := [.int (nI k)]) (rest := []) rfl hl.1 rfl (by decide) dX0_whereabouts_13 ⟨by first | exact Nat.le_of_ble_eq_true rfl | omega, by first | exact Nat.le_of_ble_eq_true rfl | omega⟩ (fun r9 sg9 H locs hq hW hS => ?_)
        obtain ⟨rfl, e9⟩ := hq
        rw [e9] at hW
        refine W.eq (g2 := F0 m 16 ls [.int (tw_b (tw_tru (sg 9 i 7) (nI k)))]) rfl ?_
        refine lv_if_eq (tgt := 26) hx hb dX0_whereabouts_16 (by decide) (fun c_16 => ?_) (fun c_16 => ?_)
        · refine lv_iinc (v := nI k - 1) (lv' := [(1, .int (nI k - 1)), (0, .ref (ad 9 i))]) hx hb dX0_whereabouts_26 hl (k := 0) rfl (by rw [Int32.sub_eq_add_neg]; rfl) (by decide) rfl (fun ls hl => ?_)
          refine lv_goto (tgt := 7) hx hb dX0_whereabouts_29 (by decide) ?_
          exact ih (by omega) (hL.trans (tw_last_f (tw_b_0 c_16))) H locs ls hW hS hl
        · refine lv_aload_n hx hb dX0_whereabouts_19 rfl (lv_at hl 1 rfl) ?_
          refine kx_g F inX0 hW 9 i hi rfl rfl 3 (by decide) L_15 (v := .ref (ad 11 i)) rfl dX0_whereabouts_20 ?_
          refine lv_iload_n hx hb dX0_whereabouts_23 rfl (lv_at hl 0 rfl) ?_
          refine kx_ald F hW 11 i hi rfl k (by omega) (by decide) (v := sg 11 i k) rfl dX0_whereabouts_24 ?_
          exact kx_ri F hr hlocks hW hS (by first | exact Nat.le_of_ble_eq_true rfl | omega) (by first | exact Nat.le_of_ble_eq_true rfl | omega) (⟨congrArg (fun z => some (Value.int z)) (by rw [hL, tw_last_t (tw_b_1 c_16)]), rfl⟩) dX0_whereabouts_25
  refine lv_aload_n hx hb dX0_whereabouts_0 rfl (lv_at hl 0 rfl) ?_
  refine kx_g F inX0 hW 9 i hi rfl rfl 6 (by decide) L_24 (v := .int (nI n)) (congrArg (fun z => some (Value.int z)) hn) dX0_whereabouts_1 ?_
  refine lv_iconst (v := 1) hx hb dX0_whereabouts_4 (by decide) ?_
  refine lv_isub hx hb dX0_whereabouts_5 ?_
  refine lv_istore_n (lv' := [(1, .int ((nI n) - 1)), (0, .ref (ad 9 i))]) hx hb dX0_whereabouts_6 rfl hl (by decide) rfl (fun ls hl => ?_)
  exact loop n (Nat.le_refl n) rfl _ _ ls hW hS hl

set_option maxHeartbeats 4000000 in
set_option maxRecDepth 100000 in
/-- is it delivered? -/
theorem c_X0_isDelivered (l : Launch) (G : kx_G) (z0 : Nat) (ad : kx_A) (nb : Nat) (sg : kx_S) (i : Nat) (hi : i < nb) (n : Nat) (hn : sg 9 i 6 = nI n) (h12 : n ≤ 12) : kx_M l yX0_isDelivered wsX0_isDelivered 2 42 0 0 G z0 ad nb sg [.ref (ad 9 i)] (fun r sg' => r = some (.int (tw_b (decide (tw_last (sg 9 i 7) (sg 11 i) n = 30)))) ∧ sg' = sg) := by
  refine Met.ofW (cc := cX0_isDelivered) (maxL := 1) (ret := (some .boolean)) (by decide) rfl ?_
  intro p e s m args below meth c s₁ B hml hv
  obtain ⟨rfl, hW, hV⟩ := hv
  have hts := atoms_spec (ws := wsX0_isDelivered) B.pre
  have F : kx_F p s m c cX0_isDelivered 1 RX0 _ wsX0_isDelivered G z0 := ⟨B.exec, B.bytes, hml, findClass_of_methodNamed B.named, hts, hV⟩
  have hx := B.exec; have hb := B.bytes; have hr := B.returns; have hlocks := B.notSynchronized
  have hS : va_S (kx_Ad z0) s.heap s.heap [] := va_S.rf
  have hl := lv_entry ([.ref (ad 9 i)]) (n := 1) (Nat.le_of_ble_eq_true rfl)
  rw [lg_entry_eq]
  generalize (lg_sl ([.ref (ad 9 i)]) ++ List.replicate (1 - (lg_sl ([.ref (ad 9 i)])).length) Slot.unset).toArray = ls at hl ⊢
  have hl : lv_has ls 1 [(0, .ref (ad 9 i))] := hl
  refine lv_aload_n hx hb dX0_isDelivered_0 rfl (lv_at hl 0 rfl) ?_
  refine kx_cV (na := 0) F (q := 9) (n := i) (c_X0_whereabouts l G z0 ad nb sg i hi n hn h12) gX0_isDelivered_X0_whereabouts rfl (by decide +kernel) ⟨Nat.le_of_ble_eq_true rfl, Nat.le_of_ble_eq_true rfl⟩ hW hS hi rfl rfl (As := []) (rest := []) rfl hl.1 rfl (by decide) dX0_isDelivered_1 ⟨by first | exact Nat.le_of_ble_eq_true rfl | omega, by first | exact Nat.le_of_ble_eq_true rfl | omega⟩ (fun r9 sg9 H locs hq hW hS => ?_)
  obtain ⟨rfl, e9⟩ := hq
  rw [e9] at hW
  refine W.eq (g2 := F0 m 4 ls [.int (tw_last (sg 9 i 7) (sg 11 i) n)]) rfl ?_
  refine lv_bipush (v := 30) hx hb dX0_isDelivered_4 (by decide) ?_
  refine lv_icmp_ne (tgt := 13) hx hb dX0_isDelivered_6 (by decide) (fun c_6 => ?_) (fun c_6 => ?_)
  · refine lv_iconst (v := 0) hx hb dX0_isDelivered_13 (by decide) ?_
    exact kx_rz F hr hlocks hW hS (by first | exact Nat.le_of_ble_eq_true rfl | omega) (by first | exact Nat.le_of_ble_eq_true rfl | omega) (by rfl) (⟨congrArg (fun z => some (Value.int z)) (tw_b_f (decide_eq_false c_6)), rfl⟩) dX0_isDelivered_14
  · refine lv_iconst (v := 1) hx hb dX0_isDelivered_9 (by decide) ?_
    refine lv_goto (tgt := 14) hx hb dX0_isDelivered_10 (by decide) ?_
    exact kx_rz F hr hlocks hW hS (by first | exact Nat.le_of_ble_eq_true rfl | omega) (by first | exact Nat.le_of_ble_eq_true rfl | omega) (by rfl) (⟨congrArg (fun z => some (Value.int z)) (tw_b_t (decide_eq_true c_6)), rfl⟩) dX0_isDelivered_14

set_option maxHeartbeats 4000000 in
set_option maxRecDepth 100000 in
/-- by whom it was brought -/
theorem c_X0_deliverer (l : Launch) (G : kx_G) (z0 : Nat) (ad : kx_A) (nb : Nat) (sg : kx_S) (i : Nat) (hi : i < nb) (n : Nat) (hn : sg 9 i 6 = nI n) (h12 : n ≤ 12) : kx_M l yX0_deliverer wsX0_deliverer 2 42 0 0 G z0 ad nb sg [.ref (ad 9 i)] (fun r sg' => r = some (.int (tw_cour (sg 9 i 7) (sg 11 i) n)) ∧ sg' = sg) := by
  refine Met.ofW (cc := cX0_deliverer) (maxL := 3) (ret := (some .int)) (by decide) rfl ?_
  intro p e s m args below meth c s₁ B hml hv
  obtain ⟨rfl, hW, hV⟩ := hv
  have hts := atoms_spec (ws := wsX0_deliverer) B.pre
  have F : kx_F p s m c cX0_deliverer 3 RX0 _ wsX0_deliverer G z0 := ⟨B.exec, B.bytes, hml, findClass_of_methodNamed B.named, hts, hV⟩
  have hx := B.exec; have hb := B.bytes; have hr := B.returns; have hlocks := B.notSynchronized
  have hS : va_S (kx_Ad z0) s.heap s.heap [] := va_S.rf
  have L_15 : Cond.fieldLink RX0 15 (TX0 3).1 (TX0 3).2.1 (TX0 3).2.2.1 ∈ wsX0_deliverer := by decide +kernel
  have L_24 : Cond.fieldLink RX0 24 (TX0 6).1 (TX0 6).2.1 (TX0 6).2.2.1 ∈ wsX0_deliverer := by decide +kernel
  have inX0 : ∀ w ∈ u_ws RX0 TX0 11, w ∈ wsX0_deliverer := by decide +kernel
  have hl := lv_entry ([.ref (ad 9 i)]) (n := 3) (Nat.le_of_ble_eq_true rfl)
  rw [lg_entry_eq]
  generalize (lg_sl ([.ref (ad 9 i)]) ++ List.replicate (3 - (lg_sl ([.ref (ad 9 i)])).length) Slot.unset).toArray = ls at hl ⊢
  have hl : lv_has ls 3 [(0, .ref (ad 9 i))] := hl
  have loop : ∀ (k : Nat), k ≤ n → tw_cour (sg 9 i 7) (sg 11 i) n = tw_cour (sg 9 i 7) (sg 11 i) k → ∀ (H : Heap) (locs : List Loc) (ls : Array Slot), kx_Wd G z0 ad nb sg H → va_S (kx_Ad z0) s.heap H locs → lv_has ls 3 [(1, .int (nI k - 1)), (0, .ref (ad 9 i))] → W p l e (headSpec wsX0_deliverer { frames := 2, cells := 0, slots := 0, locals := 42 }).room s m ([.ref (ad 9 i)] : List Value).toArray below meth c H locs 0 0 (MQ below (kx_Q G z0 ad nb (fun r sg' => r = some (.int (tw_cour (sg 9 i 7) (sg 11 i) n)) ∧ sg' = sg)) ([.ref (ad 9 i)] : List Value).toArray s 0 0 (kx_Ad z0)) (F0 m 7 ls []) := by
    intro k
    induction k with
    | zero =>
      intro  hk hL H locs ls hW hS hl
      refine lv_iload_n hx hb dX0_deliverer_7 rfl (lv_at hl 0 rfl) ?_
      refine lv_if_lt (tgt := 42) hx hb dX0_deliverer_8 (by decide) (fun c_8 => ?_) (fun c_8 => ?_)
      · refine lv_iconst (v := (-1)) hx hb dX0_deliverer_42 (by decide) ?_
        exact kx_ri F hr hlocks hW hS (by first | exact Nat.le_of_ble_eq_true rfl | omega) (by first | exact Nat.le_of_ble_eq_true rfl | omega) (⟨congrArg (fun z => some (Value.int z)) (by rw [hL]; rfl), rfl⟩) dX0_deliverer_43
      · exact absurd (by decide) c_8
    | succ k ih =>
      intro  hk hL H locs ls hW hS hl
      rw [tw_m1] at hl
      refine lv_iload_n hx hb dX0_deliverer_7 rfl (lv_at hl 0 rfl) ?_
      refine lv_if_lt (tgt := 42) hx hb dX0_deliverer_8 (by decide) (fun c_8 => ?_) (fun c_8 => ?_)
      · exact absurd c_8 (tw_neg k (by omega))
      · refine lv_aload_n hx hb dX0_deliverer_11 rfl (lv_at hl 1 rfl) ?_
        refine kx_g F inX0 hW 9 i hi rfl rfl 3 (by decide) L_15 (v := .ref (ad 11 i)) rfl dX0_deliverer_12 ?_
        refine lv_iload_n hx hb dX0_deliverer_15 rfl (lv_at hl 0 rfl) ?_
        refine kx_ald F hW 11 i hi rfl k (by omega) (by decide) (v := sg 11 i k) rfl dX0_deliverer_16 ?_
        refine kx_cN (na := 1) F (c_X3_courierOfPlace l G z0 ad nb sg (sg 11 i k)) gX0_deliverer_X3_courierOfPlace_n71 (by decide +kernel) (by decide +kernel) (host := "Whichbox") (by decide +kernel) rfl (by decide +kernel) ⟨Nat.le_of_ble_eq_true rfl, Nat.le_of_ble_eq_true rfl⟩ hW hS (As := [.int (sg 11 i k)]) (rest := []) rfl hl.1 rfl (by decide) dX0_deliverer_17 ⟨by first | exact Nat.le_of_ble_eq_true rfl | omega, by first | exact Nat.le_of_ble_eq_true rfl | omega⟩ (fun r9 sg9 H locs hq hW hS => ?_)
        obtain ⟨rfl, e9⟩ := hq
        rw [e9] at hW
        refine W.eq (g2 := F0 m 20 ls [.int (tw_cour1 (sg 11 i k))]) rfl ?_
        refine lv_istore_n (lv' := [(2, .int (tw_cour1 (sg 11 i k))), (1, .int (nI k)), (0, .ref (ad 9 i))]) hx hb dX0_deliverer_20 rfl hl (by decide) rfl (fun ls hl => ?_)
        refine lv_aload_n hx hb dX0_deliverer_21 rfl (lv_at hl 2 rfl) ?_
        refine lv_iload_n hx hb dX0_deliverer_22 rfl (lv_at hl 1 rfl) ?_
        refine kx_cV (na := 1) F (q := 9) (n := i) (c_X0_isTrue l G z0 ad nb sg i hi (nI k)) gX0_deliverer_X0_isTrue rfl (by decide +kernel) ⟨Nat.le_of_ble_eq_true rfl, Nat.le_of_ble_eq_true rfl⟩ hW hS hi rfl rfl (As := [.int (nI k)]) (rest := []) rfl hl.1 rfl (by decide) dX0_deliverer_23 ⟨by first | exact Nat.le_of_ble_eq_true rfl | omega, by first | exact Nat.le_of_ble_eq_true rfl | omega⟩ (fun r9 sg9 H locs hq hW hS => ?_)
        obtain ⟨rfl, e9⟩ := hq
        rw [e9] at hW
        refine W.eq (g2 := F0 m 26 ls [.int (tw_b (tw_tru (sg 9 i 7) (nI k)))]) rfl ?_
        refine lv_if_eq (tgt := 36) hx hb dX0_deliverer_26 (by decide) (fun c_26 => ?_) (fun c_26 => ?_)
        · refine lv_iinc (v := nI k - 1) (lv' := [(1, .int (nI k - 1)), (2, .int (tw_cour1 (sg 11 i k))), (0, .ref (ad 9 i))]) hx hb dX0_deliverer_36 hl (k := 1) rfl (by rw [Int32.sub_eq_add_neg]; rfl) (by decide) rfl (fun ls hl => ?_)
          refine lv_goto (tgt := 7) hx hb dX0_deliverer_39 (by decide) ?_
          exact ih (by omega) (hL.trans (tw_cour_f1 (tw_b_0 c_26))) H locs ls hW hS (lv_sub hl [0, 2] rfl)
        · refine lv_iload_n hx hb dX0_deliverer_29 rfl (lv_at hl 0 rfl) ?_
          refine lv_iconst (v := (-1)) hx hb dX0_deliverer_30 (by decide) ?_
          refine lv_icmp_eq (tgt := 36) hx hb dX0_deliverer_31 (by decide) (fun c_31 => ?_) (fun c_31 => ?_)
          · refine lv_iinc (v := nI k - 1) (lv' := [(1, .int (nI k - 1)), (2, .int (tw_cour1 (sg 11 i k))), (0, .ref (ad 9 i))]) hx hb dX0_deliverer_36 hl (k := 1) rfl (by rw [Int32.sub_eq_add_neg]; rfl) (by decide) rfl (fun ls hl => ?_)
            refine lv_goto (tgt := 7) hx hb dX0_deliverer_39 (by decide) ?_
            exact ih (by omega) (hL.trans (tw_cour_f2 c_31)) H locs ls hW hS (lv_sub hl [0, 2] rfl)
          · refine lv_iload_n hx hb dX0_deliverer_34 rfl (lv_at hl 0 rfl) ?_
            exact kx_ri F hr hlocks hW hS (by first | exact Nat.le_of_ble_eq_true rfl | omega) (by first | exact Nat.le_of_ble_eq_true rfl | omega) (⟨congrArg (fun z => some (Value.int z)) (by rw [hL, tw_cour_t (tw_b_1 c_26) c_31]), rfl⟩) dX0_deliverer_35
  refine lv_aload_n hx hb dX0_deliverer_0 rfl (lv_at hl 0 rfl) ?_
  refine kx_g F inX0 hW 9 i hi rfl rfl 6 (by decide) L_24 (v := .int (nI n)) (congrArg (fun z => some (Value.int z)) hn) dX0_deliverer_1 ?_
  refine lv_iconst (v := 1) hx hb dX0_deliverer_4 (by decide) ?_
  refine lv_isub hx hb dX0_deliverer_5 ?_
  refine lv_istore_n (lv' := [(1, .int ((nI n) - 1)), (0, .ref (ad 9 i))]) hx hb dX0_deliverer_6 rfl hl (by decide) rfl (fun ls hl => ?_)
  exact loop n (Nat.le_refl n) rfl _ _ ls hW hS hl

set_option maxHeartbeats 4000000 in
set_option maxRecDepth 100000 in
/-- since when it is told there -/
theorem c_X0_thereSince (l : Launch) (G : kx_G) (z0 : Nat) (ad : kx_A) (nb : Nat) (sg : kx_S) (i : Nat) (hi : i < nb) (n : Nat) (hn : sg 9 i 6 = nI n) (h12 : n ≤ 12) : kx_M l yX0_thereSince wsX0_thereSince 2 42 0 0 G z0 ad nb sg [.ref (ad 9 i)] (fun r sg' => r = some (.int (tw_since (sg 9 i 7) (sg 11 i) (sg 10 i) (tw_last (sg 9 i 7) (sg 11 i) n) n 0)) ∧ sg' = sg) := by
  refine Met.ofW (cc := cX0_thereSince) (maxL := 4) (ret := (some .int)) (by decide) rfl ?_
  intro p e s m args below meth c s₁ B hml hv
  obtain ⟨rfl, hW, hV⟩ := hv
  have hts := atoms_spec (ws := wsX0_thereSince) B.pre
  have F : kx_F p s m c cX0_thereSince 4 RX0 _ wsX0_thereSince G z0 := ⟨B.exec, B.bytes, hml, findClass_of_methodNamed B.named, hts, hV⟩
  have hx := B.exec; have hb := B.bytes; have hr := B.returns; have hlocks := B.notSynchronized
  have hS : va_S (kx_Ad z0) s.heap s.heap [] := va_S.rf
  have L_15 : Cond.fieldLink RX0 15 (TX0 3).1 (TX0 3).2.1 (TX0 3).2.2.1 ∈ wsX0_thereSince := by decide +kernel
  have L_24 : Cond.fieldLink RX0 24 (TX0 6).1 (TX0 6).2.1 (TX0 6).2.2.1 ∈ wsX0_thereSince := by decide +kernel
  have L_9 : Cond.fieldLink RX0 9 (TX0 2).1 (TX0 2).2.1 (TX0 2).2.2.1 ∈ wsX0_thereSince := by decide +kernel
  have inX0 : ∀ w ∈ u_ws RX0 TX0 11, w ∈ wsX0_thereSince := by decide +kernel
  have hl := lv_entry ([.ref (ad 9 i)]) (n := 4) (Nat.le_of_ble_eq_true rfl)
  rw [lg_entry_eq]
  generalize (lg_sl ([.ref (ad 9 i)]) ++ List.replicate (4 - (lg_sl ([.ref (ad 9 i)])).length) Slot.unset).toArray = ls at hl ⊢
  have hl : lv_has ls 4 [(0, .ref (ad 9 i))] := hl
  have loop : ∀ (k : Nat) (z : Int32), k ≤ n → tw_since (sg 9 i 7) (sg 11 i) (sg 10 i) (tw_last (sg 9 i 7) (sg 11 i) n) n 0 = tw_since (sg 9 i 7) (sg 11 i) (sg 10 i) (tw_last (sg 9 i 7) (sg 11 i) n) k z → ∀ (H : Heap) (locs : List Loc) (ls : Array Slot), kx_Wd G z0 ad nb sg H → va_S (kx_Ad z0) s.heap H locs → lv_has ls 4 [(3, .int (nI k - 1)), (2, .int z), (1, .int (tw_last (sg 9 i 7) (sg 11 i) n)), (0, .ref (ad 9 i))] → W p l e (headSpec wsX0_thereSince { frames := 2, cells := 0, slots := 0, locals := 42 }).room s m ([.ref (ad 9 i)] : List Value).toArray below meth c H locs 0 0 (MQ below (kx_Q G z0 ad nb (fun r sg' => r = some (.int (tw_since (sg 9 i 7) (sg 11 i) (sg 10 i) (tw_last (sg 9 i 7) (sg 11 i) n) n 0)) ∧ sg' = sg)) ([.ref (ad 9 i)] : List Value).toArray s 0 0 (kx_Ad z0)) (F0 m 14 ls []) := by
    intro k
    induction k with
    | zero =>
      intro z hk hL H locs ls hW hS hl
      refine lv_iload_n hx hb dX0_thereSince_14 rfl (lv_at hl 0 rfl) ?_
      refine lv_if_lt (tgt := 51) hx hb dX0_thereSince_15 (by decide) (fun c_15 => ?_) (fun c_15 => ?_)
      · refine lv_iload_n hx hb dX0_thereSince_51 rfl (lv_at hl 1 rfl) ?_
        exact kx_ri F hr hlocks hW hS (by first | exact Nat.le_of_ble_eq_true rfl | omega) (by first | exact Nat.le_of_ble_eq_true rfl | omega) (⟨congrArg (fun z => some (Value.int z)) (by rw [hL]; rfl), rfl⟩) dX0_thereSince_52
      · exact absurd (by decide) c_15
    | succ k ih =>
      intro z hk hL H locs ls hW hS hl
      rw [tw_m1] at hl
      refine lv_iload_n hx hb dX0_thereSince_14 rfl (lv_at hl 0 rfl) ?_
      refine lv_if_lt (tgt := 51) hx hb dX0_thereSince_15 (by decide) (fun c_15 => ?_) (fun c_15 => ?_)
      · exact absurd c_15 (tw_neg k (by omega))
      · refine lv_aload_n hx hb dX0_thereSince_18 rfl (lv_at hl 3 rfl) ?_
        refine lv_iload_n hx hb dX0_thereSince_19 rfl (lv_at hl 0 rfl) ?_
        refine kx_cV (na := 1) F (q := 9) (n := i) (c_X0_isTrue l G z0 ad nb sg i hi (nI k)) gX0_thereSince_X0_isTrue rfl (by decide +kernel) ⟨Nat.le_of_ble_eq_true rfl, Nat.le_of_ble_eq_true rfl⟩ hW hS hi rfl rfl (As := [.int (nI k)]) (rest := []) rfl hl.1 rfl (by decide) dX0_thereSince_20 ⟨by first | exact Nat.le_of_ble_eq_true rfl | omega, by first | exact Nat.le_of_ble_eq_true rfl | omega⟩ (fun r9 sg9 H locs hq hW hS => ?_)
        obtain ⟨rfl, e9⟩ := hq
        rw [e9] at hW
        refine W.eq (g2 := F0 m 23 ls [.int (tw_b (tw_tru (sg 9 i 7) (nI k)))]) rfl ?_
        refine lv_if_eq (tgt := 45) hx hb dX0_thereSince_23 (by decide) (fun c_23 => ?_) (fun c_23 => ?_)
        · refine lv_iinc (v := nI k - 1) (lv' := [(3, .int (nI k - 1)), (2, .int z), (1, .int (tw_last (sg 9 i 7) (sg 11 i) n)), (0, .ref (ad 9 i))]) hx hb dX0_thereSince_45 hl (k := 0) rfl (by rw [Int32.sub_eq_add_neg]; rfl) (by decide) rfl (fun ls hl => ?_)
          refine lv_goto (tgt := 14) hx hb dX0_thereSince_48 (by decide) ?_
          exact ih z (by omega) (hL.trans (tw_since_1 (tw_b_0 c_23))) H locs ls hW hS (lv_sub hl [0, 1, 2, 3] rfl)
        · refine lv_aload_n hx hb dX0_thereSince_26 rfl (lv_at hl 3 rfl) ?_
          refine kx_g F inX0 hW 9 i hi rfl rfl 3 (by decide) L_15 (v := .ref (ad 11 i)) rfl dX0_thereSince_27 ?_
          refine lv_iload_n hx hb dX0_thereSince_30 rfl (lv_at hl 0 rfl) ?_
          refine kx_ald F hW 11 i hi rfl k (by omega) (by decide) (v := sg 11 i k) rfl dX0_thereSince_31 ?_
          refine lv_iload_n hx hb dX0_thereSince_32 rfl (lv_at hl 2 rfl) ?_
          refine lv_icmp_eq (tgt := 38) hx hb dX0_thereSince_33 (by decide) (fun c_33 => ?_) (fun c_33 => ?_)
          · refine lv_aload_n hx hb dX0_thereSince_38 rfl (lv_at hl 3 rfl) ?_
            refine kx_g F inX0 hW 9 i hi rfl rfl 2 (by decide) L_9 (v := .ref (ad 10 i)) rfl dX0_thereSince_39 ?_
            refine lv_iload_n hx hb dX0_thereSince_42 rfl (lv_at hl 0 rfl) ?_
            refine kx_ald F hW 10 i hi rfl k (by omega) (by decide) (v := sg 10 i k) rfl dX0_thereSince_43 ?_
            refine lv_istore_n (lv' := [(2, .int (sg 10 i k)), (3, .int (nI k)), (1, .int (tw_last (sg 9 i 7) (sg 11 i) n)), (0, .ref (ad 9 i))]) hx hb dX0_thereSince_44 rfl hl (by decide) rfl (fun ls hl => ?_)
            refine lv_iinc (v := nI k - 1) (lv' := [(3, .int (nI k - 1)), (2, .int (sg 10 i k)), (1, .int (tw_last (sg 9 i 7) (sg 11 i) n)), (0, .ref (ad 9 i))]) hx hb dX0_thereSince_45 hl (k := 1) rfl (by rw [Int32.sub_eq_add_neg]; rfl) (by decide) rfl (fun ls hl => ?_)
            refine lv_goto (tgt := 14) hx hb dX0_thereSince_48 (by decide) ?_
            exact ih (sg 10 i k) (by omega) (hL.trans (tw_since_3 (tw_b_1 c_23) c_33)) H locs ls hW hS (lv_sub hl [0, 1, 2, 3] rfl)
          · refine lv_iload_n hx hb dX0_thereSince_36 rfl (lv_at hl 1 rfl) ?_
            exact kx_ri F hr hlocks hW hS (by first | exact Nat.le_of_ble_eq_true rfl | omega) (by first | exact Nat.le_of_ble_eq_true rfl | omega) (⟨congrArg (fun z => some (Value.int z)) (by rw [hL, tw_since_2 (tw_b_1 c_23) c_33]), rfl⟩) dX0_thereSince_37
  refine lv_aload_n hx hb dX0_thereSince_0 rfl (lv_at hl 0 rfl) ?_
  refine kx_cV (na := 0) F (q := 9) (n := i) (c_X0_whereabouts l G z0 ad nb sg i hi n hn h12) gX0_thereSince_X0_whereabouts rfl (by decide +kernel) ⟨Nat.le_of_ble_eq_true rfl, Nat.le_of_ble_eq_true rfl⟩ hW hS hi rfl rfl (As := []) (rest := []) rfl hl.1 rfl (by decide) dX0_thereSince_1 ⟨by first | exact Nat.le_of_ble_eq_true rfl | omega, by first | exact Nat.le_of_ble_eq_true rfl | omega⟩ (fun r9 sg9 H locs hq hW hS => ?_)
  obtain ⟨rfl, e9⟩ := hq
  rw [e9] at hW
  refine W.eq (g2 := F0 m 4 ls [.int (tw_last (sg 9 i 7) (sg 11 i) n)]) rfl ?_
  refine lv_istore_n (lv' := [(1, .int (tw_last (sg 9 i 7) (sg 11 i) n)), (0, .ref (ad 9 i))]) hx hb dX0_thereSince_4 rfl hl (by decide) rfl (fun ls hl => ?_)
  refine lv_iconst (v := 0) hx hb dX0_thereSince_5 (by decide) ?_
  refine lv_istore_n (lv' := [(2, .int 0), (1, .int (tw_last (sg 9 i 7) (sg 11 i) n)), (0, .ref (ad 9 i))]) hx hb dX0_thereSince_6 rfl hl (by decide) rfl (fun ls hl => ?_)
  refine lv_aload_n hx hb dX0_thereSince_7 rfl (lv_at hl 2 rfl) ?_
  refine kx_g F inX0 hW 9 i hi rfl rfl 6 (by decide) L_24 (v := .int (nI n)) (congrArg (fun z => some (Value.int z)) hn) dX0_thereSince_8 ?_
  refine lv_iconst (v := 1) hx hb dX0_thereSince_11 (by decide) ?_
  refine lv_isub hx hb dX0_thereSince_12 ?_
  refine lv_istore_n (lv' := [(3, .int ((nI n) - 1)), (2, .int 0), (1, .int (tw_last (sg 9 i 7) (sg 11 i) n)), (0, .ref (ad 9 i))]) hx hb dX0_thereSince_13 rfl hl (by decide) rfl (fun ls hl => ?_)
  exact loop n 0 (Nat.le_refl n) rfl _ _ ls hW hS (lv_sub hl [0, 1, 2, 3] rfl)

set_option maxHeartbeats 4000000 in
set_option maxRecDepth 100000 in
/-- was it scanned later than x? -/
theorem c_X0_wasScannedAfter (l : Launch) (G : kx_G) (z0 : Nat) (ad : kx_A) (nb : Nat) (sg : kx_S) (i : Nat) (hi : i < nb) (n : Nat) (hn : sg 9 i 6 = nI n) (h12 : n ≤ 12) (x : Int32) : kx_M l yX0_wasScannedAfter wsX0_wasScannedAfter 0 0 0 0 G z0 ad nb sg [.ref (ad 9 i), .int x] (fun r sg' => r = some (.int (tw_b (tw_after (sg 10 i) n x))) ∧ sg' = sg) := by
  refine Met.ofW (cc := cX0_wasScannedAfter) (maxL := 2) (ret := (some .boolean)) (by decide) rfl ?_
  intro p e s m args below meth c s₁ B hml hv
  obtain ⟨rfl, hW, hV⟩ := hv
  have hts := atoms_spec (ws := wsX0_wasScannedAfter) B.pre
  have F : kx_F p s m c cX0_wasScannedAfter 2 RX0 _ wsX0_wasScannedAfter G z0 := ⟨B.exec, B.bytes, hml, findClass_of_methodNamed B.named, hts, hV⟩
  have hx := B.exec; have hb := B.bytes; have hr := B.returns; have hlocks := B.notSynchronized
  have hS : va_S (kx_Ad z0) s.heap s.heap [] := va_S.rf
  have L_24 : Cond.fieldLink RX0 24 (TX0 6).1 (TX0 6).2.1 (TX0 6).2.2.1 ∈ wsX0_wasScannedAfter := by decide +kernel
  have L_9 : Cond.fieldLink RX0 9 (TX0 2).1 (TX0 2).2.1 (TX0 2).2.2.1 ∈ wsX0_wasScannedAfter := by decide +kernel
  have inX0 : ∀ w ∈ u_ws RX0 TX0 11, w ∈ wsX0_wasScannedAfter := by decide +kernel
  have hl := lv_entry ([.ref (ad 9 i), .int x]) (n := 2) (Nat.le_of_ble_eq_true rfl)
  rw [lg_entry_eq]
  generalize (lg_sl ([.ref (ad 9 i), .int x]) ++ List.replicate (2 - (lg_sl ([.ref (ad 9 i), .int x])).length) Slot.unset).toArray = ls at hl ⊢
  have hl : lv_has ls 2 [(0, .ref (ad 9 i)), (1, .int x)] := hl
  refine lv_aload_n hx hb dX0_wasScannedAfter_0 rfl (lv_at hl 0 rfl) ?_
  refine kx_g F inX0 hW 9 i hi rfl rfl 6 (by decide) L_24 (v := .int (nI n)) (congrArg (fun z => some (Value.int z)) hn) dX0_wasScannedAfter_1 ?_
  refine lv_if_le (tgt := 26) hx hb dX0_wasScannedAfter_4 (by decide) (fun c_4 => ?_) (fun c_4 => ?_)
  · refine lv_iconst (v := 0) hx hb dX0_wasScannedAfter_26 (by decide) ?_
    exact kx_rz F hr hlocks hW hS (by first | exact Nat.le_of_ble_eq_true rfl | omega) (by first | exact Nat.le_of_ble_eq_true rfl | omega) (by rfl) (⟨congrArg (fun z => some (Value.int z)) (tw_b_f (tw_after_0 h12 c_4)), rfl⟩) dX0_wasScannedAfter_27
  · obtain ⟨k9, rfl⟩ : ∃ k9 : Nat, n = k9 + 1 := tw_after_3 c_4
    refine lv_aload_n hx hb dX0_wasScannedAfter_7 rfl (lv_at hl 0 rfl) ?_
    refine kx_g F inX0 hW 9 i hi rfl rfl 2 (by decide) L_9 (v := .ref (ad 10 i)) rfl dX0_wasScannedAfter_8 ?_
    refine lv_aload_n hx hb dX0_wasScannedAfter_11 rfl (lv_at hl 0 rfl) ?_
    refine kx_g F inX0 hW 9 i hi rfl rfl 6 (by decide) L_24 (v := .int (nI (k9 + 1))) (congrArg (fun z => some (Value.int z)) hn) dX0_wasScannedAfter_12 ?_
    refine lv_iconst (v := 1) hx hb dX0_wasScannedAfter_15 (by decide) ?_
    refine lv_isub hx hb dX0_wasScannedAfter_16 ?_
    rw [tw_m1]
    refine kx_ald F hW 10 i hi rfl k9 (by omega) (by decide) (v := sg 10 i k9) rfl dX0_wasScannedAfter_17 ?_
    refine lv_iload_n hx hb dX0_wasScannedAfter_18 rfl (lv_at hl 1 rfl) ?_
    refine lv_icmp_le (tgt := 26) hx hb dX0_wasScannedAfter_19 (by decide) (fun c_19 => ?_) (fun c_19 => ?_)
    · refine lv_iconst (v := 0) hx hb dX0_wasScannedAfter_26 (by decide) ?_
      exact kx_rz F hr hlocks hW hS (by first | exact Nat.le_of_ble_eq_true rfl | omega) (by first | exact Nat.le_of_ble_eq_true rfl | omega) (by rfl) (⟨congrArg (fun z => some (Value.int z)) (tw_b_f (tw_after_1 c_19)), rfl⟩) dX0_wasScannedAfter_27
    · refine lv_iconst (v := 1) hx hb dX0_wasScannedAfter_22 (by decide) ?_
      refine lv_goto (tgt := 27) hx hb dX0_wasScannedAfter_23 (by decide) ?_
      exact kx_rz F hr hlocks hW hS (by first | exact Nat.le_of_ble_eq_true rfl | omega) (by first | exact Nat.le_of_ble_eq_true rfl | omega) (by rfl) (⟨congrArg (fun z => some (Value.int z)) (tw_b_t (tw_after_2 c_19)), rfl⟩) dX0_wasScannedAfter_27

set_option maxHeartbeats 4000000 in
set_option maxRecDepth 100000 in
/-- how many of x lie -/
theorem c_X0_countLies (l : Launch) (G : kx_G) (z0 : Nat) (ad : kx_A) (nb : Nat) (sg : kx_S) (i : Nat) (hi : i < nb) (n : Nat) (hn : sg 9 i 6 = nI n) (h12 : n ≤ 12) (x : Int32) : kx_M l yX0_countLies wsX0_countLies 1 21 0 0 G z0 ad nb sg [.ref (ad 9 i), .int x] (fun r sg' => r = some (.int (tw_lies (sg 9 i 7) (sg 12 i) x n)) ∧ sg' = sg) := by
  refine Met.ofW (cc := cX0_countLies) (maxL := 4) (ret := (some .int)) (by decide) rfl ?_
  intro p e s m args below meth c s₁ B hml hv
  obtain ⟨rfl, hW, hV⟩ := hv
  have hts := atoms_spec (ws := wsX0_countLies) B.pre
  have F : kx_F p s m c cX0_countLies 4 RX0 _ wsX0_countLies G z0 := ⟨B.exec, B.bytes, hml, findClass_of_methodNamed B.named, hts, hV⟩
  have hx := B.exec; have hb := B.bytes; have hr := B.returns; have hlocks := B.notSynchronized
  have hS : va_S (kx_Ad z0) s.heap s.heap [] := va_S.rf
  have L_18 : Cond.fieldLink RX0 18 (TX0 4).1 (TX0 4).2.1 (TX0 4).2.2.1 ∈ wsX0_countLies := by decide +kernel
  have L_24 : Cond.fieldLink RX0 24 (TX0 6).1 (TX0 6).2.1 (TX0 6).2.2.1 ∈ wsX0_countLies := by decide +kernel
  have inX0 : ∀ w ∈ u_ws RX0 TX0 11, w ∈ wsX0_countLies := by decide +kernel
  have hl := lv_entry ([.ref (ad 9 i), .int x]) (n := 4) (Nat.le_of_ble_eq_true rfl)
  rw [lg_entry_eq]
  generalize (lg_sl ([.ref (ad 9 i), .int x]) ++ List.replicate (4 - (lg_sl ([.ref (ad 9 i), .int x])).length) Slot.unset).toArray = ls at hl ⊢
  have hl : lv_has ls 4 [(0, .ref (ad 9 i)), (1, .int x)] := hl
  have loop : ∀ (j k : Nat), n = k + j → ∀ (H : Heap) (locs : List Loc) (ls : Array Slot), kx_Wd G z0 ad nb sg H → va_S (kx_Ad z0) s.heap H locs → lv_has ls 4 [(3, .int (nI k)), (2, .int (tw_lies (sg 9 i 7) (sg 12 i) x k)), (0, .ref (ad 9 i)), (1, .int x)] → W p l e (headSpec wsX0_countLies { frames := 1, cells := 0, slots := 0, locals := 21 }).room s m ([.ref (ad 9 i), .int x] : List Value).toArray below meth c H locs 0 0 (MQ below (kx_Q G z0 ad nb (fun r sg' => r = some (.int (tw_lies (sg 9 i 7) (sg 12 i) x n)) ∧ sg' = sg)) ([.ref (ad 9 i), .int x] : List Value).toArray s 0 0 (kx_Ad z0)) (F0 m 4 ls []) := by
    intro j
    induction j with
    | zero =>
      intro k  hk H locs ls hW hS hl
      refine lv_iload_n hx hb dX0_countLies_4 rfl (lv_at hl 0 rfl) ?_
      refine lv_aload_n hx hb dX0_countLies_5 rfl (lv_at hl 2 rfl) ?_
      refine kx_g F inX0 hW 9 i hi rfl rfl 6 (by decide) L_24 (v := .int (nI n)) (congrArg (fun z => some (Value.int z)) hn) dX0_countLies_6 ?_
      refine lv_icmp_ge (tgt := 39) hx hb dX0_countLies_9 (by decide) (fun c_9 => ?_) (fun c_9 => ?_)
      · refine lv_iload_n hx hb dX0_countLies_39 rfl (lv_at hl 1 rfl) ?_
        exact kx_ri F hr hlocks hW hS (by first | exact Nat.le_of_ble_eq_true rfl | omega) (by first | exact Nat.le_of_ble_eq_true rfl | omega) (⟨congrArg (fun z => some (Value.int z)) (by rw [show n = k from by omega]), rfl⟩) dX0_countLies_40
      · exact absurd (nI_le (by omega) (by omega)) c_9
    | succ j ih =>
      intro k  hk H locs ls hW hS hl
      refine lv_iload_n hx hb dX0_countLies_4 rfl (lv_at hl 0 rfl) ?_
      refine lv_aload_n hx hb dX0_countLies_5 rfl (lv_at hl 2 rfl) ?_
      refine kx_g F inX0 hW 9 i hi rfl rfl 6 (by decide) L_24 (v := .int (nI n)) (congrArg (fun z => some (Value.int z)) hn) dX0_countLies_6 ?_
      refine lv_icmp_ge (tgt := 39) hx hb dX0_countLies_9 (by decide) (fun c_9 => ?_) (fun c_9 => ?_)
      · exact absurd c_9 (nI_ge (by omega) (by omega))
      · refine lv_aload_n hx hb dX0_countLies_12 rfl (lv_at hl 2 rfl) ?_
        refine kx_g F inX0 hW 9 i hi rfl rfl 4 (by decide) L_18 (v := .ref (ad 12 i)) rfl dX0_countLies_13 ?_
        refine lv_iload_n hx hb dX0_countLies_16 rfl (lv_at hl 0 rfl) ?_
        refine kx_ald F hW 12 i hi rfl k (by omega) (by decide) (v := sg 12 i k) rfl dX0_countLies_17 ?_
        refine lv_iload_n hx hb dX0_countLies_18 rfl (lv_at hl 3 rfl) ?_
        refine lv_icmp_ne (tgt := 33) hx hb dX0_countLies_19 (by decide) (fun c_19 => ?_) (fun c_19 => ?_)
        · refine lv_iinc (v := nI (k + 1)) (lv' := [(3, .int (nI (k + 1))), (2, .int (tw_lies (sg 9 i 7) (sg 12 i) x k)), (0, .ref (ad 9 i)), (1, .int x)]) hx hb dX0_countLies_33 hl (k := 0) rfl (nI_1 k) (by decide) rfl (fun ls hl => ?_)
          refine lv_goto (tgt := 4) hx hb dX0_countLies_36 (by decide) ?_
          exact ih (k + 1) (by omega) H locs ls hW hS (by rw [tw_lies_f1 c_19]; exact lv_sub hl [0, 1, 2, 3] rfl)
        · refine lv_aload_n hx hb dX0_countLies_22 rfl (lv_at hl 2 rfl) ?_
          refine lv_iload_n hx hb dX0_countLies_23 rfl (lv_at hl 0 rfl) ?_
          refine kx_cV (na := 1) F (q := 9) (n := i) (c_X0_isTrue l G z0 ad nb sg i hi (nI k)) gX0_countLies_X0_isTrue rfl (by decide +kernel) ⟨Nat.le_of_ble_eq_true rfl, Nat.le_of_ble_eq_true rfl⟩ hW hS hi rfl rfl (As := [.int (nI k)]) (rest := []) rfl hl.1 rfl (by decide) dX0_countLies_24 ⟨by first | exact Nat.le_of_ble_eq_true rfl | omega, by first | exact Nat.le_of_ble_eq_true rfl | omega⟩ (fun r9 sg9 H locs hq hW hS => ?_)
          obtain ⟨rfl, e9⟩ := hq
          rw [e9] at hW
          refine W.eq (g2 := F0 m 27 ls [.int (tw_b (tw_tru (sg 9 i 7) (nI k)))]) rfl ?_
          refine lv_if_ne (tgt := 33) hx hb dX0_countLies_27 (by decide) (fun c_27 => ?_) (fun c_27 => ?_)
          · refine lv_iinc (v := nI (k + 1)) (lv' := [(3, .int (nI (k + 1))), (2, .int (tw_lies (sg 9 i 7) (sg 12 i) x k)), (0, .ref (ad 9 i)), (1, .int x)]) hx hb dX0_countLies_33 hl (k := 0) rfl (nI_1 k) (by decide) rfl (fun ls hl => ?_)
            refine lv_goto (tgt := 4) hx hb dX0_countLies_36 (by decide) ?_
            exact ih (k + 1) (by omega) H locs ls hW hS (by rw [tw_lies_f2 (tw_b_1 c_27)]; exact lv_sub hl [0, 1, 2, 3] rfl)
          · refine lv_iinc (v := tw_lies (sg 9 i 7) (sg 12 i) x (k + 1)) (lv' := [(2, .int (tw_lies (sg 9 i 7) (sg 12 i) x (k + 1))), (3, .int (nI k)), (0, .ref (ad 9 i)), (1, .int x)]) hx hb dX0_countLies_30 hl (k := 1) rfl (by rw [tw_lies_t c_19 (tw_b_0 c_27)]; rfl) (by decide) rfl (fun ls hl => ?_)
            refine lv_iinc (v := nI (k + 1)) (lv' := [(3, .int (nI (k + 1))), (2, .int (tw_lies (sg 9 i 7) (sg 12 i) x (k + 1))), (0, .ref (ad 9 i)), (1, .int x)]) hx hb dX0_countLies_33 hl (k := 1) rfl (nI_1 k) (by decide) rfl (fun ls hl => ?_)
            refine lv_goto (tgt := 4) hx hb dX0_countLies_36 (by decide) ?_
            exact ih (k + 1) (by omega) H locs ls hW hS (lv_sub hl [0, 1, 2, 3] rfl)
  refine lv_iconst (v := 0) hx hb dX0_countLies_0 (by decide) ?_
  refine lv_istore_n (lv' := [(2, .int 0), (0, .ref (ad 9 i)), (1, .int x)]) hx hb dX0_countLies_1 rfl hl (by decide) rfl (fun ls hl => ?_)
  refine lv_iconst (v := 0) hx hb dX0_countLies_2 (by decide) ?_
  refine lv_istore_n (lv' := [(3, .int 0), (2, .int 0), (0, .ref (ad 9 i)), (1, .int x)]) hx hb dX0_countLies_3 rfl hl (by decide) rfl (fun ls hl => ?_)
  exact loop n 0 (by omega) _ _ ls hW hS (lv_sub hl [0, 1, 2, 3] rfl)
