/-! the law's small helpers -/
def lo_th (x y : Int32) : Int32 := if x < 4 then (x + y) - (x + y) / 4 * 4 else x
def lo_pl (x y : Int32) : Int32 := if x ≤ 0 then x else if x < 5 then 1 + lo_th (x - 1) y else x
def lo_dr (L : Nat) (xs : Nat → Int32) (k : Nat) : Int32 := (if k < L then xs k else 12301 * nI k + 7013) &&& 1073741823

set_option maxHeartbeats 4000000 in
set_option maxRecDepth 100000 in
theorem c_L_there (l : Launch) (G : kx_G) (z0 : Nat) (ad : kx_A) (nb : Nat) (sg : kx_S) (x y : Int32) : kx_M l yL_there wsL_there 0 0 0 0 G z0 ad nb sg [.int x, .int y] (fun r sg' => r = some (.int (lo_th x y)) ∧ sg' = sg) := by
  refine Met.ofW (cc := cL_there) (maxL := 2) (ret := (some .int)) (by decide) rfl ?_
  intro p e s m args below meth c s₁ B hml hv
  obtain ⟨rfl, hW, hV⟩ := hv
  have hts := atoms_spec (ws := wsL_there) B.pre
  have F : kx_F p s m c cL_there 2 RL _ wsL_there G z0 := ⟨B.exec, B.bytes, hml, findClass_of_methodNamed B.named, hts, hV⟩
  have hx := B.exec; have hb := B.bytes; have hr := B.returns; have hlocks := B.notSynchronized
  have hS : va_S (kx_Ad z0) s.heap s.heap [] := va_S.rf
  have hl := lv_entry ([.int x, .int y]) (n := 2) (Nat.le_of_ble_eq_true rfl)
  rw [lg_entry_eq]
  generalize (lg_sl ([.int x, .int y]) ++ List.replicate (2 - (lg_sl ([.int x, .int y])).length) Slot.unset).toArray = ls at hl ⊢
  have hl : lv_has ls 2 [(0, .int x), (1, .int y)] := hl
  refine lv_iload_n hx hb dL_there_0 rfl (lv_at hl 0 rfl) ?_
  refine lv_iconst (v := 4) hx hb dL_there_1 (by decide) ?_
  refine lv_icmp_ge (tgt := 13) hx hb dL_there_2 (by decide) (fun c_2 => ?_) (fun c_2 => ?_)
  · refine lv_iload_n hx hb dL_there_13 rfl (lv_at hl 0 rfl) ?_
    exact kx_ri F hr hlocks hW hS (by first | exact Nat.le_of_ble_eq_true rfl | omega) (by first | exact Nat.le_of_ble_eq_true rfl | omega) (⟨congrArg (fun z => some (Value.int z)) (by rw [lo_th, if_neg (fun z => absurd c_2 (by rw [tw_le]; rw [tw_lt] at z; omega))]), rfl⟩) dL_there_14
  · refine lv_iload_n hx hb dL_there_5 rfl (lv_at hl 0 rfl) ?_
    refine lv_iload_n hx hb dL_there_6 rfl (lv_at hl 1 rfl) ?_
    refine lv_iadd hx hb dL_there_7 ?_
    refine lv_iconst (v := 4) hx hb dL_there_8 (by decide) ?_
    refine lv_irem hx hb dL_there_9 (by decide) ?_
    refine lv_goto (tgt := 14) hx hb dL_there_10 (by decide) ?_
    exact kx_ri F hr hlocks hW hS (by first | exact Nat.le_of_ble_eq_true rfl | omega) (by first | exact Nat.le_of_ble_eq_true rfl | omega) (⟨congrArg (fun z => some (Value.int z)) (by rw [lo_th, if_pos (by rw [tw_lt]; rw [tw_le] at c_2; omega)]), rfl⟩) dL_there_14

set_option maxHeartbeats 4000000 in
set_option maxRecDepth 100000 in
theorem c_L_place (l : Launch) (G : kx_G) (z0 : Nat) (ad : kx_A) (nb : Nat) (sg : kx_S) (x y : Int32) : kx_M l yL_place wsL_place 1 21 0 0 G z0 ad nb sg [.int x, .int y] (fun r sg' => r = some (.int (lo_pl x y)) ∧ sg' = sg) := by
  refine Met.ofW (cc := cL_place) (maxL := 2) (ret := (some .int)) (by decide) rfl ?_
  intro p e s m args below meth c s₁ B hml hv
  obtain ⟨rfl, hW, hV⟩ := hv
  have hts := atoms_spec (ws := wsL_place) B.pre
  have F : kx_F p s m c cL_place 2 RL _ wsL_place G z0 := ⟨B.exec, B.bytes, hml, findClass_of_methodNamed B.named, hts, hV⟩
  have hx := B.exec; have hb := B.bytes; have hr := B.returns; have hlocks := B.notSynchronized
  have hS : va_S (kx_Ad z0) s.heap s.heap [] := va_S.rf
  have hl := lv_entry ([.int x, .int y]) (n := 2) (Nat.le_of_ble_eq_true rfl)
  rw [lg_entry_eq]
  generalize (lg_sl ([.int x, .int y]) ++ List.replicate (2 - (lg_sl ([.int x, .int y])).length) Slot.unset).toArray = ls at hl ⊢
  have hl : lv_has ls 2 [(0, .int x), (1, .int y)] := hl
  refine lv_iload_n hx hb dL_place_0 rfl (lv_at hl 0 rfl) ?_
  refine lv_if_le (tgt := 21) hx hb dL_place_1 (by decide) (fun c_1 => ?_) (fun c_1 => ?_)
  · refine lv_iload_n hx hb dL_place_21 rfl (lv_at hl 0 rfl) ?_
    exact kx_ri F hr hlocks hW hS (by first | exact Nat.le_of_ble_eq_true rfl | omega) (by first | exact Nat.le_of_ble_eq_true rfl | omega) (⟨congrArg (fun z => some (Value.int z)) (by rw [lo_pl, if_pos c_1]), rfl⟩) dL_place_22
  · refine lv_iload_n hx hb dL_place_4 rfl (lv_at hl 0 rfl) ?_
    refine lv_iconst (v := 5) hx hb dL_place_5 (by decide) ?_
    refine lv_icmp_ge (tgt := 21) hx hb dL_place_6 (by decide) (fun c_6 => ?_) (fun c_6 => ?_)
    · refine lv_iload_n hx hb dL_place_21 rfl (lv_at hl 0 rfl) ?_
      exact kx_ri F hr hlocks hW hS (by first | exact Nat.le_of_ble_eq_true rfl | omega) (by first | exact Nat.le_of_ble_eq_true rfl | omega) (⟨congrArg (fun z => some (Value.int z)) (by rw [lo_pl, if_neg c_1, if_neg (fun z => absurd c_6 (by rw [tw_le]; rw [tw_lt] at z; omega))]), rfl⟩) dL_place_22
    · refine lv_iconst (v := 1) hx hb dL_place_9 (by decide) ?_
      refine lv_iload_n hx hb dL_place_10 rfl (lv_at hl 0 rfl) ?_
      refine lv_iconst (v := 1) hx hb dL_place_11 (by decide) ?_
      refine lv_isub hx hb dL_place_12 ?_
      refine lv_iload_n hx hb dL_place_13 rfl (lv_at hl 1 rfl) ?_
      refine kx_cS (na := 2) F (c_L_there l G z0 ad nb sg (x - 1) y) gL_place_L_there rfl (by decide +kernel) ⟨Nat.le_of_ble_eq_true rfl, Nat.le_of_ble_eq_true rfl⟩ hW hS (As := [.int (x - 1), .int y]) (rest := [.int 1]) rfl hl.1 rfl (Nat.le_of_ble_eq_true rfl) dL_place_14 ⟨by first | exact Nat.le_of_ble_eq_true rfl | omega, by first | exact Nat.le_of_ble_eq_true rfl | omega⟩ (fun r9 sg9 H locs hq hW hS => ?_)
      obtain ⟨rfl, e9⟩ := hq
      rw [e9] at hW
      refine W.eq (g2 := F0 m 17 ls [.int (lo_th (x - 1) y), .int 1]) rfl ?_
      refine lv_iadd hx hb dL_place_17 ?_
      refine lv_goto (tgt := 22) hx hb dL_place_18 (by decide) ?_
      exact kx_ri F hr hlocks hW hS (by first | exact Nat.le_of_ble_eq_true rfl | omega) (by first | exact Nat.le_of_ble_eq_true rfl | omega) (⟨congrArg (fun z => some (Value.int z)) (by rw [lo_pl, if_neg c_1, if_pos (by rw [tw_lt]; rw [tw_le] at c_6; omega)]), rfl⟩) dL_place_22


set_option maxHeartbeats 4000000 in
set_option maxRecDepth 100000 in
theorem c_L_drawn (l : Launch) (b L : Nat) (xs : Nat → Int32) (k : Nat) (hL : L ≤ 260) (hk : k < 300) : Met l yL_drawn wsL_drawn { frames := 0, cells := 0, slots := 0, locals := 0 } (va_Pc [.ref b, .int (nI k)] (fun U => va_X b L xs U U.heap ∧ b < U.heap.size)) (va_Qi (fun r (_ : Unit) => r = lo_dr L xs k) (fun _ _ => True) (fun _ => False)) 0 0 (fun _ => False) := by
  refine Met.ofW (cc := cL_drawn) (maxL := 3) (ret := some .int) (by decide) rfl ?_
  intro p e s m args below meth c s₁ B hml hv
  obtain ⟨rfl, hX, hbl⟩ := hv
  have hts := atoms_spec (ws := wsL_drawn) B.pre
  have hx := B.exec; have hb := B.bytes; have hr := B.returns; have hlocks := B.notSynchronized
  have hown : s.vm.findClass RL = some m.cls := findClass_of_methodNamed B.named
  have hS : va_S (fun _ => False) s.heap s.heap [] := va_S.rf
  have hl := lv_entry ([.ref b, .int (nI k)]) (n := 3) (Nat.le_of_ble_eq_true rfl)
  rw [lg_entry_eq]
  generalize (lg_sl ([.ref b, .int (nI k)]) ++ List.replicate (3 - (lg_sl ([.ref b, .int (nI k)])).length) Slot.unset).toArray = ls at hl ⊢
  have hl : lv_has ls 3 [(0, .ref b), (1, .int (nI k))] := hl
  have K : ∀ v : Int32, v = (if k < L then xs k else 12301 * nI k + 7013) → W p l e (headSpec wsL_drawn { frames := 0, cells := 0, slots := 0, locals := 0 }).room s m ([.ref b, .int (nI k)] : List Value).toArray below meth c s.heap [] 0 0 (MQ below (va_Qi (fun r (_ : Unit) => r = lo_dr L xs k) (fun _ _ => True) (fun _ => False)) ([.ref b, .int (nI k)] : List Value).toArray s 0 0 (fun _ => False)) (F0 m 21 ls [.int v]) := by
    intro v hv
    refine lv_istore_n (lv' := [(2, .int v), (0, .ref b), (1, .int (nI k))]) hx hb dL_drawn_21 rfl hl (by decide) rfl (fun ls hl => ?_)
    refine lv_iload_n hx hb dL_drawn_22 rfl (lv_at hl 0 rfl) ?_
    refine lv_ldc (v := 1073741823) hx hb hown (hts (.constant RL 7 1073741823) (by decide +kernel)) dL_drawn_23 ?_
    refine lv_iand hx hb dL_drawn_25 ?_
    exact W.iret hx hb hr (fun t ht _ => ⟨⟨_, (), rfl, by rw [lo_dr, hv], trivial⟩, hS.F ht⟩) hS.2.2 dL_drawn_26 hlocks
  refine lv_iload_n hx hb dL_drawn_0 rfl (lv_at hl 1 rfl) ?_
  refine lv_aload_n hx hb dL_drawn_1 rfl (lv_at hl 0 rfl) ?_
  refine va_slen hx hb hX hbl (fun z => z) hS dL_drawn_2 ?_
  refine lv_icmp_ge (tgt := 12) hx hb dL_drawn_3 (by decide) (fun c_3 => ?_) (fun c_3 => ?_)
  · have hkL : ¬ k < L := fun z => absurd c_3 (nI_ge z (by omega))
    refine lv_sipush (v := 12301) hx hb dL_drawn_12 (by decide) ?_
    refine lv_iload_n hx hb dL_drawn_15 rfl (lv_at hl 1 rfl) ?_
    refine lv_imul hx hb dL_drawn_16 ?_
    refine lv_sipush (v := 7013) hx hb dL_drawn_17 (by decide) ?_
    refine lv_iadd hx hb dL_drawn_20 ?_
    exact K _ (by rw [if_neg hkL])
  · have hkL : k < L := by
      rcases Nat.lt_or_ge k L with q | q
      · exact q
      · exact absurd (nI_le q (by omega)) c_3
    refine lv_aload_n hx hb dL_drawn_6 rfl (lv_at hl 0 rfl) ?_
    refine lv_iload_n hx hb dL_drawn_7 rfl (lv_at hl 1 rfl) ?_
    refine va_sld hx hb hX hbl (fun z => z) hS (vp_in_nI hkL (by omega)) dL_drawn_8 ?_
    refine lv_goto (tgt := 21) hx hb dL_drawn_9 (by decide) ?_
    exact K _ (by rw [if_pos hkL, nI_clamp (by omega)])

