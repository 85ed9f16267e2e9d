def tw_pl (x : Int32) : Bool := tw_in x 0 4 || tw_in x 10 19 || decide (x = 30)
def tw_srt (x : Int32) : Int32 := if x = 0 then 0 else if x < 10 then 1 else if x < 30 then 2 else 3
def tw_mn (p q : Int32) : Int32 := if p = q then 0 else if tw_srt p = 3 then 1000000 else if tw_srt q = 3 then (if tw_srt p = 0 then 9 else if tw_srt p = 1 then 4 else 2) else if tw_srt p = tw_srt q then (if tw_srt p = 1 then 10 else 6) else if tw_srt p + tw_srt q = 1 then 5 else if tw_srt p + tw_srt q = 3 then 3 else 8
def tw_a1 (x : Int32) : Int32 := if x = 0 then 1 else 0
def tw_a2 (x y : Int32) : Int32 := if x = 0 then 1 else if y = 0 then 2 else 0
def tw_a3 (x y z : Int32) : Int32 := if x = 0 then 1 else if y = 0 then 2 else if z = 0 then 3 else 0
def tw_th (sg : kx_S) (t : Int32) : kx_S := kx_up sg 14 0 (upd (sg 14 0) 22 t)
theorem tw_ix (i k : Nat) : (12 : Int32) * nI i + nI k = nI (12 * i + k) := by
  rw [show (12 : Int32) = nI 12 from rfl, pk_mul, nI_add]
def tw_mk (who : Int32) : Nat := if who = -1 then 14 else who.toNatClampNeg
/-- who made a scan: -1 a finding, else the number -/
def tw_who (w : Int32) : Prop := w = -1 ∨ ∃ m : Nat, m < 14 ∧ w = nI m
theorem tw_mk_m1 : tw_mk (-1) = 14 := by decide
theorem tw_mk_nI {m : Nat} (h : m < 14) : tw_mk (nI m) = m := by
  have h1 : ¬ nI m = -1 := (by decide +kernel : ∀ m, m < 14 → ¬ nI m = -1) m h
  rw [tw_mk, if_neg h1, nI_clamp (by omega)]
theorem tw_who14 {w : Int32} (h : tw_who w) : tw_mk w ≤ 14 := by
  rcases h with h | ⟨m, hm, h⟩
  · rw [h, tw_mk_m1]; exact Nat.le_refl _
  · rw [h, tw_mk_nI hm]; omega
theorem tw_last_step {st : Int32} {pl : Nat → Int32} {k : Nat} : tw_last st pl (k + 1) = if tw_tru st (nI k) = true then pl k else tw_last st pl k := rfl
theorem tw_cour1_in {x : Int32} (h : tw_in x 1 4 = true) : tw_cour1 x = x - 1 ∧ ¬ tw_cour1 x = -1 := by
  have h1 := (tw_in_iff x 1 4).mp h
  have e1 : ((1 : Int32)).toInt = 1 := by decide
  have e4 : ((4 : Int32)).toInt = 4 := by decide
  have e : tw_cour1 x = x - 1 := by rw [tw_cour1, if_pos h]
  refine ⟨e, ?_⟩
  rw [e]
  intro z
  have h2 : (x - 1).toInt = x.toInt - 1 := by rw [tw_subI (by omega) (by omega), e1]
  rw [z] at h2
  have e5 : ((-1 : Int32)).toInt = -1 := by decide
  omega
theorem tw_cour1_out {x : Int32} (h : tw_in x 1 4 = false) : tw_cour1 x = -1 := by rw [tw_cour1, if_neg (by rw [h]; decide)]

set_option maxHeartbeats 4000000 in
set_option maxRecDepth 100000 in
theorem c_X4_thrown (l : Launch) (G : kx_G) (z0 : Nat) (ad : kx_A) (nb : Nat) (sg : kx_S) : kx_M l yX4_thrown wsX4_thrown 0 0 0 0 G z0 ad nb sg [.ref (ad 14 0)] (fun r sg' => r = some (.int (sg 14 0 22)) ∧ sg' = sg) := by
  refine Met.ofW (cc := cX4_thrown) (maxL := 1) (ret := (some .int)) (by decide) rfl ?_
  intro p e s m args below meth c s₁ B hml hv
  obtain ⟨rfl, hW, hV⟩ := hv
  have hts := atoms_spec (ws := wsX4_thrown) B.pre
  have F : kx_F p s m c cX4_thrown 1 RX4 _ wsX4_thrown G z0 := ⟨B.exec, B.bytes, hml, findClass_of_methodNamed B.named, hts, hV⟩
  have hx := B.exec; have hb := B.bytes; have hr := B.returns; have hlocks := B.notSynchronized
  have hS : va_S (kx_Ad z0) s.heap s.heap [] := va_S.rf
  have L_62 : Cond.fieldLink RX4 62 (TX4 22).1 (TX4 22).2.1 (TX4 22).2.2.1 ∈ wsX4_thrown := by decide +kernel
  have inX4 : ∀ w ∈ u_ws RX4 TX4 23, w ∈ wsX4_thrown := by decide +kernel
  have hl := lv_entry ([.ref (ad 14 0)]) (n := 1) (Nat.le_of_ble_eq_true rfl)
  rw [lg_entry_eq]
  generalize (lg_sl ([.ref (ad 14 0)]) ++ List.replicate (1 - (lg_sl ([.ref (ad 14 0)])).length) Slot.unset).toArray = ls at hl ⊢
  have hl : lv_has ls 1 [(0, .ref (ad 14 0))] := hl
  refine lv_aload_n hx hb dX4_thrown_0 rfl (lv_at hl 0 rfl) ?_
  refine kx_g F inX4 hW 14 0 ⟨by decide, rfl⟩ rfl rfl 22 (by decide) L_62 (v := .int (sg 14 0 22)) rfl dX4_thrown_1 ?_
  exact kx_ri F hr hlocks hW hS (by first | exact Nat.le_of_ble_eq_true rfl | omega) (by first | exact Nat.le_of_ble_eq_true rfl | omega) (⟨rfl, rfl⟩) dX4_thrown_4

set_option maxHeartbeats 4000000 in
set_option maxRecDepth 100000 in
theorem c_X4_in (l : Launch) (G : kx_G) (z0 : Nat) (ad : kx_A) (nb : Nat) (sg : kx_S) (x a b : Int32) : kx_M l yX4_in wsX4_in 0 0 0 0 G z0 ad nb sg [.int x, .int a, .int b] (fun r sg' => r = some (.int (tw_b (tw_in x a b))) ∧ sg' = sg) := by
  refine Met.ofW (cc := cX4_in) (maxL := 3) (ret := (some .boolean)) (by decide) rfl ?_
  intro p e s m args below meth c s₁ B hml hv
  obtain ⟨rfl, hW, hV⟩ := hv
  have hts := atoms_spec (ws := wsX4_in) B.pre
  have F : kx_F p s m c cX4_in 3 RX4 _ wsX4_in G z0 := ⟨B.exec, B.bytes, hml, findClass_of_methodNamed B.named, hts, hV⟩
  have hx := B.exec; have hb := B.bytes; have hr := B.returns; have hlocks := B.notSynchronized
  have hS : va_S (kx_Ad z0) s.heap s.heap [] := va_S.rf
  have hl := lv_entry ([.int x, .int a, .int b]) (n := 3) (Nat.le_of_ble_eq_true rfl)
  rw [lg_entry_eq]
  generalize (lg_sl ([.int x, .int a, .int b]) ++ List.replicate (3 - (lg_sl ([.int x, .int a, .int b])).length) Slot.unset).toArray = ls at hl ⊢
  have hl : lv_has ls 3 [(0, .int x), (1, .int a), (2, .int b)] := hl
  refine lv_iload_n hx hb dX4_in_0 rfl (lv_at hl 0 rfl) ?_
  refine lv_iload_n hx hb dX4_in_1 rfl (lv_at hl 1 rfl) ?_
  refine lv_icmp_lt (tgt := 14) hx hb dX4_in_2 (by decide) (fun c_2 => ?_) (fun c_2 => ?_)
  · refine lv_iconst (v := 0) hx hb dX4_in_14 (by decide) ?_
    exact kx_rz F hr hlocks hW hS (by first | exact Nat.le_of_ble_eq_true rfl | omega) (by first | exact Nat.le_of_ble_eq_true rfl | omega) (by rfl) (⟨congrArg (fun z => some (Value.int z)) (tw_b_f (tw_in_1 c_2)), rfl⟩) dX4_in_15
  · refine lv_iload_n hx hb dX4_in_5 rfl (lv_at hl 0 rfl) ?_
    refine lv_iload_n hx hb dX4_in_6 rfl (lv_at hl 2 rfl) ?_
    refine lv_icmp_gt (tgt := 14) hx hb dX4_in_7 (by decide) (fun c_7 => ?_) (fun c_7 => ?_)
    · refine lv_iconst (v := 0) hx hb dX4_in_14 (by decide) ?_
      exact kx_rz F hr hlocks hW hS (by first | exact Nat.le_of_ble_eq_true rfl | omega) (by first | exact Nat.le_of_ble_eq_true rfl | omega) (by rfl) (⟨congrArg (fun z => some (Value.int z)) (tw_b_f (tw_in_2 c_7)), rfl⟩) dX4_in_15
    · refine lv_iconst (v := 1) hx hb dX4_in_10 (by decide) ?_
      refine lv_goto (tgt := 15) hx hb dX4_in_11 (by decide) ?_
      exact kx_rz F hr hlocks hW hS (by first | exact Nat.le_of_ble_eq_true rfl | omega) (by first | exact Nat.le_of_ble_eq_true rfl | omega) (by rfl) (⟨congrArg (fun z => some (Value.int z)) (tw_b_t (tw_in_3 c_2 c_7)), rfl⟩) dX4_in_15

set_option maxHeartbeats 4000000 in
set_option maxRecDepth 100000 in
theorem c_X4_asked (l : Launch) (G : kx_G) (z0 : Nat) (ad : kx_A) (nb : Nat) (sg : kx_S) (x : Int32) (hx1 : tw_01 x) : kx_M l yX4_asked wsX4_asked 0 0 0 0 G z0 ad nb sg [.ref (ad 14 0), .int x] (fun r sg' => r = some (.int x) ∧ sg' = kx_up sg 14 0 (upd (sg 14 0) 22 (tw_a1 x))) := by
  refine Met.ofW (cc := cX4_asked) (maxL := 2) (ret := (some .boolean)) (by decide) rfl ?_
  intro p e s m args below meth c s₁ B hml hv
  obtain ⟨rfl, hW, hV⟩ := hv
  have hts := atoms_spec (ws := wsX4_asked) B.pre
  have F : kx_F p s m c cX4_asked 2 RX4 _ wsX4_asked G z0 := ⟨B.exec, B.bytes, hml, findClass_of_methodNamed B.named, hts, hV⟩
  have hx := B.exec; have hb := B.bytes; have hr := B.returns; have hlocks := B.notSynchronized
  have hS : va_S (kx_Ad z0) s.heap s.heap [] := va_S.rf
  have L_62 : Cond.fieldLink RX4 62 (TX4 22).1 (TX4 22).2.1 (TX4 22).2.2.1 ∈ wsX4_asked := by decide +kernel
  have inX4 : ∀ w ∈ u_ws RX4 TX4 23, w ∈ wsX4_asked := by decide +kernel
  have hl := lv_entry ([.ref (ad 14 0), .int x]) (n := 2) (Nat.le_of_ble_eq_true rfl)
  rw [lg_entry_eq]
  generalize (lg_sl ([.ref (ad 14 0), .int x]) ++ List.replicate (2 - (lg_sl ([.ref (ad 14 0), .int x])).length) Slot.unset).toArray = ls at hl ⊢
  have hl : lv_has ls 2 [(0, .ref (ad 14 0)), (1, .int x)] := hl
  refine lv_aload_n hx hb dX4_asked_0 rfl (lv_at hl 0 rfl) ?_
  refine lv_iload_n hx hb dX4_asked_1 rfl (lv_at hl 1 rfl) ?_
  refine lv_if_eq (tgt := 9) hx hb dX4_asked_2 (by decide) (fun c_2 => ?_) (fun c_2 => ?_)
  · refine lv_iconst (v := 1) hx hb dX4_asked_9 (by decide) ?_
    refine kx_p F inX4 tyX4 tyX4_ok nmX4 hW hS 14 0 ⟨by decide, rfl⟩ rfl rfl 22 (by decide) L_62 rfl (v := .int 1) rfl rfl (Nat.le_of_ble_eq_true rfl) (upd (sg 14 0) 22 1) rfl dX4_asked_10 (fun H locs hW hS => ?_)
    have hW : kx_Wd G z0 ad nb (kx_up sg 14 0 (upd (sg 14 0) 22 1)) H := hW
    refine lv_iload_n hx hb dX4_asked_13 rfl (lv_at hl 1 rfl) ?_
    exact kx_rz F hr hlocks hW hS (by first | exact Nat.le_of_ble_eq_true rfl | omega) (by first | exact Nat.le_of_ble_eq_true rfl | omega) (tw_01_nar hx1) (⟨rfl, by rw [tw_a1, if_pos c_2]⟩) dX4_asked_14
  · refine lv_iconst (v := 0) hx hb dX4_asked_5 (by decide) ?_
    refine lv_goto (tgt := 10) hx hb dX4_asked_6 (by decide) ?_
    refine kx_p F inX4 tyX4 tyX4_ok nmX4 hW hS 14 0 ⟨by decide, rfl⟩ rfl rfl 22 (by decide) L_62 rfl (v := .int 0) rfl rfl (Nat.le_of_ble_eq_true rfl) (upd (sg 14 0) 22 0) rfl dX4_asked_10 (fun H locs hW hS => ?_)
    have hW : kx_Wd G z0 ad nb (kx_up sg 14 0 (upd (sg 14 0) 22 0)) H := hW
    refine lv_iload_n hx hb dX4_asked_13 rfl (lv_at hl 1 rfl) ?_
    exact kx_rz F hr hlocks hW hS (by first | exact Nat.le_of_ble_eq_true rfl | omega) (by first | exact Nat.le_of_ble_eq_true rfl | omega) (tw_01_nar hx1) (⟨rfl, by rw [tw_a1, if_neg c_2]⟩) dX4_asked_14

theorem tw_b_01 (p : Bool) : tw_01 (tw_b p) := by cases p; exact Or.inl rfl; exact Or.inr rfl

set_option maxHeartbeats 4000000 in
set_option maxRecDepth 100000 in
theorem c_X4_asked_ (l : Launch) (G : kx_G) (z0 : Nat) (ad : kx_A) (nb : Nat) (sg : kx_S) (x y : Int32) : kx_M l yX4_asked_ wsX4_asked_ 0 0 0 0 G z0 ad nb sg [.ref (ad 14 0), .int x, .int y] (fun r sg' => r = some (.int (tw_b (decide (tw_a2 x y = 0)))) ∧ sg' = kx_up sg 14 0 (upd (sg 14 0) 22 (tw_a2 x y))) := by
  refine Met.ofW (cc := cX4_asked_) (maxL := 3) (ret := (some .boolean)) (by decide) rfl ?_
  intro p e s m args below meth c s₁ B hml hv
  obtain ⟨rfl, hW, hV⟩ := hv
  have hts := atoms_spec (ws := wsX4_asked_) B.pre
  have F : kx_F p s m c cX4_asked_ 3 RX4 _ wsX4_asked_ G z0 := ⟨B.exec, B.bytes, hml, findClass_of_methodNamed B.named, hts, hV⟩
  have hx := B.exec; have hb := B.bytes; have hr := B.returns; have hlocks := B.notSynchronized
  have hS : va_S (kx_Ad z0) s.heap s.heap [] := va_S.rf
  have L_62 : Cond.fieldLink RX4 62 (TX4 22).1 (TX4 22).2.1 (TX4 22).2.2.1 ∈ wsX4_asked_ := by decide +kernel
  have inX4 : ∀ w ∈ u_ws RX4 TX4 23, w ∈ wsX4_asked_ := by decide +kernel
  have hl := lv_entry ([.ref (ad 14 0), .int x, .int y]) (n := 3) (Nat.le_of_ble_eq_true rfl)
  rw [lg_entry_eq]
  generalize (lg_sl ([.ref (ad 14 0), .int x, .int y]) ++ List.replicate (3 - (lg_sl ([.ref (ad 14 0), .int x, .int y])).length) Slot.unset).toArray = ls at hl ⊢
  have hl : lv_has ls 3 [(0, .ref (ad 14 0)), (1, .int x), (2, .int y)] := hl
  refine lv_aload_n hx hb dX4_asked__0 rfl (lv_at hl 0 rfl) ?_
  refine lv_iload_n hx hb dX4_asked__1 rfl (lv_at hl 1 rfl) ?_
  refine lv_if_ne (tgt := 9) hx hb dX4_asked__2 (by decide) (fun c_2 => ?_) (fun c_2 => ?_)
  · refine lv_iload_n hx hb dX4_asked__9 rfl (lv_at hl 2 rfl) ?_
    refine lv_if_eq (tgt := 17) hx hb dX4_asked__10 (by decide) (fun c_10 => ?_) (fun c_10 => ?_)
    · refine lv_iconst (v := 2) hx hb dX4_asked__17 (by decide) ?_
      refine kx_p F inX4 tyX4 tyX4_ok nmX4 hW hS 14 0 ⟨by decide, rfl⟩ rfl rfl 22 (by decide) L_62 rfl (v := .int 2) rfl rfl (Nat.le_of_ble_eq_true rfl) (upd (sg 14 0) 22 2) rfl dX4_asked__18 (fun H locs hW hS => ?_)
      have hW : kx_Wd G z0 ad nb (kx_up sg 14 0 (upd (sg 14 0) 22 2)) H := hW
      refine lv_aload_n hx hb dX4_asked__21 rfl (lv_at hl 0 rfl) ?_
      refine kx_g F inX4 hW 14 0 ⟨by decide, rfl⟩ rfl rfl 22 (by decide) L_62 (v := .int 2) (by first | rfl | (simp only [kx_up_s]; done) | (simp only [kx_up_s, upd_s]; done) | (simp only [kx_up_s]; rfl) | (simp [kx_up, upd]; done)) dX4_asked__22 ?_
      refine lv_if_ne (tgt := 32) hx hb dX4_asked__25 (by decide) (fun c_25 => ?_) (fun c_25 => ?_)
      · refine lv_iconst (v := 0) hx hb dX4_asked__32 (by decide) ?_
        exact kx_rz F hr hlocks hW hS (by first | exact Nat.le_of_ble_eq_true rfl | omega) (by first | exact Nat.le_of_ble_eq_true rfl | omega) (by rfl) (⟨congrArg (fun z => some (Value.int z)) (by rw [show tw_a2 x y = 2 from by rw [tw_a2, if_neg c_2, if_pos c_10]]; rfl), by rw [show tw_a2 x y = 2 from by rw [tw_a2, if_neg c_2, if_pos c_10]]⟩) dX4_asked__33
      · exact absurd c_25 (by decide)
    · refine lv_iconst (v := 0) hx hb dX4_asked__13 (by decide) ?_
      refine lv_goto (tgt := 18) hx hb dX4_asked__14 (by decide) ?_
      refine kx_p F inX4 tyX4 tyX4_ok nmX4 hW hS 14 0 ⟨by decide, rfl⟩ rfl rfl 22 (by decide) L_62 rfl (v := .int 0) rfl rfl (Nat.le_of_ble_eq_true rfl) (upd (sg 14 0) 22 0) rfl dX4_asked__18 (fun H locs hW hS => ?_)
      have hW : kx_Wd G z0 ad nb (kx_up sg 14 0 (upd (sg 14 0) 22 0)) H := hW
      refine lv_aload_n hx hb dX4_asked__21 rfl (lv_at hl 0 rfl) ?_
      refine kx_g F inX4 hW 14 0 ⟨by decide, rfl⟩ rfl rfl 22 (by decide) L_62 (v := .int 0) (by first | rfl | (simp only [kx_up_s]; done) | (simp only [kx_up_s, upd_s]; done) | (simp only [kx_up_s]; rfl) | (simp [kx_up, upd]; done)) dX4_asked__22 ?_
      refine lv_if_ne (tgt := 32) hx hb dX4_asked__25 (by decide) (fun c_25 => ?_) (fun c_25 => ?_)
      · exact absurd rfl c_25
      · refine lv_iconst (v := 1) hx hb dX4_asked__28 (by decide) ?_
        refine lv_goto (tgt := 33) hx hb dX4_asked__29 (by decide) ?_
        exact kx_rz F hr hlocks hW hS (by first | exact Nat.le_of_ble_eq_true rfl | omega) (by first | exact Nat.le_of_ble_eq_true rfl | omega) (by rfl) (⟨congrArg (fun z => some (Value.int z)) (by rw [show tw_a2 x y = 0 from by rw [tw_a2, if_neg c_2, if_neg c_10]]; rfl), by rw [show tw_a2 x y = 0 from by rw [tw_a2, if_neg c_2, if_neg c_10]]⟩) dX4_asked__33
  · refine lv_iconst (v := 1) hx hb dX4_asked__5 (by decide) ?_
    refine lv_goto (tgt := 18) hx hb dX4_asked__6 (by decide) ?_
    refine kx_p F inX4 tyX4 tyX4_ok nmX4 hW hS 14 0 ⟨by decide, rfl⟩ rfl rfl 22 (by decide) L_62 rfl (v := .int 1) rfl rfl (Nat.le_of_ble_eq_true rfl) (upd (sg 14 0) 22 1) rfl dX4_asked__18 (fun H locs hW hS => ?_)
    have hW : kx_Wd G z0 ad nb (kx_up sg 14 0 (upd (sg 14 0) 22 1)) H := hW
    refine lv_aload_n hx hb dX4_asked__21 rfl (lv_at hl 0 rfl) ?_
    refine kx_g F inX4 hW 14 0 ⟨by decide, rfl⟩ rfl rfl 22 (by decide) L_62 (v := .int 1) (by first | rfl | (simp only [kx_up_s]; done) | (simp only [kx_up_s, upd_s]; done) | (simp only [kx_up_s]; rfl) | (simp [kx_up, upd]; done)) dX4_asked__22 ?_
    refine lv_if_ne (tgt := 32) hx hb dX4_asked__25 (by decide) (fun c_25 => ?_) (fun c_25 => ?_)
    · refine lv_iconst (v := 0) hx hb dX4_asked__32 (by decide) ?_
      exact kx_rz F hr hlocks hW hS (by first | exact Nat.le_of_ble_eq_true rfl | omega) (by first | exact Nat.le_of_ble_eq_true rfl | omega) (by rfl) (⟨congrArg (fun z => some (Value.int z)) (by rw [show tw_a2 x y = 1 from by rw [tw_a2, if_pos c_2]]; rfl), by rw [show tw_a2 x y = 1 from by rw [tw_a2, if_pos c_2]]⟩) dX4_asked__33
    · exact absurd c_25 (by decide)

set_option maxHeartbeats 4000000 in
set_option maxRecDepth 100000 in
theorem c_X4_asked__ (l : Launch) (G : kx_G) (z0 : Nat) (ad : kx_A) (nb : Nat) (sg : kx_S) (x y z : Int32) : kx_M l yX4_asked__ wsX4_asked__ 0 0 0 0 G z0 ad nb sg [.ref (ad 14 0), .int x, .int y, .int z] (fun r sg' => r = some (.int (tw_b (decide (tw_a3 x y z = 0)))) ∧ sg' = kx_up sg 14 0 (upd (sg 14 0) 22 (tw_a3 x y z))) := by
  refine Met.ofW (cc := cX4_asked__) (maxL := 4) (ret := (some .boolean)) (by decide) rfl ?_
  intro p e s m args below meth c s₁ B hml hv
  obtain ⟨rfl, hW, hV⟩ := hv
  have hts := atoms_spec (ws := wsX4_asked__) B.pre
  have F : kx_F p s m c cX4_asked__ 4 RX4 _ wsX4_asked__ G z0 := ⟨B.exec, B.bytes, hml, findClass_of_methodNamed B.named, hts, hV⟩
  have hx := B.exec; have hb := B.bytes; have hr := B.returns; have hlocks := B.notSynchronized
  have hS : va_S (kx_Ad z0) s.heap s.heap [] := va_S.rf
  have L_62 : Cond.fieldLink RX4 62 (TX4 22).1 (TX4 22).2.1 (TX4 22).2.2.1 ∈ wsX4_asked__ := by decide +kernel
  have inX4 : ∀ w ∈ u_ws RX4 TX4 23, w ∈ wsX4_asked__ := by decide +kernel
  have hl := lv_entry ([.ref (ad 14 0), .int x, .int y, .int z]) (n := 4) (Nat.le_of_ble_eq_true rfl)
  rw [lg_entry_eq]
  generalize (lg_sl ([.ref (ad 14 0), .int x, .int y, .int z]) ++ List.replicate (4 - (lg_sl ([.ref (ad 14 0), .int x, .int y, .int z])).length) Slot.unset).toArray = ls at hl ⊢
  have hl : lv_has ls 4 [(0, .ref (ad 14 0)), (1, .int x), (2, .int y), (3, .int z)] := hl
  refine lv_aload_n hx hb dX4_asked___0 rfl (lv_at hl 0 rfl) ?_
  refine lv_iload_n hx hb dX4_asked___1 rfl (lv_at hl 1 rfl) ?_
  refine lv_if_ne (tgt := 9) hx hb dX4_asked___2 (by decide) (fun c_2 => ?_) (fun c_2 => ?_)
  · refine lv_iload_n hx hb dX4_asked___9 rfl (lv_at hl 2 rfl) ?_
    refine lv_if_ne (tgt := 17) hx hb dX4_asked___10 (by decide) (fun c_10 => ?_) (fun c_10 => ?_)
    · refine lv_iload_n hx hb dX4_asked___17 rfl (lv_at hl 3 rfl) ?_
      refine lv_if_eq (tgt := 25) hx hb dX4_asked___18 (by decide) (fun c_18 => ?_) (fun c_18 => ?_)
      · refine lv_iconst (v := 3) hx hb dX4_asked___25 (by decide) ?_
        refine kx_p F inX4 tyX4 tyX4_ok nmX4 hW hS 14 0 ⟨by decide, rfl⟩ rfl rfl 22 (by decide) L_62 rfl (v := .int 3) rfl rfl (Nat.le_of_ble_eq_true rfl) (upd (sg 14 0) 22 3) rfl dX4_asked___26 (fun H locs hW hS => ?_)
        have hW : kx_Wd G z0 ad nb (kx_up sg 14 0 (upd (sg 14 0) 22 3)) H := hW
        refine lv_aload_n hx hb dX4_asked___29 rfl (lv_at hl 0 rfl) ?_
        refine kx_g F inX4 hW 14 0 ⟨by decide, rfl⟩ rfl rfl 22 (by decide) L_62 (v := .int 3) (by first | rfl | (simp only [kx_up_s]; done) | (simp only [kx_up_s, upd_s]; done) | (simp only [kx_up_s]; rfl) | (simp [kx_up, upd]; done)) dX4_asked___30 ?_
        refine lv_if_ne (tgt := 40) hx hb dX4_asked___33 (by decide) (fun c_33 => ?_) (fun c_33 => ?_)
        · refine lv_iconst (v := 0) hx hb dX4_asked___40 (by decide) ?_
          exact kx_rz F hr hlocks hW hS (by first | exact Nat.le_of_ble_eq_true rfl | omega) (by first | exact Nat.le_of_ble_eq_true rfl | omega) (by rfl) (⟨congrArg (fun z => some (Value.int z)) (by rw [show tw_a3 x y z = 3 from by rw [tw_a3, if_neg c_2, if_neg c_10, if_pos c_18]]; rfl), by rw [show tw_a3 x y z = 3 from by rw [tw_a3, if_neg c_2, if_neg c_10, if_pos c_18]]⟩) dX4_asked___41
        · exact absurd c_33 (by decide)
      · refine lv_iconst (v := 0) hx hb dX4_asked___21 (by decide) ?_
        refine lv_goto (tgt := 26) hx hb dX4_asked___22 (by decide) ?_
        refine kx_p F inX4 tyX4 tyX4_ok nmX4 hW hS 14 0 ⟨by decide, rfl⟩ rfl rfl 22 (by decide) L_62 rfl (v := .int 0) rfl rfl (Nat.le_of_ble_eq_true rfl) (upd (sg 14 0) 22 0) rfl dX4_asked___26 (fun H locs hW hS => ?_)
        have hW : kx_Wd G z0 ad nb (kx_up sg 14 0 (upd (sg 14 0) 22 0)) H := hW
        refine lv_aload_n hx hb dX4_asked___29 rfl (lv_at hl 0 rfl) ?_
        refine kx_g F inX4 hW 14 0 ⟨by decide, rfl⟩ rfl rfl 22 (by decide) L_62 (v := .int 0) (by first | rfl | (simp only [kx_up_s]; done) | (simp only [kx_up_s, upd_s]; done) | (simp only [kx_up_s]; rfl) | (simp [kx_up, upd]; done)) dX4_asked___30 ?_
        refine lv_if_ne (tgt := 40) hx hb dX4_asked___33 (by decide) (fun c_33 => ?_) (fun c_33 => ?_)
        · exact absurd rfl c_33
        · refine lv_iconst (v := 1) hx hb dX4_asked___36 (by decide) ?_
          refine lv_goto (tgt := 41) hx hb dX4_asked___37 (by decide) ?_
          exact kx_rz F hr hlocks hW hS (by first | exact Nat.le_of_ble_eq_true rfl | omega) (by first | exact Nat.le_of_ble_eq_true rfl | omega) (by rfl) (⟨congrArg (fun z => some (Value.int z)) (by rw [show tw_a3 x y z = 0 from by rw [tw_a3, if_neg c_2, if_neg c_10, if_neg c_18]]; rfl), by rw [show tw_a3 x y z = 0 from by rw [tw_a3, if_neg c_2, if_neg c_10, if_neg c_18]]⟩) dX4_asked___41
    · refine lv_iconst (v := 2) hx hb dX4_asked___13 (by decide) ?_
      refine lv_goto (tgt := 26) hx hb dX4_asked___14 (by decide) ?_
      refine kx_p F inX4 tyX4 tyX4_ok nmX4 hW hS 14 0 ⟨by decide, rfl⟩ rfl rfl 22 (by decide) L_62 rfl (v := .int 2) rfl rfl (Nat.le_of_ble_eq_true rfl) (upd (sg 14 0) 22 2) rfl dX4_asked___26 (fun H locs hW hS => ?_)
      have hW : kx_Wd G z0 ad nb (kx_up sg 14 0 (upd (sg 14 0) 22 2)) H := hW
      refine lv_aload_n hx hb dX4_asked___29 rfl (lv_at hl 0 rfl) ?_
      refine kx_g F inX4 hW 14 0 ⟨by decide, rfl⟩ rfl rfl 22 (by decide) L_62 (v := .int 2) (by first | rfl | (simp only [kx_up_s]; done) | (simp only [kx_up_s, upd_s]; done) | (simp only [kx_up_s]; rfl) | (simp [kx_up, upd]; done)) dX4_asked___30 ?_
      refine lv_if_ne (tgt := 40) hx hb dX4_asked___33 (by decide) (fun c_33 => ?_) (fun c_33 => ?_)
      · refine lv_iconst (v := 0) hx hb dX4_asked___40 (by decide) ?_
        exact kx_rz F hr hlocks hW hS (by first | exact Nat.le_of_ble_eq_true rfl | omega) (by first | exact Nat.le_of_ble_eq_true rfl | omega) (by rfl) (⟨congrArg (fun z => some (Value.int z)) (by rw [show tw_a3 x y z = 2 from by rw [tw_a3, if_neg c_2, if_pos c_10]]; rfl), by rw [show tw_a3 x y z = 2 from by rw [tw_a3, if_neg c_2, if_pos c_10]]⟩) dX4_asked___41
      · exact absurd c_33 (by decide)
  · refine lv_iconst (v := 1) hx hb dX4_asked___5 (by decide) ?_
    refine lv_goto (tgt := 26) hx hb dX4_asked___6 (by decide) ?_
    refine kx_p F inX4 tyX4 tyX4_ok nmX4 hW hS 14 0 ⟨by decide, rfl⟩ rfl rfl 22 (by decide) L_62 rfl (v := .int 1) rfl rfl (Nat.le_of_ble_eq_true rfl) (upd (sg 14 0) 22 1) rfl dX4_asked___26 (fun H locs hW hS => ?_)
    have hW : kx_Wd G z0 ad nb (kx_up sg 14 0 (upd (sg 14 0) 22 1)) H := hW
    refine lv_aload_n hx hb dX4_asked___29 rfl (lv_at hl 0 rfl) ?_
    refine kx_g F inX4 hW 14 0 ⟨by decide, rfl⟩ rfl rfl 22 (by decide) L_62 (v := .int 1) (by first | rfl | (simp only [kx_up_s]; done) | (simp only [kx_up_s, upd_s]; done) | (simp only [kx_up_s]; rfl) | (simp [kx_up, upd]; done)) dX4_asked___30 ?_
    refine lv_if_ne (tgt := 40) hx hb dX4_asked___33 (by decide) (fun c_33 => ?_) (fun c_33 => ?_)
    · refine lv_iconst (v := 0) hx hb dX4_asked___40 (by decide) ?_
      exact kx_rz F hr hlocks hW hS (by first | exact Nat.le_of_ble_eq_true rfl | omega) (by first | exact Nat.le_of_ble_eq_true rfl | omega) (by rfl) (⟨congrArg (fun z => some (Value.int z)) (by rw [show tw_a3 x y z = 1 from by rw [tw_a3, if_pos c_2]]; rfl), by rw [show tw_a3 x y z = 1 from by rw [tw_a3, if_pos c_2]]⟩) dX4_asked___41
    · exact absurd c_33 (by decide)

set_option maxHeartbeats 4000000 in
set_option maxRecDepth 100000 in
theorem c_X4_told (l : Launch) (G : kx_G) (z0 : Nat) (ad : kx_A) (nb : Nat) (sg : kx_S) (x : Int32) : kx_M l yX4_told wsX4_told 0 0 0 0 G z0 ad nb sg [.ref (ad 14 0), .int x] (fun r sg' => r = some (.int x) ∧ sg' = kx_up sg 14 0 (upd (sg 14 0) 22 (0))) := by
  refine Met.ofW (cc := cX4_told) (maxL := 2) (ret := (some .int)) (by decide) rfl ?_
  intro p e s m args below meth c s₁ B hml hv
  obtain ⟨rfl, hW, hV⟩ := hv
  have hts := atoms_spec (ws := wsX4_told) B.pre
  have F : kx_F p s m c cX4_told 2 RX4 _ wsX4_told G z0 := ⟨B.exec, B.bytes, hml, findClass_of_methodNamed B.named, hts, hV⟩
  have hx := B.exec; have hb := B.bytes; have hr := B.returns; have hlocks := B.notSynchronized
  have hS : va_S (kx_Ad z0) s.heap s.heap [] := va_S.rf
  have L_62 : Cond.fieldLink RX4 62 (TX4 22).1 (TX4 22).2.1 (TX4 22).2.2.1 ∈ wsX4_told := by decide +kernel
  have inX4 : ∀ w ∈ u_ws RX4 TX4 23, w ∈ wsX4_told := by decide +kernel
  have hl := lv_entry ([.ref (ad 14 0), .int x]) (n := 2) (Nat.le_of_ble_eq_true rfl)
  rw [lg_entry_eq]
  generalize (lg_sl ([.ref (ad 14 0), .int x]) ++ List.replicate (2 - (lg_sl ([.ref (ad 14 0), .int x])).length) Slot.unset).toArray = ls at hl ⊢
  have hl : lv_has ls 2 [(0, .ref (ad 14 0)), (1, .int x)] := hl
  refine lv_aload_n hx hb dX4_told_0 rfl (lv_at hl 0 rfl) ?_
  refine lv_iconst (v := 0) hx hb dX4_told_1 (by decide) ?_
  refine kx_p F inX4 tyX4 tyX4_ok nmX4 hW hS 14 0 ⟨by decide, rfl⟩ rfl rfl 22 (by decide) L_62 rfl (v := .int 0) rfl rfl (Nat.le_of_ble_eq_true rfl) (upd (sg 14 0) 22 0) rfl dX4_told_2 (fun H locs hW hS => ?_)
  have hW : kx_Wd G z0 ad nb (kx_up sg 14 0 (upd (sg 14 0) 22 0)) H := hW
  refine lv_iload_n hx hb dX4_told_5 rfl (lv_at hl 1 rfl) ?_
  exact kx_ri F hr hlocks hW hS (by first | exact Nat.le_of_ble_eq_true rfl | omega) (by first | exact Nat.le_of_ble_eq_true rfl | omega) (⟨rfl, rfl⟩) dX4_told_6

set_option maxHeartbeats 4000000 in
set_option maxRecDepth 100000 in
theorem c_X4_isBox (l : Launch) (G : kx_G) (z0 : Nat) (ad : kx_A) (nb : Nat) (sg : kx_S) (x : Int32) : kx_M l yX4_isBox wsX4_isBox 1 22 0 0 G z0 ad nb sg [.ref (ad 14 0), .int x] (fun r sg' => r = some (.int (tw_b (tw_in x 0 (sg 14 0 7 - 1)))) ∧ sg' = sg) := by
  refine Met.ofW (cc := cX4_isBox) (maxL := 2) (ret := (some .boolean)) (by decide) rfl ?_
  intro p e s m args below meth c s₁ B hml hv
  obtain ⟨rfl, hW, hV⟩ := hv
  have hts := atoms_spec (ws := wsX4_isBox) B.pre
  have F : kx_F p s m c cX4_isBox 2 RX4 _ wsX4_isBox G z0 := ⟨B.exec, B.bytes, hml, findClass_of_methodNamed B.named, hts, hV⟩
  have hx := B.exec; have hb := B.bytes; have hr := B.returns; have hlocks := B.notSynchronized
  have hS : va_S (kx_Ad z0) s.heap s.heap [] := va_S.rf
  have L_66 : Cond.fieldLink RX4 66 (TX4 7).1 (TX4 7).2.1 (TX4 7).2.2.1 ∈ wsX4_isBox := by decide +kernel
  have inX4 : ∀ w ∈ u_ws RX4 TX4 23, w ∈ wsX4_isBox := by decide +kernel
  have hl := lv_entry ([.ref (ad 14 0), .int x]) (n := 2) (Nat.le_of_ble_eq_true rfl)
  rw [lg_entry_eq]
  generalize (lg_sl ([.ref (ad 14 0), .int x]) ++ List.replicate (2 - (lg_sl ([.ref (ad 14 0), .int x])).length) Slot.unset).toArray = ls at hl ⊢
  have hl : lv_has ls 2 [(0, .ref (ad 14 0)), (1, .int x)] := hl
  refine lv_iload_n hx hb dX4_isBox_0 rfl (lv_at hl 1 rfl) ?_
  refine lv_iconst (v := 0) hx hb dX4_isBox_1 (by decide) ?_
  refine lv_aload_n hx hb dX4_isBox_2 rfl (lv_at hl 0 rfl) ?_
  refine kx_g F inX4 hW 14 0 ⟨by decide, rfl⟩ rfl rfl 7 (by decide) L_66 (v := .int (sg 14 0 7)) rfl dX4_isBox_3 ?_
  refine lv_iconst (v := 1) hx hb dX4_isBox_6 (by decide) ?_
  refine lv_isub hx hb dX4_isBox_7 ?_
  refine kx_cS (na := 3) F (c_X4_in l G z0 ad nb sg x 0 ((sg 14 0 7) - 1)) gX4_isBox_X4_in rfl (by decide +kernel) ⟨Nat.le_of_ble_eq_true rfl, Nat.le_of_ble_eq_true rfl⟩ hW hS (As := [.int x, .int 0, .int ((sg 14 0 7) - 1)]) (rest := []) rfl hl.1 rfl (Nat.le_of_ble_eq_true rfl) dX4_isBox_8 ⟨by first | exact Nat.le_of_ble_eq_true rfl | omega, by first | exact Nat.le_of_ble_eq_true rfl | omega⟩ (fun r9 sg9 H locs hq hW hS => ?_)
  obtain ⟨rfl, e9⟩ := hq
  rw [e9] at hW
  refine W.eq (g2 := F0 m 11 ls [.int (tw_b (tw_in x 0 ((sg 14 0 7) - 1)))]) rfl ?_
  exact kx_rz F hr hlocks hW hS (by first | exact Nat.le_of_ble_eq_true rfl | omega) (by first | exact Nat.le_of_ble_eq_true rfl | omega) (tw_b_nar _) (⟨rfl, rfl⟩) dX4_isBox_11

set_option maxHeartbeats 4000000 in
set_option maxRecDepth 100000 in
theorem c_X4_isDoor (l : Launch) (G : kx_G) (z0 : Nat) (ad : kx_A) (nb : Nat) (sg : kx_S) (x : Int32) : kx_M l yX4_isDoor wsX4_isDoor 1 22 0 0 G z0 ad nb sg [.int x] (fun r sg' => r = some (.int (tw_b (tw_in x 0 9))) ∧ sg' = sg) := by
  refine Met.ofW (cc := cX4_isDoor) (maxL := 1) (ret := (some .boolean)) (by decide) rfl ?_
  intro p e s m args below meth c s₁ B hml hv
  obtain ⟨rfl, hW, hV⟩ := hv
  have hts := atoms_spec (ws := wsX4_isDoor) B.pre
  have F : kx_F p s m c cX4_isDoor 1 RX4 _ wsX4_isDoor G z0 := ⟨B.exec, B.bytes, hml, findClass_of_methodNamed B.named, hts, hV⟩
  have hx := B.exec; have hb := B.bytes; have hr := B.returns; have hlocks := B.notSynchronized
  have hS : va_S (kx_Ad z0) s.heap s.heap [] := va_S.rf
  have hl := lv_entry ([.int x]) (n := 1) (Nat.le_of_ble_eq_true rfl)
  rw [lg_entry_eq]
  generalize (lg_sl ([.int x]) ++ List.replicate (1 - (lg_sl ([.int x])).length) Slot.unset).toArray = ls at hl ⊢
  have hl : lv_has ls 1 [(0, .int x)] := hl
  refine lv_iload_n hx hb dX4_isDoor_0 rfl (lv_at hl 0 rfl) ?_
  refine lv_iconst (v := 0) hx hb dX4_isDoor_1 (by decide) ?_
  refine lv_bipush (v := 9) hx hb dX4_isDoor_2 (by decide) ?_
  refine kx_cS (na := 3) F (c_X4_in l G z0 ad nb sg x 0 9) gX4_isDoor_X4_in rfl (by decide +kernel) ⟨Nat.le_of_ble_eq_true rfl, Nat.le_of_ble_eq_true rfl⟩ hW hS (As := [.int x, .int 0, .int 9]) (rest := []) rfl hl.1 rfl (Nat.le_of_ble_eq_true rfl) dX4_isDoor_4 ⟨by first | exact Nat.le_of_ble_eq_true rfl | omega, by first | exact Nat.le_of_ble_eq_true rfl | omega⟩ (fun r9 sg9 H locs hq hW hS => ?_)
  obtain ⟨rfl, e9⟩ := hq
  rw [e9] at hW
  refine W.eq (g2 := F0 m 7 ls [.int (tw_b (tw_in x 0 9))]) rfl ?_
  exact kx_rz F hr hlocks hW hS (by first | exact Nat.le_of_ble_eq_true rfl | omega) (by first | exact Nat.le_of_ble_eq_true rfl | omega) (tw_b_nar _) (⟨rfl, rfl⟩) dX4_isDoor_7

set_option maxHeartbeats 4000000 in
set_option maxRecDepth 100000 in
theorem c_X4_isPlace (l : Launch) (G : kx_G) (z0 : Nat) (ad : kx_A) (nb : Nat) (sg : kx_S) (x : Int32) : kx_M l yX4_isPlace wsX4_isPlace 1 22 0 0 G z0 ad nb sg [.int x] (fun r sg' => r = some (.int (tw_b (tw_pl x))) ∧ sg' = sg) := by
  refine Met.ofW (cc := cX4_isPlace) (maxL := 1) (ret := (some .boolean)) (by decide) rfl ?_
  intro p e s m args below meth c s₁ B hml hv
  obtain ⟨rfl, hW, hV⟩ := hv
  have hts := atoms_spec (ws := wsX4_isPlace) B.pre
  have F : kx_F p s m c cX4_isPlace 1 RX4 _ wsX4_isPlace G z0 := ⟨B.exec, B.bytes, hml, findClass_of_methodNamed B.named, hts, hV⟩
  have hx := B.exec; have hb := B.bytes; have hr := B.returns; have hlocks := B.notSynchronized
  have hS : va_S (kx_Ad z0) s.heap s.heap [] := va_S.rf
  have hl := lv_entry ([.int x]) (n := 1) (Nat.le_of_ble_eq_true rfl)
  rw [lg_entry_eq]
  generalize (lg_sl ([.int x]) ++ List.replicate (1 - (lg_sl ([.int x])).length) Slot.unset).toArray = ls at hl ⊢
  have hl : lv_has ls 1 [(0, .int x)] := hl
  refine lv_iload_n hx hb dX4_isPlace_0 rfl (lv_at hl 0 rfl) ?_
  refine lv_iconst (v := 0) hx hb dX4_isPlace_1 (by decide) ?_
  refine lv_iconst (v := 4) hx hb dX4_isPlace_2 (by decide) ?_
  refine kx_cS (na := 3) F (c_X4_in l G z0 ad nb sg x 0 4) gX4_isPlace_X4_in rfl (by decide +kernel) ⟨Nat.le_of_ble_eq_true rfl, Nat.le_of_ble_eq_true rfl⟩ hW hS (As := [.int x, .int 0, .int 4]) (rest := []) rfl hl.1 rfl (Nat.le_of_ble_eq_true rfl) dX4_isPlace_3 ⟨by first | exact Nat.le_of_ble_eq_true rfl | omega, by first | exact Nat.le_of_ble_eq_true rfl | omega⟩ (fun r9 sg9 H locs hq hW hS => ?_)
  obtain ⟨rfl, e9⟩ := hq
  rw [e9] at hW
  refine W.eq (g2 := F0 m 6 ls [.int (tw_b (tw_in x 0 4))]) rfl ?_
  refine lv_if_ne (tgt := 26) hx hb dX4_isPlace_6 (by decide) (fun c_6 => ?_) (fun c_6 => ?_)
  · refine lv_iconst (v := 1) hx hb dX4_isPlace_26 (by decide) ?_
    refine lv_goto (tgt := 31) hx hb dX4_isPlace_27 (by decide) ?_
    exact kx_rz F hr hlocks hW hS (by first | exact Nat.le_of_ble_eq_true rfl | omega) (by first | exact Nat.le_of_ble_eq_true rfl | omega) (by rfl) (⟨congrArg (fun z => some (Value.int z)) (by rw [tw_pl, tw_b_1 c_6]; rfl), rfl⟩) dX4_isPlace_31
  · refine lv_iload_n hx hb dX4_isPlace_9 rfl (lv_at hl 0 rfl) ?_
    refine lv_bipush (v := 10) hx hb dX4_isPlace_10 (by decide) ?_
    refine lv_bipush (v := 19) hx hb dX4_isPlace_12 (by decide) ?_
    refine kx_cS (na := 3) F (c_X4_in l G z0 ad nb sg x 10 19) gX4_isPlace_X4_in rfl (by decide +kernel) ⟨Nat.le_of_ble_eq_true rfl, Nat.le_of_ble_eq_true rfl⟩ hW hS (As := [.int x, .int 10, .int 19]) (rest := []) rfl hl.1 rfl (Nat.le_of_ble_eq_true rfl) dX4_isPlace_14 ⟨by first | exact Nat.le_of_ble_eq_true rfl | omega, by first | exact Nat.le_of_ble_eq_true rfl | omega⟩ (fun r9 sg9 H locs hq hW hS => ?_)
    obtain ⟨rfl, e9⟩ := hq
    rw [e9] at hW
    refine W.eq (g2 := F0 m 17 ls [.int (tw_b (tw_in x 10 19))]) rfl ?_
    refine lv_if_ne (tgt := 26) hx hb dX4_isPlace_17 (by decide) (fun c_17 => ?_) (fun c_17 => ?_)
    · refine lv_iconst (v := 1) hx hb dX4_isPlace_26 (by decide) ?_
      refine lv_goto (tgt := 31) hx hb dX4_isPlace_27 (by decide) ?_
      exact kx_rz F hr hlocks hW hS (by first | exact Nat.le_of_ble_eq_true rfl | omega) (by first | exact Nat.le_of_ble_eq_true rfl | omega) (by rfl) (⟨congrArg (fun z => some (Value.int z)) (by rw [tw_pl, tw_b_0 c_6, tw_b_1 c_17]; rfl), rfl⟩) dX4_isPlace_31
    · refine lv_iload_n hx hb dX4_isPlace_20 rfl (lv_at hl 0 rfl) ?_
      refine lv_bipush (v := 30) hx hb dX4_isPlace_21 (by decide) ?_
      refine lv_icmp_ne (tgt := 30) hx hb dX4_isPlace_23 (by decide) (fun c_23 => ?_) (fun c_23 => ?_)
      · refine lv_iconst (v := 0) hx hb dX4_isPlace_30 (by decide) ?_
        exact kx_rz F hr hlocks hW hS (by first | exact Nat.le_of_ble_eq_true rfl | omega) (by first | exact Nat.le_of_ble_eq_true rfl | omega) (by rfl) (⟨congrArg (fun z => some (Value.int z)) (by rw [tw_pl, tw_b_0 c_6, tw_b_0 c_17, decide_eq_false c_23]; rfl), rfl⟩) dX4_isPlace_31
      · refine lv_iconst (v := 1) hx hb dX4_isPlace_26 (by decide) ?_
        refine lv_goto (tgt := 31) hx hb dX4_isPlace_27 (by decide) ?_
        exact kx_rz F hr hlocks hW hS (by first | exact Nat.le_of_ble_eq_true rfl | omega) (by first | exact Nat.le_of_ble_eq_true rfl | omega) (by rfl) (⟨congrArg (fun z => some (Value.int z)) (by rw [tw_pl, tw_b_0 c_6, tw_b_0 c_17, decide_eq_true c_23]; rfl), rfl⟩) dX4_isPlace_31

theorem tw_ge {a b : Int32} (h : a ≤ b) : ¬ b < a := by rw [tw_lt]; rw [tw_le] at h; omega
theorem tw_nge {a b : Int32} (h : ¬ a ≤ b) : b < a := by rw [tw_lt]; rw [tw_le] at h; omega

set_option maxHeartbeats 4000000 in
set_option maxRecDepth 100000 in
theorem c_X4_sort (l : Launch) (G : kx_G) (z0 : Nat) (ad : kx_A) (nb : Nat) (sg : kx_S) (x : Int32) : kx_M l yX4_sort wsX4_sort 0 0 0 0 G z0 ad nb sg [.int x] (fun r sg' => r = some (.int (tw_srt x)) ∧ sg' = sg) := by
  refine Met.ofW (cc := cX4_sort) (maxL := 1) (ret := (some .int)) (by decide) rfl ?_
  intro p e s m args below meth c s₁ B hml hv
  obtain ⟨rfl, hW, hV⟩ := hv
  have hts := atoms_spec (ws := wsX4_sort) B.pre
  have F : kx_F p s m c cX4_sort 1 RX4 _ wsX4_sort G z0 := ⟨B.exec, B.bytes, hml, findClass_of_methodNamed B.named, hts, hV⟩
  have hx := B.exec; have hb := B.bytes; have hr := B.returns; have hlocks := B.notSynchronized
  have hS : va_S (kx_Ad z0) s.heap s.heap [] := va_S.rf
  have hl := lv_entry ([.int x]) (n := 1) (Nat.le_of_ble_eq_true rfl)
  rw [lg_entry_eq]
  generalize (lg_sl ([.int x]) ++ List.replicate (1 - (lg_sl ([.int x])).length) Slot.unset).toArray = ls at hl ⊢
  have hl : lv_has ls 1 [(0, .int x)] := hl
  refine lv_iload_n hx hb dX4_sort_0 rfl (lv_at hl 0 rfl) ?_
  refine lv_if_ne (tgt := 8) hx hb dX4_sort_1 (by decide) (fun c_1 => ?_) (fun c_1 => ?_)
  · refine lv_iload_n hx hb dX4_sort_8 rfl (lv_at hl 0 rfl) ?_
    refine lv_bipush (v := 10) hx hb dX4_sort_9 (by decide) ?_
    refine lv_icmp_ge (tgt := 18) hx hb dX4_sort_11 (by decide) (fun c_11 => ?_) (fun c_11 => ?_)
    · refine lv_iload_n hx hb dX4_sort_18 rfl (lv_at hl 0 rfl) ?_
      refine lv_bipush (v := 30) hx hb dX4_sort_19 (by decide) ?_
      refine lv_icmp_ge (tgt := 28) hx hb dX4_sort_21 (by decide) (fun c_21 => ?_) (fun c_21 => ?_)
      · refine lv_iconst (v := 3) hx hb dX4_sort_28 (by decide) ?_
        exact kx_ri F hr hlocks hW hS (by first | exact Nat.le_of_ble_eq_true rfl | omega) (by first | exact Nat.le_of_ble_eq_true rfl | omega) (⟨congrArg (fun z => some (Value.int z)) (by rw [tw_srt, if_neg c_1, if_neg (tw_ge c_11), if_neg (tw_ge c_21)]), rfl⟩) dX4_sort_29
      · refine lv_iconst (v := 2) hx hb dX4_sort_24 (by decide) ?_
        refine lv_goto (tgt := 29) hx hb dX4_sort_25 (by decide) ?_
        exact kx_ri F hr hlocks hW hS (by first | exact Nat.le_of_ble_eq_true rfl | omega) (by first | exact Nat.le_of_ble_eq_true rfl | omega) (⟨congrArg (fun z => some (Value.int z)) (by rw [tw_srt, if_neg c_1, if_neg (tw_ge c_11), if_pos (tw_nge c_21)]), rfl⟩) dX4_sort_29
    · refine lv_iconst (v := 1) hx hb dX4_sort_14 (by decide) ?_
      refine lv_goto (tgt := 29) hx hb dX4_sort_15 (by decide) ?_
      exact kx_ri F hr hlocks hW hS (by first | exact Nat.le_of_ble_eq_true rfl | omega) (by first | exact Nat.le_of_ble_eq_true rfl | omega) (⟨congrArg (fun z => some (Value.int z)) (by rw [tw_srt, if_neg c_1, if_pos (tw_nge c_11)]), rfl⟩) dX4_sort_29
  · refine lv_iconst (v := 0) hx hb dX4_sort_4 (by decide) ?_
    refine lv_goto (tgt := 29) hx hb dX4_sort_5 (by decide) ?_
    exact kx_ri F hr hlocks hW hS (by first | exact Nat.le_of_ble_eq_true rfl | omega) (by first | exact Nat.le_of_ble_eq_true rfl | omega) (⟨congrArg (fun z => some (Value.int z)) (by rw [tw_srt, if_pos c_1]), rfl⟩) dX4_sort_29

set_option maxHeartbeats 4000000 in
set_option maxRecDepth 100000 in
theorem c_X4_minutes (l : Launch) (G : kx_G) (z0 : Nat) (ad : kx_A) (nb : Nat) (sg : kx_S) (x y : Int32) : kx_M l yX4_minutes wsX4_minutes 1 20 0 0 G z0 ad nb sg [.int x, .int y] (fun r sg' => r = some (.int (tw_mn x y)) ∧ sg' = sg) := by
  refine Met.ofW (cc := cX4_minutes) (maxL := 4) (ret := (some .int)) (by decide) rfl ?_
  intro p e s m args below meth c s₁ B hml hv
  obtain ⟨rfl, hW, hV⟩ := hv
  have hts := atoms_spec (ws := wsX4_minutes) B.pre
  have F : kx_F p s m c cX4_minutes 4 RX4 _ wsX4_minutes G z0 := ⟨B.exec, B.bytes, hml, findClass_of_methodNamed B.named, hts, hV⟩
  have hx := B.exec; have hb := B.bytes; have hr := B.returns; have hlocks := B.notSynchronized
  have hS : va_S (kx_Ad z0) s.heap s.heap [] := va_S.rf
  have hl := lv_entry ([.int x, .int y]) (n := 4) (Nat.le_of_ble_eq_true rfl)
  rw [lg_entry_eq]
  generalize (lg_sl ([.int x, .int y]) ++ List.replicate (4 - (lg_sl ([.int x, .int y])).length) Slot.unset).toArray = ls at hl ⊢
  have hl : lv_has ls 4 [(0, .int x), (1, .int y)] := hl
  refine lv_iload_n hx hb dX4_minutes_0 rfl (lv_at hl 0 rfl) ?_
  refine kx_cS (na := 1) F (c_X4_sort l G z0 ad nb sg x) gX4_minutes_X4_sort rfl (by decide +kernel) ⟨Nat.le_of_ble_eq_true rfl, Nat.le_of_ble_eq_true rfl⟩ hW hS (As := [.int x]) (rest := []) rfl hl.1 rfl (Nat.le_of_ble_eq_true rfl) dX4_minutes_1 ⟨by first | exact Nat.le_of_ble_eq_true rfl | omega, by first | exact Nat.le_of_ble_eq_true rfl | omega⟩ (fun r9 sg9 H locs hq hW hS => ?_)
  obtain ⟨rfl, e9⟩ := hq
  rw [e9] at hW
  refine W.eq (g2 := F0 m 4 ls [.int (tw_srt x)]) rfl ?_
  refine lv_istore_n (lv' := [(2, .int (tw_srt x)), (0, .int x), (1, .int y)]) hx hb dX4_minutes_4 rfl hl (by decide) rfl (fun ls hl => ?_)
  refine lv_iload_n hx hb dX4_minutes_5 rfl (lv_at hl 2 rfl) ?_
  refine kx_cS (na := 1) F (c_X4_sort l G z0 ad nb sg y) gX4_minutes_X4_sort rfl (by decide +kernel) ⟨Nat.le_of_ble_eq_true rfl, Nat.le_of_ble_eq_true rfl⟩ hW hS (As := [.int y]) (rest := []) rfl hl.1 rfl (Nat.le_of_ble_eq_true rfl) dX4_minutes_6 ⟨by first | exact Nat.le_of_ble_eq_true rfl | omega, by first | exact Nat.le_of_ble_eq_true rfl | omega⟩ (fun r9 sg9 H locs hq hW hS => ?_)
  obtain ⟨rfl, e9⟩ := hq
  rw [e9] at hW
  refine W.eq (g2 := F0 m 9 ls [.int (tw_srt y)]) rfl ?_
  refine lv_istore_n (lv' := [(3, .int (tw_srt y)), (2, .int (tw_srt x)), (0, .int x), (1, .int y)]) hx hb dX4_minutes_9 rfl hl (by decide) rfl (fun ls hl => ?_)
  refine lv_iload_n hx hb dX4_minutes_10 rfl (lv_at hl 2 rfl) ?_
  refine lv_iload_n hx hb dX4_minutes_11 rfl (lv_at hl 3 rfl) ?_
  refine lv_icmp_ne (tgt := 17) hx hb dX4_minutes_12 (by decide) (fun c_12 => ?_) (fun c_12 => ?_)
  · refine lv_iload_n hx hb dX4_minutes_17 rfl (lv_at hl 1 rfl) ?_
    refine lv_iconst (v := 3) hx hb dX4_minutes_18 (by decide) ?_
    refine lv_icmp_ne (tgt := 25) hx hb dX4_minutes_19 (by decide) (fun c_19 => ?_) (fun c_19 => ?_)
    · refine lv_iload_n hx hb dX4_minutes_25 rfl (lv_at hl 0 rfl) ?_
      refine lv_iconst (v := 3) hx hb dX4_minutes_26 (by decide) ?_
      refine lv_icmp_ne (tgt := 50) hx hb dX4_minutes_27 (by decide) (fun c_27 => ?_) (fun c_27 => ?_)
      · refine lv_iload_n hx hb dX4_minutes_50 rfl (lv_at hl 1 rfl) ?_
        refine lv_iload_n hx hb dX4_minutes_51 rfl (lv_at hl 0 rfl) ?_
        refine lv_icmp_ne (tgt := 68) hx hb dX4_minutes_52 (by decide) (fun c_52 => ?_) (fun c_52 => ?_)
        · refine lv_iload_n hx hb dX4_minutes_68 rfl (lv_at hl 1 rfl) ?_
          refine lv_iload_n hx hb dX4_minutes_69 rfl (lv_at hl 0 rfl) ?_
          refine lv_iadd hx hb dX4_minutes_70 ?_
          refine lv_iconst (v := 1) hx hb dX4_minutes_71 (by decide) ?_
          refine lv_icmp_ne (tgt := 79) hx hb dX4_minutes_72 (by decide) (fun c_72 => ?_) (fun c_72 => ?_)
          · refine lv_iload_n hx hb dX4_minutes_79 rfl (lv_at hl 1 rfl) ?_
            refine lv_iload_n hx hb dX4_minutes_80 rfl (lv_at hl 0 rfl) ?_
            refine lv_iadd hx hb dX4_minutes_81 ?_
            refine lv_iconst (v := 3) hx hb dX4_minutes_82 (by decide) ?_
            refine lv_icmp_ne (tgt := 90) hx hb dX4_minutes_83 (by decide) (fun c_83 => ?_) (fun c_83 => ?_)
            · refine lv_bipush (v := 8) hx hb dX4_minutes_90 (by decide) ?_
              exact kx_ri F hr hlocks hW hS (by first | exact Nat.le_of_ble_eq_true rfl | omega) (by first | exact Nat.le_of_ble_eq_true rfl | omega) (⟨congrArg (fun z => some (Value.int z)) (by rw [tw_mn, if_neg c_12, if_neg c_19, if_neg c_27, if_neg c_52, if_neg c_72, if_neg c_83]), rfl⟩) dX4_minutes_92
            · refine lv_iconst (v := 3) hx hb dX4_minutes_86 (by decide) ?_
              refine lv_goto (tgt := 92) hx hb dX4_minutes_87 (by decide) ?_
              exact kx_ri F hr hlocks hW hS (by first | exact Nat.le_of_ble_eq_true rfl | omega) (by first | exact Nat.le_of_ble_eq_true rfl | omega) (⟨congrArg (fun z => some (Value.int z)) (by rw [tw_mn, if_neg c_12, if_neg c_19, if_neg c_27, if_neg c_52, if_neg c_72, if_pos c_83]), rfl⟩) dX4_minutes_92
          · refine lv_iconst (v := 5) hx hb dX4_minutes_75 (by decide) ?_
            refine lv_goto (tgt := 92) hx hb dX4_minutes_76 (by decide) ?_
            exact kx_ri F hr hlocks hW hS (by first | exact Nat.le_of_ble_eq_true rfl | omega) (by first | exact Nat.le_of_ble_eq_true rfl | omega) (⟨congrArg (fun z => some (Value.int z)) (by rw [tw_mn, if_neg c_12, if_neg c_19, if_neg c_27, if_neg c_52, if_pos c_72]), rfl⟩) dX4_minutes_92
        · refine lv_iload_n hx hb dX4_minutes_55 rfl (lv_at hl 1 rfl) ?_
          refine lv_iconst (v := 1) hx hb dX4_minutes_56 (by decide) ?_
          refine lv_icmp_ne (tgt := 65) hx hb dX4_minutes_57 (by decide) (fun c_57 => ?_) (fun c_57 => ?_)
          · refine lv_bipush (v := 6) hx hb dX4_minutes_65 (by decide) ?_
            exact kx_ri F hr hlocks hW hS (by first | exact Nat.le_of_ble_eq_true rfl | omega) (by first | exact Nat.le_of_ble_eq_true rfl | omega) (⟨congrArg (fun z => some (Value.int z)) (by rw [tw_mn, if_neg c_12, if_neg c_19, if_neg c_27, if_pos c_52, if_neg c_57]), rfl⟩) dX4_minutes_67
          · refine lv_bipush (v := 10) hx hb dX4_minutes_60 (by decide) ?_
            refine lv_goto (tgt := 67) hx hb dX4_minutes_62 (by decide) ?_
            exact kx_ri F hr hlocks hW hS (by first | exact Nat.le_of_ble_eq_true rfl | omega) (by first | exact Nat.le_of_ble_eq_true rfl | omega) (⟨congrArg (fun z => some (Value.int z)) (by rw [tw_mn, if_neg c_12, if_neg c_19, if_neg c_27, if_pos c_52, if_pos c_57]), rfl⟩) dX4_minutes_67
      · refine lv_iload_n hx hb dX4_minutes_30 rfl (lv_at hl 1 rfl) ?_
        refine lv_if_ne (tgt := 39) hx hb dX4_minutes_31 (by decide) (fun c_31 => ?_) (fun c_31 => ?_)
        · refine lv_iload_n hx hb dX4_minutes_39 rfl (lv_at hl 1 rfl) ?_
          refine lv_iconst (v := 1) hx hb dX4_minutes_40 (by decide) ?_
          refine lv_icmp_ne (tgt := 48) hx hb dX4_minutes_41 (by decide) (fun c_41 => ?_) (fun c_41 => ?_)
          · refine lv_iconst (v := 2) hx hb dX4_minutes_48 (by decide) ?_
            exact kx_ri F hr hlocks hW hS (by first | exact Nat.le_of_ble_eq_true rfl | omega) (by first | exact Nat.le_of_ble_eq_true rfl | omega) (⟨congrArg (fun z => some (Value.int z)) (by rw [tw_mn, if_neg c_12, if_neg c_19, if_pos c_27, if_neg c_31, if_neg c_41]), rfl⟩) dX4_minutes_49
          · refine lv_iconst (v := 4) hx hb dX4_minutes_44 (by decide) ?_
            refine lv_goto (tgt := 49) hx hb dX4_minutes_45 (by decide) ?_
            exact kx_ri F hr hlocks hW hS (by first | exact Nat.le_of_ble_eq_true rfl | omega) (by first | exact Nat.le_of_ble_eq_true rfl | omega) (⟨congrArg (fun z => some (Value.int z)) (by rw [tw_mn, if_neg c_12, if_neg c_19, if_pos c_27, if_neg c_31, if_pos c_41]), rfl⟩) dX4_minutes_49
        · refine lv_bipush (v := 9) hx hb dX4_minutes_34 (by decide) ?_
          refine lv_goto (tgt := 49) hx hb dX4_minutes_36 (by decide) ?_
          exact kx_ri F hr hlocks hW hS (by first | exact Nat.le_of_ble_eq_true rfl | omega) (by first | exact Nat.le_of_ble_eq_true rfl | omega) (⟨congrArg (fun z => some (Value.int z)) (by rw [tw_mn, if_neg c_12, if_neg c_19, if_pos c_27, if_pos c_31]), rfl⟩) dX4_minutes_49
    · refine lv_ldc (v := 1000000) hx hb F.2.2.2.1 (hts (.constant RX4 77 1000000) (by decide +kernel)) dX4_minutes_22 ?_
      exact kx_ri F hr hlocks hW hS (by first | exact Nat.le_of_ble_eq_true rfl | omega) (by first | exact Nat.le_of_ble_eq_true rfl | omega) (⟨congrArg (fun z => some (Value.int z)) (by rw [tw_mn, if_neg c_12, if_pos c_19]), rfl⟩) dX4_minutes_24
  · refine lv_iconst (v := 0) hx hb dX4_minutes_15 (by decide) ?_
    exact kx_ri F hr hlocks hW hS (by first | exact Nat.le_of_ble_eq_true rfl | omega) (by first | exact Nat.le_of_ble_eq_true rfl | omega) (⟨congrArg (fun z => some (Value.int z)) (by rw [tw_mn, if_pos c_12]), rfl⟩) dX4_minutes_16

theorem tw_mt_4 {m : Nat} (h : m < 14) (c : ¬ nI m ≤ 3) : 4 ≤ m := by
  rcases Nat.lt_or_ge m 4 with q | q
  · exact absurd (nI_le (b := 3) (by omega) (by decide)) c
  · exact q
theorem tw_mt_3 {m : Nat} (h4 : 4 ≤ m) (h : m < 14) (c : nI m ≤ 3) : False := nI_ge (a := 3) (b := m) (by omega) (by omega) c

set_option maxHeartbeats 4000000 in
set_option maxRecDepth 100000 in
theorem c_X4_trustOf (l : Launch) (G : kx_G) (z0 : Nat) (ad : kx_A) (nb : Nat) (sg : kx_S) (a : Nat) (ha : a < 192) (hm : tw_who (sg 23 0 a)) : kx_M l yX4_trustOf wsX4_trustOf 0 0 0 0 G z0 ad nb sg [.ref (ad 14 0), .int (nI a)] (fun r sg' => r = some (.int (tw_trust (sg 24 0) (sg 29 0) (tw_mk (sg 23 0 a)))) ∧ sg' = sg) := by
  refine Met.ofW (cc := cX4_trustOf) (maxL := 3) (ret := (some .int)) (by decide) rfl ?_
  intro p e s m args below meth c s₁ B hml hv
  obtain ⟨rfl, hW, hV⟩ := hv
  have hts := atoms_spec (ws := wsX4_trustOf) B.pre
  have F : kx_F p s m c cX4_trustOf 3 RX4 _ wsX4_trustOf G z0 := ⟨B.exec, B.bytes, hml, findClass_of_methodNamed B.named, hts, hV⟩
  have hx := B.exec; have hb := B.bytes; have hr := B.returns; have hlocks := B.notSynchronized
  have hS : va_S (kx_Ad z0) s.heap s.heap [] := va_S.rf
  have L_35 : Cond.fieldLink RX4 35 (TX4 10).1 (TX4 10).2.1 (TX4 10).2.2.1 ∈ wsX4_trustOf := by decide +kernel
  have L_38 : Cond.fieldLink RX4 38 (TX4 11).1 (TX4 11).2.1 (TX4 11).2.2.1 ∈ wsX4_trustOf := by decide +kernel
  have L_53 : Cond.fieldLink RX4 53 (TX4 16).1 (TX4 16).2.1 (TX4 16).2.2.1 ∈ wsX4_trustOf := by decide +kernel
  have inX4 : ∀ w ∈ u_ws RX4 TX4 23, w ∈ wsX4_trustOf := by decide +kernel
  have hl := lv_entry ([.ref (ad 14 0), .int (nI a)]) (n := 3) (Nat.le_of_ble_eq_true rfl)
  rw [lg_entry_eq]
  generalize (lg_sl ([.ref (ad 14 0), .int (nI a)]) ++ List.replicate (3 - (lg_sl ([.ref (ad 14 0), .int (nI a)])).length) Slot.unset).toArray = ls at hl ⊢
  have hl : lv_has ls 3 [(0, .ref (ad 14 0)), (1, .int (nI a))] := hl
  refine lv_aload_n hx hb dX4_trustOf_0 rfl (lv_at hl 0 rfl) ?_
  refine kx_g F inX4 hW 14 0 ⟨by decide, rfl⟩ rfl rfl 10 (by decide) L_35 (v := .ref (ad 23 0)) rfl dX4_trustOf_1 ?_
  refine lv_iload_n hx hb dX4_trustOf_4 rfl (lv_at hl 1 rfl) ?_
  refine kx_ald F hW 23 0 ⟨by decide, rfl⟩ rfl a ha (by decide) (v := sg 23 0 a) rfl dX4_trustOf_5 ?_
  refine lv_istore_n (lv' := [(2, .int (sg 23 0 a)), (0, .ref (ad 14 0)), (1, .int (nI a))]) hx hb dX4_trustOf_6 rfl hl (by decide) rfl (fun ls hl => ?_)
  refine lv_iload_n hx hb dX4_trustOf_7 rfl (lv_at hl 0 rfl) ?_
  refine lv_iconst (v := (-1)) hx hb dX4_trustOf_8 (by decide) ?_
  refine lv_icmp_ne (tgt := 17) hx hb dX4_trustOf_9 (by decide) (fun c_9 => ?_) (fun c_9 => ?_)
  · obtain ⟨m, hm14, em⟩ := hm.resolve_left c_9
    refine lv_iload_n hx hb dX4_trustOf_17 rfl (lv_at hl 0 rfl) ?_
    refine lv_iconst (v := 3) hx hb dX4_trustOf_18 (by decide) ?_
    refine lv_icmp_le (tgt := 37) hx hb dX4_trustOf_19 (by decide) (fun c_19 => ?_) (fun c_19 => ?_)
    · refine lv_aload_n hx hb dX4_trustOf_37 rfl (lv_at hl 1 rfl) ?_
      refine kx_g F inX4 hW 14 0 ⟨by decide, rfl⟩ rfl rfl 11 (by decide) L_38 (v := .ref (ad 24 0)) rfl dX4_trustOf_38 ?_
      refine lv_iload_n hx hb dX4_trustOf_41 rfl (lv_at hl 0 rfl) ?_
      rw [em]
      refine kx_ald F hW 24 0 ⟨by decide, rfl⟩ rfl m (by omega) (by decide) (v := sg 24 0 m) rfl dX4_trustOf_42 ?_
      exact kx_ri F hr hlocks hW hS (by first | exact Nat.le_of_ble_eq_true rfl | omega) (by first | exact Nat.le_of_ble_eq_true rfl | omega) (⟨congrArg (fun z => some (Value.int z)) (by rw [tw_mk_nI hm14, tw_trust, if_neg (by omega), if_neg (fun h => tw_mt_3 h.1 hm14 (by rw [← em]; exact c_19))]), rfl⟩) dX4_trustOf_43
    · refine lv_aload_n hx hb dX4_trustOf_22 rfl (lv_at hl 1 rfl) ?_
      refine kx_g F inX4 hW 14 0 ⟨by decide, rfl⟩ rfl rfl 16 (by decide) L_53 (v := .ref (ad 29 0)) rfl dX4_trustOf_23 ?_
      refine lv_iload_n hx hb dX4_trustOf_26 rfl (lv_at hl 0 rfl) ?_
      refine lv_iconst (v := 4) hx hb dX4_trustOf_27 (by decide) ?_
      refine lv_isub hx hb dX4_trustOf_28 ?_
      have hm4 : 4 ≤ m := tw_mt_4 hm14 (by rw [← em]; exact c_19)
      rw [em, show nI m - 4 = nI (m - 4) from pk_sub (b := 4) hm4]
      refine kx_zald F hW 29 0 ⟨by decide, rfl⟩ rfl (m - 4) (by omega) (by decide) (v := sg 29 0 (m - 4)) rfl dX4_trustOf_29 ?_
      refine lv_if_eq (tgt := 37) hx hb dX4_trustOf_30 (by decide) (fun c_30 => ?_) (fun c_30 => ?_)
      · refine lv_aload_n hx hb dX4_trustOf_37 rfl (lv_at hl 1 rfl) ?_
        refine kx_g F inX4 hW 14 0 ⟨by decide, rfl⟩ rfl rfl 11 (by decide) L_38 (v := .ref (ad 24 0)) rfl dX4_trustOf_38 ?_
        refine lv_iload_n hx hb dX4_trustOf_41 rfl (lv_at hl 0 rfl) ?_
        rw [em]
        refine kx_ald F hW 24 0 ⟨by decide, rfl⟩ rfl m (by omega) (by decide) (v := sg 24 0 m) rfl dX4_trustOf_42 ?_
        exact kx_ri F hr hlocks hW hS (by first | exact Nat.le_of_ble_eq_true rfl | omega) (by first | exact Nat.le_of_ble_eq_true rfl | omega) (⟨congrArg (fun z => some (Value.int z)) (by rw [tw_mk_nI hm14, tw_trust, if_neg (by omega), if_neg (fun h => h.2 c_30)]), rfl⟩) dX4_trustOf_43
      · refine lv_iconst (v := 1) hx hb dX4_trustOf_33 (by decide) ?_
        refine lv_goto (tgt := 43) hx hb dX4_trustOf_34 (by decide) ?_
        exact kx_ri F hr hlocks hW hS (by first | exact Nat.le_of_ble_eq_true rfl | omega) (by first | exact Nat.le_of_ble_eq_true rfl | omega) (⟨congrArg (fun z => some (Value.int z)) (by rw [tw_mk_nI hm14, tw_trust, if_neg (by omega), if_pos ⟨hm4, c_30⟩]), rfl⟩) dX4_trustOf_43
  · refine lv_bipush (v := 50) hx hb dX4_trustOf_12 (by decide) ?_
    refine lv_goto (tgt := 43) hx hb dX4_trustOf_14 (by decide) ?_
    exact kx_ri F hr hlocks hW hS (by first | exact Nat.le_of_ble_eq_true rfl | omega) (by first | exact Nat.le_of_ble_eq_true rfl | omega) (⟨congrArg (fun z => some (Value.int z)) (by rw [c_9, tw_mk_m1, tw_trust, if_pos rfl]), rfl⟩) dX4_trustOf_43

set_option maxHeartbeats 4000000 in
set_option maxRecDepth 100000 in
theorem c_X4_placeBy (l : Launch) (G : kx_G) (z0 : Nat) (ad : kx_A) (nb : Nat) (sg : kx_S) (i : Nat) (hi : i < 16) (n : Nat) (hn : sg 17 0 i = nI n) (h12 : n ≤ 12) (st : Int32) : kx_M l yX4_placeBy wsX4_placeBy 0 0 0 0 G z0 ad nb sg [.ref (ad 14 0), .int (nI i), .int st] (fun r sg' => r = some (.int (tw_last st (fun k => sg 21 0 (12 * i + k)) n)) ∧ sg' = sg) := by
  refine Met.ofW (cc := cX4_placeBy) (maxL := 5) (ret := (some .int)) (by decide) rfl ?_
  intro p e s m args below meth c s₁ B hml hv
  obtain ⟨rfl, hW, hV⟩ := hv
  have hts := atoms_spec (ws := wsX4_placeBy) B.pre
  have F : kx_F p s m c cX4_placeBy 5 RX4 _ wsX4_placeBy G z0 := ⟨B.exec, B.bytes, hml, findClass_of_methodNamed B.named, hts, hV⟩
  have hx := B.exec; have hb := B.bytes; have hr := B.returns; have hlocks := B.notSynchronized
  have hS : va_S (kx_Ad z0) s.heap s.heap [] := va_S.rf
  have L_16 : Cond.fieldLink RX4 16 (TX4 3).1 (TX4 3).2.1 (TX4 3).2.2.1 ∈ wsX4_placeBy := by decide +kernel
  have L_29 : Cond.fieldLink RX4 29 (TX4 8).1 (TX4 8).2.1 (TX4 8).2.2.1 ∈ wsX4_placeBy := by decide +kernel
  have inX4 : ∀ w ∈ u_ws RX4 TX4 23, w ∈ wsX4_placeBy := by decide +kernel
  have hl := lv_entry ([.ref (ad 14 0), .int (nI i), .int st]) (n := 5) (Nat.le_of_ble_eq_true rfl)
  rw [lg_entry_eq]
  generalize (lg_sl ([.ref (ad 14 0), .int (nI i), .int st]) ++ List.replicate (5 - (lg_sl ([.ref (ad 14 0), .int (nI i), .int st])).length) Slot.unset).toArray = ls at hl ⊢
  have hl : lv_has ls 5 [(0, .ref (ad 14 0)), (1, .int (nI i)), (2, .int st)] := hl
  have loop : ∀ (j k : Nat), n = k + j → ∀ (H : Heap) (locs : List Loc) (ls : Array Slot), kx_Wd G z0 ad nb sg H → va_S (kx_Ad z0) s.heap H locs → lv_has ls 5 [(4, .int (nI k)), (3, .int (tw_last st (fun k => sg 21 0 (12 * i + k)) k)), (0, .ref (ad 14 0)), (1, .int (nI i)), (2, .int st)] → W p l e (headSpec wsX4_placeBy { frames := 0, cells := 0, slots := 0, locals := 0 }).room s m ([.ref (ad 14 0), .int (nI i), .int st] : List Value).toArray below meth c H locs 0 0 (MQ below (kx_Q G z0 ad nb (fun r sg' => r = some (.int (tw_last st (fun k => sg 21 0 (12 * i + k)) n)) ∧ sg' = sg)) ([.ref (ad 14 0), .int (nI i), .int st] : List Value).toArray s 0 0 (kx_Ad z0)) (F0 m 5 ls []) := by
    intro j
    induction j with
    | zero =>
      intro k  hk H locs ls hW hS hl
      refine lv_iload hx hb dX4_placeBy_5 (lv_at hl 0 rfl) ?_
      refine lv_aload_n hx hb dX4_placeBy_7 rfl (lv_at hl 2 rfl) ?_
      refine kx_g F inX4 hW 14 0 ⟨by decide, rfl⟩ rfl rfl 3 (by decide) L_16 (v := .ref (ad 17 0)) rfl dX4_placeBy_8 ?_
      refine lv_iload_n hx hb dX4_placeBy_11 rfl (lv_at hl 3 rfl) ?_
      refine kx_ald F hW 17 0 ⟨by decide, rfl⟩ rfl i (by omega) (by decide) (v := nI n) hn dX4_placeBy_12 ?_
      refine lv_icmp_ge (tgt := 49) hx hb dX4_placeBy_13 (by decide) (fun c_13 => ?_) (fun c_13 => ?_)
      · refine lv_iload_n hx hb dX4_placeBy_49 rfl (lv_at hl 1 rfl) ?_
        exact kx_ri F hr hlocks hW hS (by first | exact Nat.le_of_ble_eq_true rfl | omega) (by first | exact Nat.le_of_ble_eq_true rfl | omega) (⟨congrArg (fun z => some (Value.int z)) (by rw [show n = k from by omega]), rfl⟩) dX4_placeBy_50
      · exact absurd (nI_le (by omega) (by omega)) c_13
    | succ j ih =>
      intro k  hk H locs ls hW hS hl
      refine lv_iload hx hb dX4_placeBy_5 (lv_at hl 0 rfl) ?_
      refine lv_aload_n hx hb dX4_placeBy_7 rfl (lv_at hl 2 rfl) ?_
      refine kx_g F inX4 hW 14 0 ⟨by decide, rfl⟩ rfl rfl 3 (by decide) L_16 (v := .ref (ad 17 0)) rfl dX4_placeBy_8 ?_
      refine lv_iload_n hx hb dX4_placeBy_11 rfl (lv_at hl 3 rfl) ?_
      refine kx_ald F hW 17 0 ⟨by decide, rfl⟩ rfl i (by omega) (by decide) (v := nI n) hn dX4_placeBy_12 ?_
      refine lv_icmp_ge (tgt := 49) hx hb dX4_placeBy_13 (by decide) (fun c_13 => ?_) (fun c_13 => ?_)
      · exact absurd c_13 (nI_ge (by omega) (by omega))
      · refine lv_iload_n hx hb dX4_placeBy_16 rfl (lv_at hl 4 rfl) ?_
        refine lv_iload hx hb dX4_placeBy_17 (lv_at hl 0 rfl) ?_
        refine lv_ishr hx hb dX4_placeBy_19 ?_
        refine lv_iconst (v := 1) hx hb dX4_placeBy_20 (by decide) ?_
        refine lv_iand hx hb dX4_placeBy_21 ?_
        refine lv_iconst (v := 1) hx hb dX4_placeBy_22 (by decide) ?_
        refine lv_icmp_ne (tgt := 41) hx hb dX4_placeBy_23 (by decide) (fun c_23 => ?_) (fun c_23 => ?_)
        · refine lv_iload_n hx hb dX4_placeBy_41 rfl (lv_at hl 1 rfl) ?_
          refine lv_istore_n (lv' := [(3, .int (tw_last st (fun k => sg 21 0 (12 * i + k)) k)), (4, .int (nI k)), (0, .ref (ad 14 0)), (1, .int (nI i)), (2, .int st)]) hx hb dX4_placeBy_42 rfl hl (by decide) rfl (fun ls hl => ?_)
          refine lv_iinc (v := nI (k + 1)) (lv' := [(4, .int (nI (k + 1))), (3, .int (tw_last st (fun k => sg 21 0 (12 * i + k)) k)), (0, .ref (ad 14 0)), (1, .int (nI i)), (2, .int st)]) hx hb dX4_placeBy_43 hl (k := 1) rfl (nI_1 k) (by decide) rfl (fun ls hl => ?_)
          refine lv_goto (tgt := 5) hx hb dX4_placeBy_46 (by decide) ?_
          exact ih (k + 1) (by omega) H locs ls hW hS (by rw [show tw_last st (fun k => sg 21 0 (12 * i + k)) (k + 1) = tw_last st (fun k => sg 21 0 (12 * i + k)) k from tw_last_f (decide_eq_false c_23)]; exact lv_sub hl [0, 1, 2, 3, 4] rfl)
        · refine lv_aload_n hx hb dX4_placeBy_26 rfl (lv_at hl 2 rfl) ?_
          refine kx_g F inX4 hW 14 0 ⟨by decide, rfl⟩ rfl rfl 8 (by decide) L_29 (v := .ref (ad 21 0)) rfl dX4_placeBy_27 ?_
          refine lv_bipush (v := 12) hx hb dX4_placeBy_30 (by decide) ?_
          refine lv_iload_n hx hb dX4_placeBy_32 rfl (lv_at hl 3 rfl) ?_
          refine lv_imul hx hb dX4_placeBy_33 ?_
          refine lv_iload hx hb dX4_placeBy_34 (lv_at hl 0 rfl) ?_
          refine lv_iadd hx hb dX4_placeBy_36 ?_
          rw [tw_ix i k]
          refine kx_ald F hW 21 0 ⟨by decide, rfl⟩ rfl (12 * i + k) (by omega) (by decide) (v := sg 21 0 (12 * i + k)) rfl dX4_placeBy_37 ?_
          refine lv_goto (tgt := 42) hx hb dX4_placeBy_38 (by decide) ?_
          refine lv_istore_n (lv' := [(3, .int (sg 21 0 (12 * i + k))), (4, .int (nI k)), (0, .ref (ad 14 0)), (1, .int (nI i)), (2, .int st)]) hx hb dX4_placeBy_42 rfl hl (by decide) rfl (fun ls hl => ?_)
          refine lv_iinc (v := nI (k + 1)) (lv' := [(4, .int (nI (k + 1))), (3, .int (sg 21 0 (12 * i + k))), (0, .ref (ad 14 0)), (1, .int (nI i)), (2, .int st)]) hx hb dX4_placeBy_43 hl (k := 1) rfl (nI_1 k) (by decide) rfl (fun ls hl => ?_)
          refine lv_goto (tgt := 5) hx hb dX4_placeBy_46 (by decide) ?_
          exact ih (k + 1) (by omega) H locs ls hW hS (by rw [show tw_last st (fun k => sg 21 0 (12 * i + k)) (k + 1) = sg 21 0 (12 * i + k) from tw_last_t (decide_eq_true c_23)]; exact lv_sub hl [0, 1, 2, 3, 4] rfl)
  refine lv_iconst (v := 0) hx hb dX4_placeBy_0 (by decide) ?_
  refine lv_istore_n (lv' := [(3, .int 0), (0, .ref (ad 14 0)), (1, .int (nI i)), (2, .int st)]) hx hb dX4_placeBy_1 rfl hl (by decide) rfl (fun ls hl => ?_)
  refine lv_iconst (v := 0) hx hb dX4_placeBy_2 (by decide) ?_
  refine lv_istore (lv' := [(4, .int 0), (3, .int 0), (0, .ref (ad 14 0)), (1, .int (nI i)), (2, .int st)]) hx hb dX4_placeBy_3 hl (by decide) rfl (fun ls hl => ?_)
  exact loop n 0 (by omega) _ _ ls hW hS (lv_sub hl [0, 1, 2, 3, 4] rfl)

set_option maxHeartbeats 4000000 in
set_option maxRecDepth 100000 in
theorem c_X4_courierBy (l : Launch) (G : kx_G) (z0 : Nat) (ad : kx_A) (nb : Nat) (sg : kx_S) (i : Nat) (hi : i < 16) (n : Nat) (hn : sg 17 0 i = nI n) (h12 : n ≤ 12) (st : Int32) : kx_M l yX4_courierBy wsX4_courierBy 1 22 0 0 G z0 ad nb sg [.ref (ad 14 0), .int (nI i), .int st] (fun r sg' => r = some (.int (tw_cour st (fun k => sg 21 0 (12 * i + k)) n)) ∧ sg' = sg) := by
  refine Met.ofW (cc := cX4_courierBy) (maxL := 6) (ret := (some .int)) (by decide) rfl ?_
  intro p e s m args below meth c s₁ B hml hv
  obtain ⟨rfl, hW, hV⟩ := hv
  have hts := atoms_spec (ws := wsX4_courierBy) B.pre
  have F : kx_F p s m c cX4_courierBy 6 RX4 _ wsX4_courierBy G z0 := ⟨B.exec, B.bytes, hml, findClass_of_methodNamed B.named, hts, hV⟩
  have hx := B.exec; have hb := B.bytes; have hr := B.returns; have hlocks := B.notSynchronized
  have hS : va_S (kx_Ad z0) s.heap s.heap [] := va_S.rf
  have L_16 : Cond.fieldLink RX4 16 (TX4 3).1 (TX4 3).2.1 (TX4 3).2.2.1 ∈ wsX4_courierBy := by decide +kernel
  have L_29 : Cond.fieldLink RX4 29 (TX4 8).1 (TX4 8).2.1 (TX4 8).2.2.1 ∈ wsX4_courierBy := by decide +kernel
  have inX4 : ∀ w ∈ u_ws RX4 TX4 23, w ∈ wsX4_courierBy := by decide +kernel
  have hl := lv_entry ([.ref (ad 14 0), .int (nI i), .int st]) (n := 6) (Nat.le_of_ble_eq_true rfl)
  rw [lg_entry_eq]
  generalize (lg_sl ([.ref (ad 14 0), .int (nI i), .int st]) ++ List.replicate (6 - (lg_sl ([.ref (ad 14 0), .int (nI i), .int st])).length) Slot.unset).toArray = ls at hl ⊢
  have hl : lv_has ls 6 [(0, .ref (ad 14 0)), (1, .int (nI i)), (2, .int st)] := hl
  have loop : ∀ (j k : Nat), n = k + j → ∀ (H : Heap) (locs : List Loc) (ls : Array Slot), kx_Wd G z0 ad nb sg H → va_S (kx_Ad z0) s.heap H locs → lv_has ls 6 [(4, .int (nI k)), (3, .int (tw_cour st (fun k => sg 21 0 (12 * i + k)) k)), (0, .ref (ad 14 0)), (1, .int (nI i)), (2, .int st)] → W p l e (headSpec wsX4_courierBy { frames := 1, cells := 0, slots := 0, locals := 22 }).room s m ([.ref (ad 14 0), .int (nI i), .int st] : List Value).toArray below meth c H locs 0 0 (MQ below (kx_Q G z0 ad nb (fun r sg' => r = some (.int (tw_cour st (fun k => sg 21 0 (12 * i + k)) n)) ∧ sg' = sg)) ([.ref (ad 14 0), .int (nI i), .int st] : List Value).toArray s 0 0 (kx_Ad z0)) (F0 m 5 ls []) := by
    intro j
    induction j with
    | zero =>
      intro k  hk H locs ls hW hS hl
      refine lv_iload hx hb dX4_courierBy_5 (lv_at hl 0 rfl) ?_
      refine lv_aload_n hx hb dX4_courierBy_7 rfl (lv_at hl 2 rfl) ?_
      refine kx_g F inX4 hW 14 0 ⟨by decide, rfl⟩ rfl rfl 3 (by decide) L_16 (v := .ref (ad 17 0)) rfl dX4_courierBy_8 ?_
      refine lv_iload_n hx hb dX4_courierBy_11 rfl (lv_at hl 3 rfl) ?_
      refine kx_ald F hW 17 0 ⟨by decide, rfl⟩ rfl i (by omega) (by decide) (v := nI n) hn dX4_courierBy_12 ?_
      refine lv_icmp_ge (tgt := 65) hx hb dX4_courierBy_13 (by decide) (fun c_13 => ?_) (fun c_13 => ?_)
      · refine lv_iload_n hx hb dX4_courierBy_65 rfl (lv_at hl 1 rfl) ?_
        exact kx_ri F hr hlocks hW hS (by first | exact Nat.le_of_ble_eq_true rfl | omega) (by first | exact Nat.le_of_ble_eq_true rfl | omega) (⟨congrArg (fun z => some (Value.int z)) (by rw [show n = k from by omega]), rfl⟩) dX4_courierBy_66
      · exact absurd (nI_le (by omega) (by omega)) c_13
    | succ j ih =>
      intro k  hk H locs ls hW hS hl
      refine lv_iload hx hb dX4_courierBy_5 (lv_at hl 0 rfl) ?_
      refine lv_aload_n hx hb dX4_courierBy_7 rfl (lv_at hl 2 rfl) ?_
      refine kx_g F inX4 hW 14 0 ⟨by decide, rfl⟩ rfl rfl 3 (by decide) L_16 (v := .ref (ad 17 0)) rfl dX4_courierBy_8 ?_
      refine lv_iload_n hx hb dX4_courierBy_11 rfl (lv_at hl 3 rfl) ?_
      refine kx_ald F hW 17 0 ⟨by decide, rfl⟩ rfl i (by omega) (by decide) (v := nI n) hn dX4_courierBy_12 ?_
      refine lv_icmp_ge (tgt := 65) hx hb dX4_courierBy_13 (by decide) (fun c_13 => ?_) (fun c_13 => ?_)
      · exact absurd c_13 (nI_ge (by omega) (by omega))
      · refine lv_aload_n hx hb dX4_courierBy_16 rfl (lv_at hl 2 rfl) ?_
        refine kx_g F inX4 hW 14 0 ⟨by decide, rfl⟩ rfl rfl 8 (by decide) L_29 (v := .ref (ad 21 0)) rfl dX4_courierBy_17 ?_
        refine lv_bipush (v := 12) hx hb dX4_courierBy_20 (by decide) ?_
        refine lv_iload_n hx hb dX4_courierBy_22 rfl (lv_at hl 3 rfl) ?_
        refine lv_imul hx hb dX4_courierBy_23 ?_
        refine lv_iload hx hb dX4_courierBy_24 (lv_at hl 0 rfl) ?_
        refine lv_iadd hx hb dX4_courierBy_26 ?_
        rw [tw_ix i k]
        refine kx_ald F hW 21 0 ⟨by decide, rfl⟩ rfl (12 * i + k) (by omega) (by decide) (v := sg 21 0 (12 * i + k)) rfl dX4_courierBy_27 ?_
        refine lv_istore (lv' := [(5, .int (sg 21 0 (12 * i + k))), (4, .int (nI k)), (3, .int (tw_cour st (fun k => sg 21 0 (12 * i + k)) k)), (0, .ref (ad 14 0)), (1, .int (nI i)), (2, .int st)]) hx hb dX4_courierBy_28 hl (by decide) rfl (fun ls hl => ?_)
        refine lv_iload_n hx hb dX4_courierBy_30 rfl (lv_at hl 5 rfl) ?_
        refine lv_iload hx hb dX4_courierBy_31 (lv_at hl 1 rfl) ?_
        refine lv_ishr hx hb dX4_courierBy_33 ?_
        refine lv_iconst (v := 1) hx hb dX4_courierBy_34 (by decide) ?_
        refine lv_iand hx hb dX4_courierBy_35 ?_
        refine lv_iconst (v := 1) hx hb dX4_courierBy_36 (by decide) ?_
        refine lv_icmp_ne (tgt := 57) hx hb dX4_courierBy_37 (by decide) (fun c_37 => ?_) (fun c_37 => ?_)
        · refine lv_iload_n hx hb dX4_courierBy_57 rfl (lv_at hl 2 rfl) ?_
          refine lv_istore_n (lv' := [(3, .int (tw_cour st (fun k => sg 21 0 (12 * i + k)) k)), (5, .int (sg 21 0 (12 * i + k))), (4, .int (nI k)), (0, .ref (ad 14 0)), (1, .int (nI i)), (2, .int st)]) hx hb dX4_courierBy_58 rfl hl (by decide) rfl (fun ls hl => ?_)
          refine lv_iinc (v := nI (k + 1)) (lv' := [(4, .int (nI (k + 1))), (3, .int (tw_cour st (fun k => sg 21 0 (12 * i + k)) k)), (5, .int (sg 21 0 (12 * i + k))), (0, .ref (ad 14 0)), (1, .int (nI i)), (2, .int st)]) hx hb dX4_courierBy_59 hl (k := 2) rfl (nI_1 k) (by decide) rfl (fun ls hl => ?_)
          refine lv_goto (tgt := 5) hx hb dX4_courierBy_62 (by decide) ?_
          exact ih (k + 1) (by omega) H locs ls hW hS (by rw [show tw_cour st (fun k => sg 21 0 (12 * i + k)) (k + 1) = tw_cour st (fun k => sg 21 0 (12 * i + k)) k from tw_cour_f1 (decide_eq_false c_37)]; exact lv_sub hl [0, 1, 3, 4, 5] rfl)
        · refine lv_iload hx hb dX4_courierBy_40 (lv_at hl 0 rfl) ?_
          refine lv_iconst (v := 1) hx hb dX4_courierBy_42 (by decide) ?_
          refine lv_iconst (v := 4) hx hb dX4_courierBy_43 (by decide) ?_
          refine kx_cS (na := 3) F (c_X4_in l G z0 ad nb sg (sg 21 0 (12 * i + k)) 1 4) gX4_courierBy_X4_in rfl (by decide +kernel) ⟨Nat.le_of_ble_eq_true rfl, Nat.le_of_ble_eq_true rfl⟩ hW hS (As := [.int (sg 21 0 (12 * i + k)), .int 1, .int 4]) (rest := []) rfl hl.1 rfl (Nat.le_of_ble_eq_true rfl) dX4_courierBy_44 ⟨by first | exact Nat.le_of_ble_eq_true rfl | omega, by first | exact Nat.le_of_ble_eq_true rfl | omega⟩ (fun r9 sg9 H locs hq hW hS => ?_)
          obtain ⟨rfl, e9⟩ := hq
          rw [e9] at hW
          refine W.eq (g2 := F0 m 47 ls [.int (tw_b (tw_in (sg 21 0 (12 * i + k)) 1 4))]) rfl ?_
          refine lv_if_eq (tgt := 57) hx hb dX4_courierBy_47 (by decide) (fun c_47 => ?_) (fun c_47 => ?_)
          · refine lv_iload_n hx hb dX4_courierBy_57 rfl (lv_at hl 2 rfl) ?_
            refine lv_istore_n (lv' := [(3, .int (tw_cour st (fun k => sg 21 0 (12 * i + k)) k)), (5, .int (sg 21 0 (12 * i + k))), (4, .int (nI k)), (0, .ref (ad 14 0)), (1, .int (nI i)), (2, .int st)]) hx hb dX4_courierBy_58 rfl hl (by decide) rfl (fun ls hl => ?_)
            refine lv_iinc (v := nI (k + 1)) (lv' := [(4, .int (nI (k + 1))), (3, .int (tw_cour st (fun k => sg 21 0 (12 * i + k)) k)), (5, .int (sg 21 0 (12 * i + k))), (0, .ref (ad 14 0)), (1, .int (nI i)), (2, .int st)]) hx hb dX4_courierBy_59 hl (k := 2) rfl (nI_1 k) (by decide) rfl (fun ls hl => ?_)
            refine lv_goto (tgt := 5) hx hb dX4_courierBy_62 (by decide) ?_
            exact ih (k + 1) (by omega) H locs ls hW hS (by rw [show tw_cour st (fun k => sg 21 0 (12 * i + k)) (k + 1) = tw_cour st (fun k => sg 21 0 (12 * i + k)) k from tw_cour_f2 (tw_cour1_out (tw_b_0 c_47))]; exact lv_sub hl [0, 1, 3, 4, 5] rfl)
          · refine lv_iload hx hb dX4_courierBy_50 (lv_at hl 0 rfl) ?_
            refine lv_iconst (v := 1) hx hb dX4_courierBy_52 (by decide) ?_
            refine lv_isub hx hb dX4_courierBy_53 ?_
            refine lv_goto (tgt := 58) hx hb dX4_courierBy_54 (by decide) ?_
            refine lv_istore_n (lv' := [(3, .int ((sg 21 0 (12 * i + k)) - 1)), (5, .int (sg 21 0 (12 * i + k))), (4, .int (nI k)), (0, .ref (ad 14 0)), (1, .int (nI i)), (2, .int st)]) hx hb dX4_courierBy_58 rfl hl (by decide) rfl (fun ls hl => ?_)
            refine lv_iinc (v := nI (k + 1)) (lv' := [(4, .int (nI (k + 1))), (3, .int ((sg 21 0 (12 * i + k)) - 1)), (5, .int (sg 21 0 (12 * i + k))), (0, .ref (ad 14 0)), (1, .int (nI i)), (2, .int st)]) hx hb dX4_courierBy_59 hl (k := 2) rfl (nI_1 k) (by decide) rfl (fun ls hl => ?_)
            refine lv_goto (tgt := 5) hx hb dX4_courierBy_62 (by decide) ?_
            have h9 := tw_cour1_in (tw_b_1 c_47)
            exact ih (k + 1) (by omega) H locs ls hW hS (by rw [show tw_cour st (fun k => sg 21 0 (12 * i + k)) (k + 1) = sg 21 0 (12 * i + k) - 1 from (tw_cour_t (decide_eq_true c_37) h9.2).trans h9.1]; exact lv_sub hl [0, 1, 3, 4, 5] rfl)
  refine lv_iconst (v := (-1)) hx hb dX4_courierBy_0 (by decide) ?_
  refine lv_istore_n (lv' := [(3, .int (-1)), (0, .ref (ad 14 0)), (1, .int (nI i)), (2, .int st)]) hx hb dX4_courierBy_1 rfl hl (by decide) rfl (fun ls hl => ?_)
  refine lv_iconst (v := 0) hx hb dX4_courierBy_2 (by decide) ?_
  refine lv_istore (lv' := [(4, .int 0), (3, .int (-1)), (0, .ref (ad 14 0)), (1, .int (nI i)), (2, .int st)]) hx hb dX4_courierBy_3 hl (by decide) rfl (fun ls hl => ?_)
  exact loop n 0 (by omega) _ _ ls hW hS (lv_sub hl [0, 1, 2, 3, 4] rfl)
