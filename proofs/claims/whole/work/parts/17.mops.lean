/-- nothing but the code of the exception (and the rows of sums) is another -/
def tm_Q (sg sg' : kx_S) (t : Int32) : Prop := (∀ q m, ¬ (q = 14 ∧ m = 0) → q ≠ 30 → q ≠ 31 → sg' q m = sg q m) ∧ (∀ j, j ≠ 22 → sg' 14 0 j = sg 14 0 j) ∧ sg' 14 0 22 = t
theorem tm_Q_th {sg : kx_S} {T t : Int32} (h : T = t) : tm_Q sg (kx_up sg 14 0 (upd (sg 14 0) 22 T)) t := by
  subst h
  refine ⟨fun q m h1 h2 h3 => ?_, fun j hj => ?_, ?_⟩
  · simp [kx_up, h1]
  · simp [kx_up, upd, hj]
  · simp [kx_up, upd]
theorem tm_Q_sc {sg : kx_S} {T t : Int32} (h : T = t) (f g : Nat → Int32) : tm_Q sg (kx_up (kx_up (kx_up sg 14 0 (upd (sg 14 0) 22 T)) 30 0 f) 31 0 g) t := by
  subst h
  refine ⟨fun q m h1 h2 h3 => ?_, fun j hj => ?_, ?_⟩
  · simp [kx_up, h1, h2, h3]
  · simp [kx_up, upd, hj]
  · simp [kx_up, upd]
theorem tm_Q_cs {sg : kx_S} {T t : Int32} (h : T = t) (f g : Nat → Int32) : tm_Q sg (kx_up (kx_up (kx_up sg 30 0 f) 31 0 g) 14 0 (upd (sg 14 0) 22 T)) t := by
  subst h
  refine ⟨fun q m h1 h2 h3 => ?_, fun j hj => ?_, ?_⟩
  · simp [kx_up, h1, h2, h3]
  · simp [kx_up, upd, hj]
  · simp [kx_up, upd]
theorem tm_WF_th {mb : Nat} {sg : kx_S} {t : Int32} (h : tm_WF mb sg) : tm_WF mb (kx_up sg 14 0 (upd (sg 14 0) 22 t)) := tm_WF_eq h (by simp [kx_up, upd]) (by simp [kx_up]) (by simp [kx_up]) (by simp [kx_up])
theorem tw_lit0 : ((0 : Int32)).toInt = 0 := by decide
theorem tw_nat_of {x : Int32} {m : Nat} (hm : m < 2 ^ 30) (h0 : 0 ≤ x.toInt) (h1 : x.toInt ≤ m) : ∃ k : Nat, k ≤ m ∧ x = nI k := by
  refine ⟨x.toInt.toNat, by omega, ?_⟩
  apply Int32.toInt_inj.mp
  rw [nI_toInt (by omega)]
  omega
theorem tw_inb {x : Int32} {m : Nat} (hm : m < 2 ^ 30) (c : tw_in x 0 (nI m) = true) : ∃ k : Nat, k ≤ m ∧ x = nI k := by
  have h := (tw_in_iff x 0 (nI m)).mp c
  rw [nI_toInt (by omega), tw_lit0] at h
  exact tw_nat_of hm h.1 h.2
theorem tw_ninb {x : Int32} {m : Nat} (hm : m < 2 ^ 30) (c : tw_in x 0 (nI m) = false) : ∀ k : Nat, k ≤ m → ¬ x = nI k := by
  have h := (tw_in_iff' x 0 (nI m)).mp c
  intro k hk e
  rw [e, nI_toInt (by omega), nI_toInt (by omega), tw_lit0] at h
  omega
theorem tw_isbox {mb : Nat} {sg : kx_S} (hwf : tm_WF mb sg) {x : Int32} (c : tw_in x 0 (sg 14 0 7 - 1) = true) : ∃ k : Nat, k < mb ∧ x = nI k := by
  have h16 := hwf.2.1
  rw [hwf.1] at c
  cases mb with
  | zero =>
    exfalso
    have h := (tw_in_iff x 0 (nI 0 - 1)).mp c
    have e : (nI 0 - 1 : Int32).toInt = -1 := by decide
    rw [e, tw_lit0] at h
    omega
  | succ m =>
    rw [tw_m1] at c
    obtain ⟨k, hk, e⟩ := tw_inb (by omega) c
    exact ⟨k, by omega, e⟩
theorem tw_nobox {mb : Nat} {sg : kx_S} (hwf : tm_WF mb sg) {x : Int32} (c : tw_in x 0 (sg 14 0 7 - 1) = false) : ∀ k : Nat, k < mb → ¬ x = nI k := by
  have h16 := hwf.2.1
  rw [hwf.1] at c
  cases mb with
  | zero => intro k hk; exact absurd hk (Nat.not_lt_zero k)
  | succ m =>
    rw [tw_m1] at c
    intro k hk
    exact tw_ninb (by omega) c k (by omega)
theorem tw_isdoor {x : Int32} (c : tw_in x 0 9 = true) : ∃ d : Nat, d < 10 ∧ x = nI d := by
  obtain ⟨k, hk, e⟩ := tw_inb (m := 9) (by decide) c
  exact ⟨k, by omega, e⟩
theorem tw_nodoor {x : Int32} (c : tw_in x 0 9 = false) : ∀ d : Nat, d < 10 → ¬ x = nI d := fun k hk => tw_ninb (m := 9) (by decide) c k (by omega)
theorem tw_iscour {x : Int32} (c : tw_in x 0 3 = true) : ∃ d : Nat, d < 4 ∧ x = nI d := by
  obtain ⟨k, hk, e⟩ := tw_inb (m := 3) (by decide) c
  exact ⟨k, by omega, e⟩
theorem tw_nocour {x : Int32} (c : tw_in x 0 3 = false) : ∀ d : Nat, d < 4 → ¬ x = nI d := fun k hk => tw_ninb (m := 3) (by decide) c k (by omega)
theorem tw_iswho {x : Int32} (c : tw_in x 0 13 = true) : ∃ d : Nat, d < 14 ∧ x = nI d := by
  obtain ⟨k, hk, e⟩ := tw_inb (m := 13) (by decide) c
  exact ⟨k, by omega, e⟩
theorem tw_nowho {x : Int32} (c : tw_in x 0 13 = false) : ∀ d : Nat, d < 14 → ¬ x = nI d := fun k hk => tw_ninb (m := 13) (by decide) c k (by omega)
theorem tw_dec0 {T : Int32} (c : tw_b (decide (T = 0)) = 0) : ¬ T = 0 := of_decide_eq_false (tw_b_0 c)
theorem tw_dec1 {T : Int32} (c : ¬ tw_b (decide (T = 0)) = 0) : T = 0 := of_decide_eq_true (tw_b_1 c)
def tm_pt (c z : Int32) : Int32 := if z = 0 then c + 1 else if z = 1 then 0 else 30
theorem tw_nlt12 {n : Nat} (h : n ≤ 12) (c : ¬ 12 ≤ nI n) : n < 12 := by
  rcases Nat.lt_or_ge n 12 with q | q
  · exact q
  · exact absurd (nI_le (a := 12) q (by omega)) c
theorem tw_ge12 {n : Nat} (h : n ≤ 12) (c : 12 ≤ nI n) : n = 12 := by
  rcases Nat.lt_or_ge n 12 with q | q
  · exact absurd c (nI_ge (b := 12) q (by decide))
  · omega
def tm_n (sg : kx_S) (i : Nat) : Nat := (sg 17 0 i).toNatClampNeg
theorem tm_n_eq {sg : kx_S} {i n : Nat} (h : sg 17 0 i = nI n) (h12 : n ≤ 12) : tm_n sg i = n := by rw [tm_n, h, nI_clamp (by omega)]

theorem tw_nlt16 {n : Nat} (h : n ≤ 16) (c : ¬ 16 ≤ nI n) : n < 16 := by
  rcases Nat.lt_or_ge n 16 with q | q
  · exact q
  · exact absurd (nI_le (a := 16) q (by omega)) c
theorem tw_ge16 {n : Nat} (h : n ≤ 16) (c : 16 ≤ nI n) : n = 16 := by
  rcases Nat.lt_or_ge n 16 with q | q
  · exact absurd c (nI_ge (b := 16) q (by decide))
  · omega

set_option maxHeartbeats 4000000 in
set_option maxRecDepth 100000 in
theorem c_X4_box (l : Launch) (G : kx_G) (z0 : Nat) (ad : kx_A) (nb : Nat) (sg : kx_S) (mb : Nat) (hwf : tm_WF mb sg) (x y : Int32) : kx_M l yX4_box wsX4_box 1 22 0 0 G z0 ad nb sg [.ref (ad 14 0), .int x, .int y] (fun r sg' => ((tw_in x 1 3 && tw_in y 1 9999) = false ∧ r = some (.int 0) ∧ tm_Q sg sg' 1) ∨ ((tw_in x 1 3 && tw_in y 1 9999) = true ∧ mb = 16 ∧ r = some (.int 0) ∧ tm_Q sg sg' 2) ∨ ((tw_in x 1 3 && tw_in y 1 9999) = true ∧ mb < 16 ∧ r = some (.int (nI mb)) ∧ sg' = kx_up (kx_up (kx_up (kx_up sg 14 0 (upd (sg 14 0) 22 0)) 15 0 (upd (sg 15 0) mb x)) 16 0 (upd (sg 16 0) mb y)) 14 0 (upd (upd (sg 14 0) 22 0) 7 (nI (mb + 1))))) := by
  refine Met.ofW (cc := cX4_box) (maxL := 3) (ret := (some .int)) (by decide) rfl ?_
  intro p e s m args below meth c s₁ B hml hv
  obtain ⟨rfl, hW, hV⟩ := hv
  have hts := atoms_spec (ws := wsX4_box) B.pre
  have F : kx_F p s m c cX4_box 3 RX4 _ wsX4_box G z0 := ⟨B.exec, B.bytes, hml, findClass_of_methodNamed B.named, hts, hV⟩
  have hx := B.exec; have hb := B.bytes; have hr := B.returns; have hlocks := B.notSynchronized
  have hS : va_S (kx_Ad z0) s.heap s.heap [] := va_S.rf
  have hmb16 := hwf.2.1
  have L_13 : Cond.fieldLink RX4 13 (TX4 2).1 (TX4 2).2.1 (TX4 2).2.2.1 ∈ wsX4_box := by decide +kernel
  have L_66 : Cond.fieldLink RX4 66 (TX4 7).1 (TX4 7).2.1 (TX4 7).2.2.1 ∈ wsX4_box := by decide +kernel
  have L_7 : Cond.fieldLink RX4 7 (TX4 1).1 (TX4 1).2.1 (TX4 1).2.2.1 ∈ wsX4_box := by decide +kernel
  have inX4 : ∀ w ∈ u_ws RX4 TX4 23, w ∈ wsX4_box := by decide +kernel
  have hl := lv_entry ([.ref (ad 14 0), .int x, .int y]) (n := 3) (Nat.le_of_ble_eq_true rfl)
  rw [lg_entry_eq]
  generalize (lg_sl ([.ref (ad 14 0), .int x, .int y]) ++ List.replicate (3 - (lg_sl ([.ref (ad 14 0), .int x, .int y])).length) Slot.unset).toArray = ls at hl ⊢
  have hl : lv_has ls 3 [(0, .ref (ad 14 0)), (1, .int x), (2, .int y)] := hl
  refine lv_aload_n hx hb dX4_box_0 rfl (lv_at hl 0 rfl) ?_
  refine lv_iload_n hx hb dX4_box_1 rfl (lv_at hl 1 rfl) ?_
  refine lv_iconst (v := 1) hx hb dX4_box_2 (by decide) ?_
  refine lv_iconst (v := 3) hx hb dX4_box_3 (by decide) ?_
  refine kx_cS (na := 3) F (c_X4_in l G z0 ad nb sg x 1 3) gX4_box_X4_in rfl (by decide +kernel) ⟨Nat.le_of_ble_eq_true rfl, Nat.le_of_ble_eq_true rfl⟩ hW hS (As := [.int x, .int 1, .int 3]) (rest := [.ref (ad 14 0)]) rfl hl.1 rfl (Nat.le_of_ble_eq_true rfl) dX4_box_4 ⟨by first | exact Nat.le_of_ble_eq_true rfl | omega, by first | exact Nat.le_of_ble_eq_true rfl | omega⟩ (fun r9 sg9 H locs hq hW hS => ?_)
  obtain ⟨rfl, e9⟩ := hq
  rw [e9] at hW
  refine W.eq (g2 := F0 m 7 ls [.int (tw_b (tw_in x 1 3)), .ref (ad 14 0)]) rfl ?_
  refine lv_if_eq (tgt := 25) hx hb dX4_box_7 (by decide) (fun c_7 => ?_) (fun c_7 => ?_)
  · refine lv_iconst (v := 0) hx hb dX4_box_25 (by decide) ?_
    refine lv_aload_n hx hb dX4_box_26 rfl (lv_at hl 0 rfl) ?_
    refine kx_g F inX4 hW 14 0 ⟨by decide, rfl⟩ rfl rfl 7 (by decide) L_66 (v := .int (nI mb)) (congrArg (fun z => some (Value.int z)) hwf.1) dX4_box_27 ?_
    refine lv_bipush (v := 16) hx hb dX4_box_30 (by decide) ?_
    refine lv_icmp_ge (tgt := 39) hx hb dX4_box_32 (by decide) (fun c_32 => ?_) (fun c_32 => ?_)
    · refine lv_iconst (v := 0) hx hb dX4_box_39 (by decide) ?_
      refine kx_cV (na := 2) F (q := 14) (n := 0) (c_X4_asked_ l G z0 ad nb sg 0 0) gX4_box_X4_asked_ rfl (by decide +kernel) ⟨Nat.le_of_ble_eq_true rfl, Nat.le_of_ble_eq_true rfl⟩ hW hS ⟨by decide, rfl⟩ rfl rfl (As := [.int 0, .int 0]) (rest := []) rfl hl.1 rfl (Nat.le_of_ble_eq_true rfl) dX4_box_40 ⟨by first | exact Nat.le_of_ble_eq_true rfl | omega, by first | exact Nat.le_of_ble_eq_true rfl | omega⟩ (fun r9 sg9 H locs hq hW hS => ?_)
      obtain ⟨rfl, e9⟩ := hq
      rw [e9] at hW
      have hW : kx_Wd G z0 ad nb (kx_up sg 14 0 (upd (sg 14 0) 22 (tw_a2 0 0))) H := by first | exact hW | (simp only [kx_up_s, kx_up_up] at hW; exact hW) | (simp only [kx_up_s, kx_up_up, upd_s] at hW; exact hW)
      refine W.eq (g2 := F0 m 43 ls [.int (tw_b (decide (tw_a2 0 0 = 0)))]) rfl ?_
      refine lv_if_ne (tgt := 48) hx hb dX4_box_43 (by decide) (fun c_43 => ?_) (fun c_43 => ?_)
      · exact absurd rfl c_43
      · refine lv_iconst (v := 0) hx hb dX4_box_46 (by decide) ?_
        exact kx_ri F hr hlocks hW hS (by first | exact Nat.le_of_ble_eq_true rfl | omega) (by first | exact Nat.le_of_ble_eq_true rfl | omega) (Or.inl ⟨by rw [tw_b_0 c_7]; rfl, rfl, tm_Q_th rfl⟩) dX4_box_47
    · refine lv_iconst (v := 1) hx hb dX4_box_35 (by decide) ?_
      refine lv_goto (tgt := 40) hx hb dX4_box_36 (by decide) ?_
      refine kx_cV (na := 2) F (q := 14) (n := 0) (c_X4_asked_ l G z0 ad nb sg 0 1) gX4_box_X4_asked_ rfl (by decide +kernel) ⟨Nat.le_of_ble_eq_true rfl, Nat.le_of_ble_eq_true rfl⟩ hW hS ⟨by decide, rfl⟩ rfl rfl (As := [.int 0, .int 1]) (rest := []) rfl hl.1 rfl (Nat.le_of_ble_eq_true rfl) dX4_box_40 ⟨by first | exact Nat.le_of_ble_eq_true rfl | omega, by first | exact Nat.le_of_ble_eq_true rfl | omega⟩ (fun r9 sg9 H locs hq hW hS => ?_)
      obtain ⟨rfl, e9⟩ := hq
      rw [e9] at hW
      have hW : kx_Wd G z0 ad nb (kx_up sg 14 0 (upd (sg 14 0) 22 (tw_a2 0 1))) H := by first | exact hW | (simp only [kx_up_s, kx_up_up] at hW; exact hW) | (simp only [kx_up_s, kx_up_up, upd_s] at hW; exact hW)
      refine W.eq (g2 := F0 m 43 ls [.int (tw_b (decide (tw_a2 0 1 = 0)))]) rfl ?_
      refine lv_if_ne (tgt := 48) hx hb dX4_box_43 (by decide) (fun c_43 => ?_) (fun c_43 => ?_)
      · exact absurd rfl c_43
      · refine lv_iconst (v := 0) hx hb dX4_box_46 (by decide) ?_
        exact kx_ri F hr hlocks hW hS (by first | exact Nat.le_of_ble_eq_true rfl | omega) (by first | exact Nat.le_of_ble_eq_true rfl | omega) (Or.inl ⟨by rw [tw_b_0 c_7]; rfl, rfl, tm_Q_th rfl⟩) dX4_box_47
  · refine lv_iload_n hx hb dX4_box_10 rfl (lv_at hl 2 rfl) ?_
    refine lv_iconst (v := 1) hx hb dX4_box_11 (by decide) ?_
    refine lv_sipush (v := 9999) hx hb dX4_box_12 (by decide) ?_
    refine kx_cS (na := 3) F (c_X4_in l G z0 ad nb sg y 1 9999) gX4_box_X4_in rfl (by decide +kernel) ⟨Nat.le_of_ble_eq_true rfl, Nat.le_of_ble_eq_true rfl⟩ hW hS (As := [.int y, .int 1, .int 9999]) (rest := [.ref (ad 14 0)]) rfl hl.1 rfl (Nat.le_of_ble_eq_true rfl) dX4_box_15 ⟨by first | exact Nat.le_of_ble_eq_true rfl | omega, by first | exact Nat.le_of_ble_eq_true rfl | omega⟩ (fun r9 sg9 H locs hq hW hS => ?_)
    obtain ⟨rfl, e9⟩ := hq
    rw [e9] at hW
    refine W.eq (g2 := F0 m 18 ls [.int (tw_b (tw_in y 1 9999)), .ref (ad 14 0)]) rfl ?_
    refine lv_if_eq (tgt := 25) hx hb dX4_box_18 (by decide) (fun c_18 => ?_) (fun c_18 => ?_)
    · refine lv_iconst (v := 0) hx hb dX4_box_25 (by decide) ?_
      refine lv_aload_n hx hb dX4_box_26 rfl (lv_at hl 0 rfl) ?_
      refine kx_g F inX4 hW 14 0 ⟨by decide, rfl⟩ rfl rfl 7 (by decide) L_66 (v := .int (nI mb)) (congrArg (fun z => some (Value.int z)) hwf.1) dX4_box_27 ?_
      refine lv_bipush (v := 16) hx hb dX4_box_30 (by decide) ?_
      refine lv_icmp_ge (tgt := 39) hx hb dX4_box_32 (by decide) (fun c_32 => ?_) (fun c_32 => ?_)
      · refine lv_iconst (v := 0) hx hb dX4_box_39 (by decide) ?_
        refine kx_cV (na := 2) F (q := 14) (n := 0) (c_X4_asked_ l G z0 ad nb sg 0 0) gX4_box_X4_asked_ rfl (by decide +kernel) ⟨Nat.le_of_ble_eq_true rfl, Nat.le_of_ble_eq_true rfl⟩ hW hS ⟨by decide, rfl⟩ rfl rfl (As := [.int 0, .int 0]) (rest := []) rfl hl.1 rfl (Nat.le_of_ble_eq_true rfl) dX4_box_40 ⟨by first | exact Nat.le_of_ble_eq_true rfl | omega, by first | exact Nat.le_of_ble_eq_true rfl | omega⟩ (fun r9 sg9 H locs hq hW hS => ?_)
        obtain ⟨rfl, e9⟩ := hq
        rw [e9] at hW
        have hW : kx_Wd G z0 ad nb (kx_up sg 14 0 (upd (sg 14 0) 22 (tw_a2 0 0))) H := by first | exact hW | (simp only [kx_up_s, kx_up_up] at hW; exact hW) | (simp only [kx_up_s, kx_up_up, upd_s] at hW; exact hW)
        refine W.eq (g2 := F0 m 43 ls [.int (tw_b (decide (tw_a2 0 0 = 0)))]) rfl ?_
        refine lv_if_ne (tgt := 48) hx hb dX4_box_43 (by decide) (fun c_43 => ?_) (fun c_43 => ?_)
        · exact absurd rfl c_43
        · refine lv_iconst (v := 0) hx hb dX4_box_46 (by decide) ?_
          exact kx_ri F hr hlocks hW hS (by first | exact Nat.le_of_ble_eq_true rfl | omega) (by first | exact Nat.le_of_ble_eq_true rfl | omega) (Or.inl ⟨by rw [tw_b_0 c_18, Bool.and_false], rfl, tm_Q_th rfl⟩) dX4_box_47
      · refine lv_iconst (v := 1) hx hb dX4_box_35 (by decide) ?_
        refine lv_goto (tgt := 40) hx hb dX4_box_36 (by decide) ?_
        refine kx_cV (na := 2) F (q := 14) (n := 0) (c_X4_asked_ l G z0 ad nb sg 0 1) gX4_box_X4_asked_ rfl (by decide +kernel) ⟨Nat.le_of_ble_eq_true rfl, Nat.le_of_ble_eq_true rfl⟩ hW hS ⟨by decide, rfl⟩ rfl rfl (As := [.int 0, .int 1]) (rest := []) rfl hl.1 rfl (Nat.le_of_ble_eq_true rfl) dX4_box_40 ⟨by first | exact Nat.le_of_ble_eq_true rfl | omega, by first | exact Nat.le_of_ble_eq_true rfl | omega⟩ (fun r9 sg9 H locs hq hW hS => ?_)
        obtain ⟨rfl, e9⟩ := hq
        rw [e9] at hW
        have hW : kx_Wd G z0 ad nb (kx_up sg 14 0 (upd (sg 14 0) 22 (tw_a2 0 1))) H := by first | exact hW | (simp only [kx_up_s, kx_up_up] at hW; exact hW) | (simp only [kx_up_s, kx_up_up, upd_s] at hW; exact hW)
        refine W.eq (g2 := F0 m 43 ls [.int (tw_b (decide (tw_a2 0 1 = 0)))]) rfl ?_
        refine lv_if_ne (tgt := 48) hx hb dX4_box_43 (by decide) (fun c_43 => ?_) (fun c_43 => ?_)
        · exact absurd rfl c_43
        · refine lv_iconst (v := 0) hx hb dX4_box_46 (by decide) ?_
          exact kx_ri F hr hlocks hW hS (by first | exact Nat.le_of_ble_eq_true rfl | omega) (by first | exact Nat.le_of_ble_eq_true rfl | omega) (Or.inl ⟨by rw [tw_b_0 c_18, Bool.and_false], rfl, tm_Q_th rfl⟩) dX4_box_47
    · refine lv_iconst (v := 1) hx hb dX4_box_21 (by decide) ?_
      refine lv_goto (tgt := 26) hx hb dX4_box_22 (by decide) ?_
      refine lv_aload_n hx hb dX4_box_26 rfl (lv_at hl 0 rfl) ?_
      refine kx_g F inX4 hW 14 0 ⟨by decide, rfl⟩ rfl rfl 7 (by decide) L_66 (v := .int (nI mb)) (congrArg (fun z => some (Value.int z)) hwf.1) dX4_box_27 ?_
      refine lv_bipush (v := 16) hx hb dX4_box_30 (by decide) ?_
      refine lv_icmp_ge (tgt := 39) hx hb dX4_box_32 (by decide) (fun c_32 => ?_) (fun c_32 => ?_)
      · refine lv_iconst (v := 0) hx hb dX4_box_39 (by decide) ?_
        refine kx_cV (na := 2) F (q := 14) (n := 0) (c_X4_asked_ l G z0 ad nb sg 1 0) gX4_box_X4_asked_ rfl (by decide +kernel) ⟨Nat.le_of_ble_eq_true rfl, Nat.le_of_ble_eq_true rfl⟩ hW hS ⟨by decide, rfl⟩ rfl rfl (As := [.int 1, .int 0]) (rest := []) rfl hl.1 rfl (Nat.le_of_ble_eq_true rfl) dX4_box_40 ⟨by first | exact Nat.le_of_ble_eq_true rfl | omega, by first | exact Nat.le_of_ble_eq_true rfl | omega⟩ (fun r9 sg9 H locs hq hW hS => ?_)
        obtain ⟨rfl, e9⟩ := hq
        rw [e9] at hW
        have hW : kx_Wd G z0 ad nb (kx_up sg 14 0 (upd (sg 14 0) 22 (tw_a2 1 0))) H := by first | exact hW | (simp only [kx_up_s, kx_up_up] at hW; exact hW) | (simp only [kx_up_s, kx_up_up, upd_s] at hW; exact hW)
        refine W.eq (g2 := F0 m 43 ls [.int (tw_b (decide (tw_a2 1 0 = 0)))]) rfl ?_
        refine lv_if_ne (tgt := 48) hx hb dX4_box_43 (by decide) (fun c_43 => ?_) (fun c_43 => ?_)
        · exact absurd rfl c_43
        · refine lv_iconst (v := 0) hx hb dX4_box_46 (by decide) ?_
          exact kx_ri F hr hlocks hW hS (by first | exact Nat.le_of_ble_eq_true rfl | omega) (by first | exact Nat.le_of_ble_eq_true rfl | omega) (Or.inr (Or.inl ⟨by rw [tw_b_1 c_7, tw_b_1 c_18]; rfl, tw_ge16 hmb16 c_32, rfl, tm_Q_th rfl⟩)) dX4_box_47
      · refine lv_iconst (v := 1) hx hb dX4_box_35 (by decide) ?_
        refine lv_goto (tgt := 40) hx hb dX4_box_36 (by decide) ?_
        refine kx_cV (na := 2) F (q := 14) (n := 0) (c_X4_asked_ l G z0 ad nb sg 1 1) gX4_box_X4_asked_ rfl (by decide +kernel) ⟨Nat.le_of_ble_eq_true rfl, Nat.le_of_ble_eq_true rfl⟩ hW hS ⟨by decide, rfl⟩ rfl rfl (As := [.int 1, .int 1]) (rest := []) rfl hl.1 rfl (Nat.le_of_ble_eq_true rfl) dX4_box_40 ⟨by first | exact Nat.le_of_ble_eq_true rfl | omega, by first | exact Nat.le_of_ble_eq_true rfl | omega⟩ (fun r9 sg9 H locs hq hW hS => ?_)
        obtain ⟨rfl, e9⟩ := hq
        rw [e9] at hW
        have hW : kx_Wd G z0 ad nb (kx_up sg 14 0 (upd (sg 14 0) 22 (tw_a2 1 1))) H := by first | exact hW | (simp only [kx_up_s, kx_up_up] at hW; exact hW) | (simp only [kx_up_s, kx_up_up, upd_s] at hW; exact hW)
        refine W.eq (g2 := F0 m 43 ls [.int (tw_b (decide (tw_a2 1 1 = 0)))]) rfl ?_
        refine lv_if_ne (tgt := 48) hx hb dX4_box_43 (by decide) (fun c_43 => ?_) (fun c_43 => ?_)
        · have hT9 : tw_a2 1 1 = 0 := tw_dec1 c_43
          rw [hT9] at hW
          have hlt9 : mb < 16 := tw_nlt16 hmb16 c_32
          refine lv_aload_n hx hb dX4_box_48 rfl (lv_at hl 0 rfl) ?_
          refine kx_g F inX4 hW 14 0 ⟨by decide, rfl⟩ rfl rfl 1 (by decide) L_7 (v := .ref (ad 15 0)) rfl dX4_box_49 ?_
          refine lv_aload_n hx hb dX4_box_52 rfl (lv_at hl 0 rfl) ?_
          refine kx_g F inX4 hW 14 0 ⟨by decide, rfl⟩ rfl rfl 7 (by decide) L_66 (v := .int (nI mb)) (by simp [kx_up, upd]; exact hwf.1) dX4_box_53 ?_
          refine lv_iload_n hx hb dX4_box_56 rfl (lv_at hl 1 rfl) ?_
          refine kx_ast F hW hS 15 0 ⟨by decide, rfl⟩ rfl mb (by omega) (by decide) (x := x) rfl dX4_box_57 (fun H locs hW hS => ?_)
          have er9 : (kx_up sg 14 0 (upd (sg 14 0) 22 0)) 15 0 = sg 15 0 := by first | rfl | (simp only [kx_up_s]; done) | (simp [kx_up]; done)
          rw [er9] at hW
          have hW : kx_Wd G z0 ad nb (kx_up (kx_up sg 14 0 (upd (sg 14 0) 22 0)) 15 0 (upd (sg 15 0) mb x)) H := hW
          refine lv_aload_n hx hb dX4_box_58 rfl (lv_at hl 0 rfl) ?_
          refine kx_g F inX4 hW 14 0 ⟨by decide, rfl⟩ rfl rfl 2 (by decide) L_13 (v := .ref (ad 16 0)) rfl dX4_box_59 ?_
          refine lv_aload_n hx hb dX4_box_62 rfl (lv_at hl 0 rfl) ?_
          refine kx_g F inX4 hW 14 0 ⟨by decide, rfl⟩ rfl rfl 7 (by decide) L_66 (v := .int (nI mb)) (by simp [kx_up, upd]; exact hwf.1) dX4_box_63 ?_
          refine lv_iload_n hx hb dX4_box_66 rfl (lv_at hl 2 rfl) ?_
          refine kx_ast F hW hS 16 0 ⟨by decide, rfl⟩ rfl mb (by omega) (by decide) (x := y) rfl dX4_box_67 (fun H locs hW hS => ?_)
          have er9 : (kx_up (kx_up sg 14 0 (upd (sg 14 0) 22 0)) 15 0 (upd (sg 15 0) mb x)) 16 0 = sg 16 0 := by first | rfl | (simp only [kx_up_s]; done) | (simp [kx_up]; done)
          rw [er9] at hW
          have hW : kx_Wd G z0 ad nb (kx_up (kx_up (kx_up sg 14 0 (upd (sg 14 0) 22 0)) 15 0 (upd (sg 15 0) mb x)) 16 0 (upd (sg 16 0) mb y)) H := hW
          refine lv_aload_n hx hb dX4_box_68 rfl (lv_at hl 0 rfl) ?_
          refine lv_dup hx hb dX4_box_69 rfl ?_
          refine kx_g F inX4 hW 14 0 ⟨by decide, rfl⟩ rfl rfl 7 (by decide) L_66 (v := .int (nI mb)) (by simp [kx_up, upd]; exact hwf.1) dX4_box_70 ?_
          refine lv_iconst (v := 1) hx hb dX4_box_73 (by decide) ?_
          refine lv_iadd hx hb dX4_box_74 ?_
          rw [show nI mb + 1 = nI (mb + 1) from nI_add mb 1]
          refine kx_p F inX4 tyX4 tyX4_ok nmX4 hW hS 14 0 ⟨by decide, rfl⟩ rfl rfl 7 (by decide) L_66 rfl (v := .int (nI (mb + 1))) rfl rfl (Nat.le_of_ble_eq_true rfl) (upd ((kx_up (kx_up (kx_up sg 14 0 (upd (sg 14 0) 22 0)) 15 0 (upd (sg 15 0) mb x)) 16 0 (upd (sg 16 0) mb y)) 14 0) 7 (nI (mb + 1))) rfl dX4_box_75 (fun H locs hW hS => ?_)
          have er9 : (kx_up (kx_up (kx_up sg 14 0 (upd (sg 14 0) 22 0)) 15 0 (upd (sg 15 0) mb x)) 16 0 (upd (sg 16 0) mb y)) 14 0 = upd (sg 14 0) 22 0 := by first | rfl | (simp only [kx_up_s]; done) | (simp [kx_up]; done)
          rw [er9] at hW
          have hW : kx_Wd G z0 ad nb (kx_up (kx_up (kx_up (kx_up sg 14 0 (upd (sg 14 0) 22 0)) 15 0 (upd (sg 15 0) mb x)) 16 0 (upd (sg 16 0) mb y)) 14 0 (upd (upd (sg 14 0) 22 0) 7 (nI (mb + 1)))) H := hW
          refine lv_aload_n hx hb dX4_box_78 rfl (lv_at hl 0 rfl) ?_
          refine kx_g F inX4 hW 14 0 ⟨by decide, rfl⟩ rfl rfl 7 (by decide) L_66 (v := .int (nI (mb + 1))) (by first | rfl | (simp only [kx_up_s]; done) | (simp only [kx_up_s, upd_s]; done) | (simp only [kx_up_s]; rfl) | (simp [kx_up, upd]; done)) dX4_box_79 ?_
          refine lv_iconst (v := 1) hx hb dX4_box_82 (by decide) ?_
          refine lv_isub hx hb dX4_box_83 ?_
          exact kx_ri F hr hlocks hW hS (by first | exact Nat.le_of_ble_eq_true rfl | omega) (by first | exact Nat.le_of_ble_eq_true rfl | omega) (Or.inr (Or.inr ⟨by rw [tw_b_1 c_7, tw_b_1 c_18]; rfl, hlt9, congrArg (fun z => some (Value.int z)) (tw_m1 mb), rfl⟩)) dX4_box_84
        · exact absurd c_43 (by decide)

theorem tw_ab0 {A B : Bool} (h : tw_a2 (tw_b A) (tw_b B) = 0) : A = true ∧ B = true := by cases A <;> cases B <;> first | exact ⟨rfl, rfl⟩ | exact absurd h (by decide)
theorem tm_WF_trust {mb : Nat} {sg : kx_S} {c : Nat} {y t : Int32} (h : tm_WF mb sg) (hy : tw_in y 1 9 = true) : tm_WF mb (kx_up (kx_up sg 14 0 (upd (sg 14 0) 22 t)) 24 0 (upd (sg 24 0) c y)) := by
  refine ⟨h.1, h.2.1, h.2.2.1, fun w hw => ?_⟩
  show 1 ≤ (upd (sg 24 0) c y w).toInt ∧ (upd (sg 24 0) c y w).toInt ≤ 9
  by_cases e : w = c
  · subst e
    rw [upd_s]
    exact (tw_in_iff y 1 9).mp hy
  · rw [upd_n e]
    exact h.2.2.2 w hw

set_option maxHeartbeats 4000000 in
set_option maxRecDepth 100000 in
theorem c_X4_setTrust (l : Launch) (G : kx_G) (z0 : Nat) (ad : kx_A) (nb : Nat) (sg : kx_S) (mb : Nat) (hwf : tm_WF mb sg) (x y : Int32) : kx_M l yX4_setTrust wsX4_setTrust 4 95 0 0 G z0 ad nb sg [.ref (ad 14 0), .int x, .int y] (fun r sg' => ((∀ c, c < 14 → ¬ x = nI c) ∧ r = some (.int 0) ∧ tm_Q sg sg' 1) ∨ ((∃ c : Nat, c < 14 ∧ x = nI c) ∧ tw_in y 1 9 = false ∧ r = some (.int 0) ∧ tm_Q sg sg' 2) ∨ (∃ c : Nat, c < 14 ∧ x = nI c ∧ tw_in y 1 9 = true ∧ r = some (.int (sg 24 0 c)) ∧ tm_SA mb (kx_up (kx_up sg 14 0 (upd (sg 14 0) 22 0)) 24 0 (upd (sg 24 0) c y)) sg')) := by
  refine Met.ofW (cc := cX4_setTrust) (maxL := 4) (ret := (some .int)) (by decide) rfl ?_
  intro p e s m args below meth c s₁ B hml hv
  obtain ⟨rfl, hW, hV⟩ := hv
  have hts := atoms_spec (ws := wsX4_setTrust) B.pre
  have F : kx_F p s m c cX4_setTrust 4 RX4 _ wsX4_setTrust G z0 := ⟨B.exec, B.bytes, hml, findClass_of_methodNamed B.named, hts, hV⟩
  have hx := B.exec; have hb := B.bytes; have hr := B.returns; have hlocks := B.notSynchronized
  have hS : va_S (kx_Ad z0) s.heap s.heap [] := va_S.rf
  have hmb16 := hwf.2.1
  have L_38 : Cond.fieldLink RX4 38 (TX4 11).1 (TX4 11).2.1 (TX4 11).2.2.1 ∈ wsX4_setTrust := by decide +kernel
  have inX4 : ∀ w ∈ u_ws RX4 TX4 23, w ∈ wsX4_setTrust := by decide +kernel
  have hl := lv_entry ([.ref (ad 14 0), .int x, .int y]) (n := 4) (Nat.le_of_ble_eq_true rfl)
  rw [lg_entry_eq]
  generalize (lg_sl ([.ref (ad 14 0), .int x, .int y]) ++ List.replicate (4 - (lg_sl ([.ref (ad 14 0), .int x, .int y])).length) Slot.unset).toArray = ls at hl ⊢
  have hl : lv_has ls 4 [(0, .ref (ad 14 0)), (1, .int x), (2, .int y)] := hl
  refine lv_aload_n hx hb dX4_setTrust_0 rfl (lv_at hl 0 rfl) ?_
  refine lv_iload_n hx hb dX4_setTrust_1 rfl (lv_at hl 1 rfl) ?_
  refine lv_iconst (v := 0) hx hb dX4_setTrust_2 (by decide) ?_
  refine lv_bipush (v := 13) hx hb dX4_setTrust_3 (by decide) ?_
  refine kx_cS (na := 3) F (c_X4_in l G z0 ad nb sg x 0 13) gX4_setTrust_X4_in rfl (by decide +kernel) ⟨Nat.le_of_ble_eq_true rfl, Nat.le_of_ble_eq_true rfl⟩ hW hS (As := [.int x, .int 0, .int 13]) (rest := [.ref (ad 14 0)]) rfl hl.1 rfl (Nat.le_of_ble_eq_true rfl) dX4_setTrust_5 ⟨by first | exact Nat.le_of_ble_eq_true rfl | omega, by first | exact Nat.le_of_ble_eq_true rfl | omega⟩ (fun r9 sg9 H locs hq hW hS => ?_)
  obtain ⟨rfl, e9⟩ := hq
  rw [e9] at hW
  refine W.eq (g2 := F0 m 8 ls [.int (tw_b (tw_in x 0 13)), .ref (ad 14 0)]) rfl ?_
  refine lv_iload_n hx hb dX4_setTrust_8 rfl (lv_at hl 2 rfl) ?_
  refine lv_iconst (v := 1) hx hb dX4_setTrust_9 (by decide) ?_
  refine lv_bipush (v := 9) hx hb dX4_setTrust_10 (by decide) ?_
  refine kx_cS (na := 3) F (c_X4_in l G z0 ad nb sg y 1 9) gX4_setTrust_X4_in rfl (by decide +kernel) ⟨Nat.le_of_ble_eq_true rfl, Nat.le_of_ble_eq_true rfl⟩ hW hS (As := [.int y, .int 1, .int 9]) (rest := [.int (tw_b (tw_in x 0 13)), .ref (ad 14 0)]) rfl hl.1 rfl (Nat.le_of_ble_eq_true rfl) dX4_setTrust_12 ⟨by first | exact Nat.le_of_ble_eq_true rfl | omega, by first | exact Nat.le_of_ble_eq_true rfl | omega⟩ (fun r9 sg9 H locs hq hW hS => ?_)
  obtain ⟨rfl, e9⟩ := hq
  rw [e9] at hW
  refine W.eq (g2 := F0 m 15 ls [.int (tw_b (tw_in y 1 9)), .int (tw_b (tw_in x 0 13)), .ref (ad 14 0)]) rfl ?_
  refine kx_cV (na := 2) F (q := 14) (n := 0) (c_X4_asked_ l G z0 ad nb sg (tw_b (tw_in x 0 13)) (tw_b (tw_in y 1 9))) gX4_setTrust_X4_asked_ rfl (by decide +kernel) ⟨Nat.le_of_ble_eq_true rfl, Nat.le_of_ble_eq_true rfl⟩ hW hS ⟨by decide, rfl⟩ rfl rfl (As := [.int (tw_b (tw_in x 0 13)), .int (tw_b (tw_in y 1 9))]) (rest := []) rfl hl.1 rfl (Nat.le_of_ble_eq_true rfl) dX4_setTrust_15 ⟨by first | exact Nat.le_of_ble_eq_true rfl | omega, by first | exact Nat.le_of_ble_eq_true rfl | omega⟩ (fun r9 sg9 H locs hq hW hS => ?_)
  obtain ⟨rfl, e9⟩ := hq
  rw [e9] at hW
  have hW : kx_Wd G z0 ad nb (kx_up sg 14 0 (upd (sg 14 0) 22 (tw_a2 (tw_b (tw_in x 0 13)) (tw_b (tw_in y 1 9))))) H := by first | exact hW | (simp only [kx_up_s, kx_up_up] at hW; exact hW) | (simp only [kx_up_s, kx_up_up, upd_s] at hW; exact hW)
  refine W.eq (g2 := F0 m 18 ls [.int (tw_b (decide (tw_a2 (tw_b (tw_in x 0 13)) (tw_b (tw_in y 1 9)) = 0)))]) rfl ?_
  refine lv_if_ne (tgt := 23) hx hb dX4_setTrust_18 (by decide) (fun c_18 => ?_) (fun c_18 => ?_)
  · have hT9 : tw_a2 (tw_b (tw_in x 0 13)) (tw_b (tw_in y 1 9)) = 0 := tw_dec1 c_18
    obtain ⟨hA9, hB9⟩ := tw_ab0 hT9
    obtain ⟨c, hc, rfl⟩ := tw_iswho hA9
    rw [hT9] at hW
    refine lv_aload_n hx hb dX4_setTrust_23 rfl (lv_at hl 0 rfl) ?_
    refine kx_g F inX4 hW 14 0 ⟨by decide, rfl⟩ rfl rfl 11 (by decide) L_38 (v := .ref (ad 24 0)) rfl dX4_setTrust_24 ?_
    refine lv_iload_n hx hb dX4_setTrust_27 rfl (lv_at hl 1 rfl) ?_
    refine kx_ald F hW 24 0 ⟨by decide, rfl⟩ rfl c hc (by decide) (v := sg 24 0 c) (by first | rfl | (simp only [kx_up_s]; done) | (simp only [kx_up_s, upd_s]; done) | (simp only [kx_up_s]; rfl) | (simp [kx_up, upd]; done)) dX4_setTrust_28 ?_
    refine lv_istore_n (lv' := [(3, .int (sg 24 0 c)), (0, .ref (ad 14 0)), (1, .int (nI c)), (2, .int y)]) hx hb dX4_setTrust_29 rfl hl (by decide) rfl (fun ls hl => ?_)
    refine lv_aload_n hx hb dX4_setTrust_30 rfl (lv_at hl 1 rfl) ?_
    refine kx_g F inX4 hW 14 0 ⟨by decide, rfl⟩ rfl rfl 11 (by decide) L_38 (v := .ref (ad 24 0)) rfl dX4_setTrust_31 ?_
    refine lv_iload_n hx hb dX4_setTrust_34 rfl (lv_at hl 2 rfl) ?_
    refine lv_iload_n hx hb dX4_setTrust_35 rfl (lv_at hl 3 rfl) ?_
    refine kx_ast F hW hS 24 0 ⟨by decide, rfl⟩ rfl c hc (by decide) (x := y) rfl dX4_setTrust_36 (fun H locs hW hS => ?_)
    have er9 : (kx_up sg 14 0 (upd (sg 14 0) 22 0)) 24 0 = sg 24 0 := by first | rfl | (simp only [kx_up_s]; done) | (simp [kx_up]; done)
    rw [er9] at hW
    have hW : kx_Wd G z0 ad nb (kx_up (kx_up sg 14 0 (upd (sg 14 0) 22 0)) 24 0 (upd (sg 24 0) c y)) H := hW
    refine lv_aload_n hx hb dX4_setTrust_37 rfl (lv_at hl 1 rfl) ?_
    refine kx_cV (na := 0) F (q := 14) (n := 0) (c_X4_settles l G z0 ad nb (kx_up (kx_up sg 14 0 (upd (sg 14 0) 22 0)) 24 0 (upd (sg 24 0) c y)) mb (tm_WF_trust hwf hB9)) gX4_setTrust_X4_settles rfl (by decide +kernel) ⟨Nat.le_of_ble_eq_true rfl, Nat.le_of_ble_eq_true rfl⟩ hW hS ⟨by decide, rfl⟩ rfl rfl (As := []) (rest := []) rfl hl.1 rfl (Nat.le_of_ble_eq_true rfl) dX4_setTrust_38 ⟨by first | exact Nat.le_of_ble_eq_true rfl | omega, by first | exact Nat.le_of_ble_eq_true rfl | omega⟩ (fun r9 sg9 H locs hq hW hS => ?_)
    obtain ⟨rfl, hsa9⟩ := hq
    have hW : kx_Wd G z0 ad nb (sg9) H := by first | exact hW | (simp only [kx_up_s, kx_up_up] at hW; exact hW) | (simp only [kx_up_s, kx_up_up, upd_s] at hW; exact hW)
    refine W.eq (g2 := F0 m 41 ls []) rfl ?_
    refine lv_iload_n hx hb dX4_setTrust_41 rfl (lv_at hl 0 rfl) ?_
    exact kx_ri F hr hlocks hW hS (by first | exact Nat.le_of_ble_eq_true rfl | omega) (by first | exact Nat.le_of_ble_eq_true rfl | omega) (Or.inr (Or.inr ⟨c, hc, rfl, hB9, rfl, hsa9⟩)) dX4_setTrust_42
  · refine lv_iconst (v := 0) hx hb dX4_setTrust_21 (by decide) ?_
    exact kx_ri F hr hlocks hW hS (by first | exact Nat.le_of_ble_eq_true rfl | omega) (by first | exact Nat.le_of_ble_eq_true rfl | omega) (by cases hA : tw_in x 0 13 with | false => exact Or.inl ⟨tw_nowho hA, rfl, tm_Q_th (if_pos rfl)⟩ | true => cases hB : tw_in y 1 9 with | false => exact Or.inr (Or.inl ⟨tw_iswho hA, rfl, rfl, tm_Q_th (by decide)⟩) | true => rw [hA, hB] at c_18; exact absurd c_18 (by decide)) dX4_setTrust_22

theorem tw_ge2 {a b : Int32} (h : b < a) : ¬ a ≤ b := by rw [tw_le]; rw [tw_lt] at h; omega
theorem tw_nlt {a b : Int32} (h : ¬ b < a) : a ≤ b := by rw [tw_le]; rw [tw_lt] at h; omega

set_option maxHeartbeats 4000000 in
set_option maxRecDepth 100000 in
theorem c_X4_pass (l : Launch) (G : kx_G) (z0 : Nat) (ad : kx_A) (nb : Nat) (sg : kx_S) (mb : Nat) (hwf : tm_WF mb sg) (x : Int32) : kx_M l yX4_pass wsX4_pass 1 22 0 0 G z0 ad nb sg [.ref (ad 14 0), .int x] (fun r sg' => (tw_in x 1 2000 = false ∧ r = some (.int 0) ∧ tm_Q sg sg' 1) ∨ (tw_in x 1 2000 = true ∧ ¬ sg 14 0 0 + x ≤ 100000 ∧ r = some (.int 0) ∧ tm_Q sg sg' 2) ∨ (tw_in x 1 2000 = true ∧ sg 14 0 0 + x ≤ 100000 ∧ r = some (.int (sg 14 0 0 + x)) ∧ sg' = kx_up sg 14 0 (upd (upd (sg 14 0) 22 0) 0 (sg 14 0 0 + x)))) := by
  refine Met.ofW (cc := cX4_pass) (maxL := 3) (ret := (some .int)) (by decide) rfl ?_
  intro p e s m args below meth c s₁ B hml hv
  obtain ⟨rfl, hW, hV⟩ := hv
  have hts := atoms_spec (ws := wsX4_pass) B.pre
  have F : kx_F p s m c cX4_pass 3 RX4 _ wsX4_pass G z0 := ⟨B.exec, B.bytes, hml, findClass_of_methodNamed B.named, hts, hV⟩
  have hx := B.exec; have hb := B.bytes; have hr := B.returns; have hlocks := B.notSynchronized
  have hS : va_S (kx_Ad z0) s.heap s.heap [] := va_S.rf
  have hmb16 := hwf.2.1
  have L_107 : Cond.fieldLink RX4 107 (TX4 0).1 (TX4 0).2.1 (TX4 0).2.2.1 ∈ wsX4_pass := by decide +kernel
  have inX4 : ∀ w ∈ u_ws RX4 TX4 23, w ∈ wsX4_pass := by decide +kernel
  have hl := lv_entry ([.ref (ad 14 0), .int x]) (n := 3) (Nat.le_of_ble_eq_true rfl)
  rw [lg_entry_eq]
  generalize (lg_sl ([.ref (ad 14 0), .int x]) ++ List.replicate (3 - (lg_sl ([.ref (ad 14 0), .int x])).length) Slot.unset).toArray = ls at hl ⊢
  have hl : lv_has ls 3 [(0, .ref (ad 14 0)), (1, .int x)] := hl
  refine lv_iload_n hx hb dX4_pass_0 rfl (lv_at hl 1 rfl) ?_
  refine lv_iconst (v := 1) hx hb dX4_pass_1 (by decide) ?_
  refine lv_sipush (v := 2000) hx hb dX4_pass_2 (by decide) ?_
  refine kx_cS (na := 3) F (c_X4_in l G z0 ad nb sg x 1 2000) gX4_pass_X4_in rfl (by decide +kernel) ⟨Nat.le_of_ble_eq_true rfl, Nat.le_of_ble_eq_true rfl⟩ hW hS (As := [.int x, .int 1, .int 2000]) (rest := []) rfl hl.1 rfl (Nat.le_of_ble_eq_true rfl) dX4_pass_5 ⟨by first | exact Nat.le_of_ble_eq_true rfl | omega, by first | exact Nat.le_of_ble_eq_true rfl | omega⟩ (fun r9 sg9 H locs hq hW hS => ?_)
  obtain ⟨rfl, e9⟩ := hq
  rw [e9] at hW
  refine W.eq (g2 := F0 m 8 ls [.int (tw_b (tw_in x 1 2000))]) rfl ?_
  refine lv_istore_n (lv' := [(2, .int (tw_b (tw_in x 1 2000))), (0, .ref (ad 14 0)), (1, .int x)]) hx hb dX4_pass_8 rfl hl (by decide) rfl (fun ls hl => ?_)
  refine lv_aload_n hx hb dX4_pass_9 rfl (lv_at hl 1 rfl) ?_
  refine lv_iload_n hx hb dX4_pass_10 rfl (lv_at hl 0 rfl) ?_
  refine lv_iload_n hx hb dX4_pass_11 rfl (lv_at hl 0 rfl) ?_
  refine lv_if_eq (tgt := 30) hx hb dX4_pass_12 (by decide) (fun c_12 => ?_) (fun c_12 => ?_)
  · refine lv_iconst (v := 0) hx hb dX4_pass_30 (by decide) ?_
    refine kx_cV (na := 2) F (q := 14) (n := 0) (c_X4_asked_ l G z0 ad nb sg (tw_b (tw_in x 1 2000)) 0) gX4_pass_X4_asked_ rfl (by decide +kernel) ⟨Nat.le_of_ble_eq_true rfl, Nat.le_of_ble_eq_true rfl⟩ hW hS ⟨by decide, rfl⟩ rfl rfl (As := [.int (tw_b (tw_in x 1 2000)), .int 0]) (rest := []) rfl hl.1 rfl (Nat.le_of_ble_eq_true rfl) dX4_pass_31 ⟨by first | exact Nat.le_of_ble_eq_true rfl | omega, by first | exact Nat.le_of_ble_eq_true rfl | omega⟩ (fun r9 sg9 H locs hq hW hS => ?_)
    obtain ⟨rfl, e9⟩ := hq
    rw [e9] at hW
    have hW : kx_Wd G z0 ad nb (kx_up sg 14 0 (upd (sg 14 0) 22 (tw_a2 (tw_b (tw_in x 1 2000)) 0))) H := by first | exact hW | (simp only [kx_up_s, kx_up_up] at hW; exact hW) | (simp only [kx_up_s, kx_up_up, upd_s] at hW; exact hW)
    refine W.eq (g2 := F0 m 34 ls [.int (tw_b (decide (tw_a2 (tw_b (tw_in x 1 2000)) 0 = 0)))]) rfl ?_
    refine lv_if_ne (tgt := 39) hx hb dX4_pass_34 (by decide) (fun c_34 => ?_) (fun c_34 => ?_)
    · rw [tw_b_0 c_12] at c_34; exact absurd c_34 (by decide)
    · refine lv_iconst (v := 0) hx hb dX4_pass_37 (by decide) ?_
      exact kx_ri F hr hlocks hW hS (by first | exact Nat.le_of_ble_eq_true rfl | omega) (by first | exact Nat.le_of_ble_eq_true rfl | omega) (Or.inl ⟨tw_b_0 c_12, rfl, tm_Q_th (by rw [tw_b_0 c_12]; decide)⟩) dX4_pass_38
  · refine lv_aload_n hx hb dX4_pass_15 rfl (lv_at hl 1 rfl) ?_
    refine kx_g F inX4 hW 14 0 ⟨by decide, rfl⟩ rfl rfl 0 (by decide) L_107 (v := .int (sg 14 0 0)) rfl dX4_pass_16 ?_
    refine lv_iload_n hx hb dX4_pass_19 rfl (lv_at hl 2 rfl) ?_
    refine lv_iadd hx hb dX4_pass_20 ?_
    refine lv_ldc (v := 100000) hx hb F.2.2.2.1 (hts (.constant RX4 110 100000) (by decide +kernel)) dX4_pass_21 ?_
    refine lv_icmp_gt (tgt := 30) hx hb dX4_pass_23 (by decide) (fun c_23 => ?_) (fun c_23 => ?_)
    · refine lv_iconst (v := 0) hx hb dX4_pass_30 (by decide) ?_
      refine kx_cV (na := 2) F (q := 14) (n := 0) (c_X4_asked_ l G z0 ad nb sg (tw_b (tw_in x 1 2000)) 0) gX4_pass_X4_asked_ rfl (by decide +kernel) ⟨Nat.le_of_ble_eq_true rfl, Nat.le_of_ble_eq_true rfl⟩ hW hS ⟨by decide, rfl⟩ rfl rfl (As := [.int (tw_b (tw_in x 1 2000)), .int 0]) (rest := []) rfl hl.1 rfl (Nat.le_of_ble_eq_true rfl) dX4_pass_31 ⟨by first | exact Nat.le_of_ble_eq_true rfl | omega, by first | exact Nat.le_of_ble_eq_true rfl | omega⟩ (fun r9 sg9 H locs hq hW hS => ?_)
      obtain ⟨rfl, e9⟩ := hq
      rw [e9] at hW
      have hW : kx_Wd G z0 ad nb (kx_up sg 14 0 (upd (sg 14 0) 22 (tw_a2 (tw_b (tw_in x 1 2000)) 0))) H := by first | exact hW | (simp only [kx_up_s, kx_up_up] at hW; exact hW) | (simp only [kx_up_s, kx_up_up, upd_s] at hW; exact hW)
      refine W.eq (g2 := F0 m 34 ls [.int (tw_b (decide (tw_a2 (tw_b (tw_in x 1 2000)) 0 = 0)))]) rfl ?_
      refine lv_if_ne (tgt := 39) hx hb dX4_pass_34 (by decide) (fun c_34 => ?_) (fun c_34 => ?_)
      · rw [tw_b_1 c_12] at c_34; exact absurd c_34 (by decide)
      · refine lv_iconst (v := 0) hx hb dX4_pass_37 (by decide) ?_
        exact kx_ri F hr hlocks hW hS (by first | exact Nat.le_of_ble_eq_true rfl | omega) (by first | exact Nat.le_of_ble_eq_true rfl | omega) (Or.inr (Or.inl ⟨tw_b_1 c_12, tw_ge2 c_23, rfl, tm_Q_th (by rw [tw_b_1 c_12]; decide)⟩)) dX4_pass_38
    · refine lv_iconst (v := 1) hx hb dX4_pass_26 (by decide) ?_
      refine lv_goto (tgt := 31) hx hb dX4_pass_27 (by decide) ?_
      refine kx_cV (na := 2) F (q := 14) (n := 0) (c_X4_asked_ l G z0 ad nb sg (tw_b (tw_in x 1 2000)) 1) gX4_pass_X4_asked_ rfl (by decide +kernel) ⟨Nat.le_of_ble_eq_true rfl, Nat.le_of_ble_eq_true rfl⟩ hW hS ⟨by decide, rfl⟩ rfl rfl (As := [.int (tw_b (tw_in x 1 2000)), .int 1]) (rest := []) rfl hl.1 rfl (Nat.le_of_ble_eq_true rfl) dX4_pass_31 ⟨by first | exact Nat.le_of_ble_eq_true rfl | omega, by first | exact Nat.le_of_ble_eq_true rfl | omega⟩ (fun r9 sg9 H locs hq hW hS => ?_)
      obtain ⟨rfl, e9⟩ := hq
      rw [e9] at hW
      have hW : kx_Wd G z0 ad nb (kx_up sg 14 0 (upd (sg 14 0) 22 (tw_a2 (tw_b (tw_in x 1 2000)) 1))) H := by first | exact hW | (simp only [kx_up_s, kx_up_up] at hW; exact hW) | (simp only [kx_up_s, kx_up_up, upd_s] at hW; exact hW)
      refine W.eq (g2 := F0 m 34 ls [.int (tw_b (decide (tw_a2 (tw_b (tw_in x 1 2000)) 1 = 0)))]) rfl ?_
      refine lv_if_ne (tgt := 39) hx hb dX4_pass_34 (by decide) (fun c_34 => ?_) (fun c_34 => ?_)
      · have hT9 : tw_a2 (tw_b (tw_in x 1 2000)) 1 = 0 := tw_dec1 c_34
        rw [hT9] at hW
        refine lv_aload_n hx hb dX4_pass_39 rfl (lv_at hl 1 rfl) ?_
        refine lv_dup hx hb dX4_pass_40 rfl ?_
        refine kx_g F inX4 hW 14 0 ⟨by decide, rfl⟩ rfl rfl 0 (by decide) L_107 (v := .int (sg 14 0 0)) (by first | rfl | (simp only [kx_up_s]; done) | (simp only [kx_up_s, upd_s]; done) | (simp only [kx_up_s]; rfl) | (simp [kx_up, upd]; done)) dX4_pass_41 ?_
        refine lv_iload_n hx hb dX4_pass_44 rfl (lv_at hl 2 rfl) ?_
        refine lv_iadd hx hb dX4_pass_45 ?_
        refine kx_p F inX4 tyX4 tyX4_ok nmX4 hW hS 14 0 ⟨by decide, rfl⟩ rfl rfl 0 (by decide) L_107 rfl (v := .int ((sg 14 0 0) + x)) rfl rfl (Nat.le_of_ble_eq_true rfl) (upd ((kx_up sg 14 0 (upd (sg 14 0) 22 0)) 14 0) 0 ((sg 14 0 0) + x)) rfl dX4_pass_46 (fun H locs hW hS => ?_)
        have er9 : (kx_up sg 14 0 (upd (sg 14 0) 22 0)) 14 0 = upd (sg 14 0) 22 0 := by first | rfl | (simp only [kx_up_s]; done) | (simp [kx_up]; done)
        rw [er9] at hW
        rw [kx_up_up] at hW
        have hW : kx_Wd G z0 ad nb (kx_up sg 14 0 (upd (upd (sg 14 0) 22 0) 0 ((sg 14 0 0) + x))) H := hW
        refine lv_aload_n hx hb dX4_pass_49 rfl (lv_at hl 1 rfl) ?_
        refine kx_g F inX4 hW 14 0 ⟨by decide, rfl⟩ rfl rfl 0 (by decide) L_107 (v := .int ((sg 14 0 0) + x)) (by first | rfl | (simp only [kx_up_s]; done) | (simp only [kx_up_s, upd_s]; done) | (simp only [kx_up_s]; rfl) | (simp [kx_up, upd]; done)) dX4_pass_50 ?_
        exact kx_ri F hr hlocks hW hS (by first | exact Nat.le_of_ble_eq_true rfl | omega) (by first | exact Nat.le_of_ble_eq_true rfl | omega) (Or.inr (Or.inr ⟨tw_b_1 c_12, tw_ngt c_23, rfl, rfl⟩)) dX4_pass_53
      · rw [tw_b_1 c_12] at c_34; exact absurd c_34 (by decide)

set_option maxHeartbeats 4000000 in
set_option maxRecDepth 100000 in
theorem c_X4_scan (l : Launch) (G : kx_G) (z0 : Nat) (ad : kx_A) (nb : Nat) (sg : kx_S) (mb : Nat) (hwf : tm_WF mb sg) (x y z : Int32) : kx_M l yX4_scan wsX4_scan 5 119 0 0 G z0 ad nb sg [.ref (ad 14 0), .int x, .int y, .int z] (fun r sg' => (((∀ k, k < mb → ¬ x = nI k) ∨ (∀ c, c < 4 → ¬ y = nI c)) ∧ r = some (.int 0) ∧ tm_Q sg sg' 1) ∨ ((∃ k : Nat, k < mb ∧ x = nI k) ∧ (∃ c : Nat, c < 4 ∧ y = nI c) ∧ tw_in z 0 2 = false ∧ r = some (.int 0) ∧ tm_Q sg sg' 2) ∨ (∃ k c : Nat, k < mb ∧ x = nI k ∧ c < 4 ∧ y = nI c ∧ tw_in z 0 2 = true ∧ tm_n sg k = 12 ∧ r = some (.int 0) ∧ tm_Q sg sg' 3) ∨ (∃ k c : Nat, k < mb ∧ x = nI k ∧ c < 4 ∧ y = nI c ∧ tw_in z 0 2 = true ∧ tm_n sg k < 12 ∧ r = some (.int (nI (tm_n sg k))) ∧ tm_SA mb (tm_add (kx_up sg 14 0 (upd (sg 14 0) 22 0)) k (tm_n sg k) (tm_pt (nI c) z) (nI c)) sg')) := by
  refine Met.ofW (cc := cX4_scan) (maxL := 6) (ret := (some .int)) (by decide) rfl ?_
  intro p e s m args below meth c s₁ B hml hv
  obtain ⟨rfl, hW, hV⟩ := hv
  have hts := atoms_spec (ws := wsX4_scan) B.pre
  have F : kx_F p s m c cX4_scan 6 RX4 _ wsX4_scan G z0 := ⟨B.exec, B.bytes, hml, findClass_of_methodNamed B.named, hts, hV⟩
  have hx := B.exec; have hb := B.bytes; have hr := B.returns; have hlocks := B.notSynchronized
  have hS : va_S (kx_Ad z0) s.heap s.heap [] := va_S.rf
  have hmb16 := hwf.2.1
  have L_16 : Cond.fieldLink RX4 16 (TX4 3).1 (TX4 3).2.1 (TX4 3).2.2.1 ∈ wsX4_scan := by decide +kernel
  have inX4 : ∀ w ∈ u_ws RX4 TX4 23, w ∈ wsX4_scan := by decide +kernel
  have hl := lv_entry ([.ref (ad 14 0), .int x, .int y, .int z]) (n := 6) (Nat.le_of_ble_eq_true rfl)
  rw [lg_entry_eq]
  generalize (lg_sl ([.ref (ad 14 0), .int x, .int y, .int z]) ++ List.replicate (6 - (lg_sl ([.ref (ad 14 0), .int x, .int y, .int z])).length) Slot.unset).toArray = ls at hl ⊢
  have hl : lv_has ls 6 [(0, .ref (ad 14 0)), (1, .int x), (2, .int y), (3, .int z)] := hl
  refine lv_aload_n hx hb dX4_scan_0 rfl (lv_at hl 0 rfl) ?_
  refine lv_iload_n hx hb dX4_scan_1 rfl (lv_at hl 1 rfl) ?_
  refine kx_cV (na := 1) F (q := 14) (n := 0) (c_X4_isBox l G z0 ad nb sg x) gX4_scan_X4_isBox rfl (by decide +kernel) ⟨Nat.le_of_ble_eq_true rfl, Nat.le_of_ble_eq_true rfl⟩ hW hS ⟨by decide, rfl⟩ rfl rfl (As := [.int x]) (rest := []) rfl hl.1 rfl (Nat.le_of_ble_eq_true rfl) dX4_scan_2 ⟨by first | exact Nat.le_of_ble_eq_true rfl | omega, by first | exact Nat.le_of_ble_eq_true rfl | omega⟩ (fun r9 sg9 H locs hq hW hS => ?_)
  obtain ⟨rfl, e9⟩ := hq
  rw [e9] at hW
  refine W.eq (g2 := F0 m 5 ls [.int (tw_b (tw_in x 0 (sg 14 0 7 - 1)))]) rfl ?_
  refine lv_if_eq (tgt := 21) hx hb dX4_scan_5 (by decide) (fun c_5 => ?_) (fun c_5 => ?_)
  · refine lv_iconst (v := 0) hx hb dX4_scan_21 (by decide) ?_
    refine lv_istore (lv' := [(4, .int 0), (0, .ref (ad 14 0)), (1, .int x), (2, .int y), (3, .int z)]) hx hb dX4_scan_22 hl (by decide) rfl (fun ls hl => ?_)
    refine lv_iload_n hx hb dX4_scan_24 rfl (lv_at hl 4 rfl) ?_
    refine lv_iconst (v := 0) hx hb dX4_scan_25 (by decide) ?_
    refine lv_iconst (v := 2) hx hb dX4_scan_26 (by decide) ?_
    refine kx_cS (na := 3) F (c_X4_in l G z0 ad nb sg z 0 2) gX4_scan_X4_in rfl (by decide +kernel) ⟨Nat.le_of_ble_eq_true rfl, Nat.le_of_ble_eq_true rfl⟩ hW hS (As := [.int z, .int 0, .int 2]) (rest := []) rfl hl.1 rfl (Nat.le_of_ble_eq_true rfl) dX4_scan_27 ⟨by first | exact Nat.le_of_ble_eq_true rfl | omega, by first | exact Nat.le_of_ble_eq_true rfl | omega⟩ (fun r9 sg9 H locs hq hW hS => ?_)
    obtain ⟨rfl, e9⟩ := hq
    rw [e9] at hW
    refine W.eq (g2 := F0 m 30 ls [.int (tw_b (tw_in z 0 2))]) rfl ?_
    refine lv_istore (lv' := [(5, .int (tw_b (tw_in z 0 2))), (4, .int 0), (0, .ref (ad 14 0)), (1, .int x), (2, .int y), (3, .int z)]) hx hb dX4_scan_30 hl (by decide) rfl (fun ls hl => ?_)
    refine lv_aload_n hx hb dX4_scan_32 rfl (lv_at hl 2 rfl) ?_
    refine lv_iload hx hb dX4_scan_33 (lv_at hl 1 rfl) ?_
    refine lv_iload hx hb dX4_scan_35 (lv_at hl 0 rfl) ?_
    refine lv_iload hx hb dX4_scan_37 (lv_at hl 1 rfl) ?_
    refine lv_if_eq (tgt := 57) hx hb dX4_scan_39 (by decide) (fun c_39 => ?_) (fun c_39 => ?_)
    · refine lv_iconst (v := 0) hx hb dX4_scan_57 (by decide) ?_
      refine kx_cV (na := 3) F (q := 14) (n := 0) (c_X4_asked__ l G z0 ad nb sg 0 (tw_b (tw_in z 0 2)) 0) gX4_scan_X4_asked__ rfl (by decide +kernel) ⟨Nat.le_of_ble_eq_true rfl, Nat.le_of_ble_eq_true rfl⟩ hW hS ⟨by decide, rfl⟩ rfl rfl (As := [.int 0, .int (tw_b (tw_in z 0 2)), .int 0]) (rest := []) rfl hl.1 rfl (Nat.le_of_ble_eq_true rfl) dX4_scan_58 ⟨by first | exact Nat.le_of_ble_eq_true rfl | omega, by first | exact Nat.le_of_ble_eq_true rfl | omega⟩ (fun r9 sg9 H locs hq hW hS => ?_)
      obtain ⟨rfl, e9⟩ := hq
      rw [e9] at hW
      have hW : kx_Wd G z0 ad nb (kx_up sg 14 0 (upd (sg 14 0) 22 (tw_a3 0 (tw_b (tw_in z 0 2)) 0))) H := by first | exact hW | (simp only [kx_up_s, kx_up_up] at hW; exact hW) | (simp only [kx_up_s, kx_up_up, upd_s] at hW; exact hW)
      refine W.eq (g2 := F0 m 61 ls [.int (tw_b (decide (tw_a3 0 (tw_b (tw_in z 0 2)) 0 = 0)))]) rfl ?_
      refine lv_if_ne (tgt := 66) hx hb dX4_scan_61 (by decide) (fun c_61 => ?_) (fun c_61 => ?_)
      · exact absurd rfl c_61
      · refine lv_iconst (v := 0) hx hb dX4_scan_64 (by decide) ?_
        exact kx_ri F hr hlocks hW hS (by first | exact Nat.le_of_ble_eq_true rfl | omega) (by first | exact Nat.le_of_ble_eq_true rfl | omega) (Or.inl ⟨Or.inl (tw_nobox hwf (tw_b_0 c_5)), rfl, tm_Q_th (if_pos rfl)⟩) dX4_scan_65
    · exact absurd rfl c_39
  · obtain ⟨k, hk, rfl⟩ := tw_isbox hwf (tw_b_1 c_5)
    obtain ⟨n9, hn9, h129, hwho9⟩ := hwf.2.2.1 k hk
    have en9 := tm_n_eq hn9 h129
    refine lv_iload_n hx hb dX4_scan_8 rfl (lv_at hl 2 rfl) ?_
    refine lv_iconst (v := 0) hx hb dX4_scan_9 (by decide) ?_
    refine lv_iconst (v := 3) hx hb dX4_scan_10 (by decide) ?_
    refine kx_cS (na := 3) F (c_X4_in l G z0 ad nb sg y 0 3) gX4_scan_X4_in rfl (by decide +kernel) ⟨Nat.le_of_ble_eq_true rfl, Nat.le_of_ble_eq_true rfl⟩ hW hS (As := [.int y, .int 0, .int 3]) (rest := []) rfl hl.1 rfl (Nat.le_of_ble_eq_true rfl) dX4_scan_11 ⟨by first | exact Nat.le_of_ble_eq_true rfl | omega, by first | exact Nat.le_of_ble_eq_true rfl | omega⟩ (fun r9 sg9 H locs hq hW hS => ?_)
    obtain ⟨rfl, e9⟩ := hq
    rw [e9] at hW
    refine W.eq (g2 := F0 m 14 ls [.int (tw_b (tw_in y 0 3))]) rfl ?_
    refine lv_if_eq (tgt := 21) hx hb dX4_scan_14 (by decide) (fun c_14 => ?_) (fun c_14 => ?_)
    · refine lv_iconst (v := 0) hx hb dX4_scan_21 (by decide) ?_
      refine lv_istore (lv' := [(4, .int 0), (0, .ref (ad 14 0)), (1, .int (nI k)), (2, .int y), (3, .int z)]) hx hb dX4_scan_22 hl (by decide) rfl (fun ls hl => ?_)
      refine lv_iload_n hx hb dX4_scan_24 rfl (lv_at hl 4 rfl) ?_
      refine lv_iconst (v := 0) hx hb dX4_scan_25 (by decide) ?_
      refine lv_iconst (v := 2) hx hb dX4_scan_26 (by decide) ?_
      refine kx_cS (na := 3) F (c_X4_in l G z0 ad nb sg z 0 2) gX4_scan_X4_in rfl (by decide +kernel) ⟨Nat.le_of_ble_eq_true rfl, Nat.le_of_ble_eq_true rfl⟩ hW hS (As := [.int z, .int 0, .int 2]) (rest := []) rfl hl.1 rfl (Nat.le_of_ble_eq_true rfl) dX4_scan_27 ⟨by first | exact Nat.le_of_ble_eq_true rfl | omega, by first | exact Nat.le_of_ble_eq_true rfl | omega⟩ (fun r9 sg9 H locs hq hW hS => ?_)
      obtain ⟨rfl, e9⟩ := hq
      rw [e9] at hW
      refine W.eq (g2 := F0 m 30 ls [.int (tw_b (tw_in z 0 2))]) rfl ?_
      refine lv_istore (lv' := [(5, .int (tw_b (tw_in z 0 2))), (4, .int 0), (0, .ref (ad 14 0)), (1, .int (nI k)), (2, .int y), (3, .int z)]) hx hb dX4_scan_30 hl (by decide) rfl (fun ls hl => ?_)
      refine lv_aload_n hx hb dX4_scan_32 rfl (lv_at hl 2 rfl) ?_
      refine lv_iload hx hb dX4_scan_33 (lv_at hl 1 rfl) ?_
      refine lv_iload hx hb dX4_scan_35 (lv_at hl 0 rfl) ?_
      refine lv_iload hx hb dX4_scan_37 (lv_at hl 1 rfl) ?_
      refine lv_if_eq (tgt := 57) hx hb dX4_scan_39 (by decide) (fun c_39 => ?_) (fun c_39 => ?_)
      · refine lv_iconst (v := 0) hx hb dX4_scan_57 (by decide) ?_
        refine kx_cV (na := 3) F (q := 14) (n := 0) (c_X4_asked__ l G z0 ad nb sg 0 (tw_b (tw_in z 0 2)) 0) gX4_scan_X4_asked__ rfl (by decide +kernel) ⟨Nat.le_of_ble_eq_true rfl, Nat.le_of_ble_eq_true rfl⟩ hW hS ⟨by decide, rfl⟩ rfl rfl (As := [.int 0, .int (tw_b (tw_in z 0 2)), .int 0]) (rest := []) rfl hl.1 rfl (Nat.le_of_ble_eq_true rfl) dX4_scan_58 ⟨by first | exact Nat.le_of_ble_eq_true rfl | omega, by first | exact Nat.le_of_ble_eq_true rfl | omega⟩ (fun r9 sg9 H locs hq hW hS => ?_)
        obtain ⟨rfl, e9⟩ := hq
        rw [e9] at hW
        have hW : kx_Wd G z0 ad nb (kx_up sg 14 0 (upd (sg 14 0) 22 (tw_a3 0 (tw_b (tw_in z 0 2)) 0))) H := by first | exact hW | (simp only [kx_up_s, kx_up_up] at hW; exact hW) | (simp only [kx_up_s, kx_up_up, upd_s] at hW; exact hW)
        refine W.eq (g2 := F0 m 61 ls [.int (tw_b (decide (tw_a3 0 (tw_b (tw_in z 0 2)) 0 = 0)))]) rfl ?_
        refine lv_if_ne (tgt := 66) hx hb dX4_scan_61 (by decide) (fun c_61 => ?_) (fun c_61 => ?_)
        · exact absurd rfl c_61
        · refine lv_iconst (v := 0) hx hb dX4_scan_64 (by decide) ?_
          exact kx_ri F hr hlocks hW hS (by first | exact Nat.le_of_ble_eq_true rfl | omega) (by first | exact Nat.le_of_ble_eq_true rfl | omega) (Or.inl ⟨Or.inr (tw_nocour (tw_b_0 c_14)), rfl, tm_Q_th (if_pos rfl)⟩) dX4_scan_65
      · exact absurd rfl c_39
    · obtain ⟨c, hc, rfl⟩ := tw_iscour (tw_b_1 c_14)
      refine lv_iconst (v := 1) hx hb dX4_scan_17 (by decide) ?_
      refine lv_goto (tgt := 22) hx hb dX4_scan_18 (by decide) ?_
      refine lv_istore (lv' := [(4, .int 1), (0, .ref (ad 14 0)), (1, .int (nI k)), (2, .int (nI c)), (3, .int z)]) hx hb dX4_scan_22 hl (by decide) rfl (fun ls hl => ?_)
      refine lv_iload_n hx hb dX4_scan_24 rfl (lv_at hl 4 rfl) ?_
      refine lv_iconst (v := 0) hx hb dX4_scan_25 (by decide) ?_
      refine lv_iconst (v := 2) hx hb dX4_scan_26 (by decide) ?_
      refine kx_cS (na := 3) F (c_X4_in l G z0 ad nb sg z 0 2) gX4_scan_X4_in rfl (by decide +kernel) ⟨Nat.le_of_ble_eq_true rfl, Nat.le_of_ble_eq_true rfl⟩ hW hS (As := [.int z, .int 0, .int 2]) (rest := []) rfl hl.1 rfl (Nat.le_of_ble_eq_true rfl) dX4_scan_27 ⟨by first | exact Nat.le_of_ble_eq_true rfl | omega, by first | exact Nat.le_of_ble_eq_true rfl | omega⟩ (fun r9 sg9 H locs hq hW hS => ?_)
      obtain ⟨rfl, e9⟩ := hq
      rw [e9] at hW
      refine W.eq (g2 := F0 m 30 ls [.int (tw_b (tw_in z 0 2))]) rfl ?_
      refine lv_istore (lv' := [(5, .int (tw_b (tw_in z 0 2))), (4, .int 1), (0, .ref (ad 14 0)), (1, .int (nI k)), (2, .int (nI c)), (3, .int z)]) hx hb dX4_scan_30 hl (by decide) rfl (fun ls hl => ?_)
      refine lv_aload_n hx hb dX4_scan_32 rfl (lv_at hl 2 rfl) ?_
      refine lv_iload hx hb dX4_scan_33 (lv_at hl 1 rfl) ?_
      refine lv_iload hx hb dX4_scan_35 (lv_at hl 0 rfl) ?_
      refine lv_iload hx hb dX4_scan_37 (lv_at hl 1 rfl) ?_
      refine lv_if_eq (tgt := 57) hx hb dX4_scan_39 (by decide) (fun c_39 => ?_) (fun c_39 => ?_)
      · exact absurd c_39 (by decide)
      · refine lv_aload_n hx hb dX4_scan_42 rfl (lv_at hl 2 rfl) ?_
        refine kx_g F inX4 hW 14 0 ⟨by decide, rfl⟩ rfl rfl 3 (by decide) L_16 (v := .ref (ad 17 0)) rfl dX4_scan_43 ?_
        refine lv_iload_n hx hb dX4_scan_46 rfl (lv_at hl 3 rfl) ?_
        refine kx_ald F hW 17 0 ⟨by decide, rfl⟩ rfl k (by omega) (by decide) (v := nI n9) hn9 dX4_scan_47 ?_
        refine lv_bipush (v := 12) hx hb dX4_scan_48 (by decide) ?_
        refine lv_icmp_ge (tgt := 57) hx hb dX4_scan_50 (by decide) (fun c_50 => ?_) (fun c_50 => ?_)
        · refine lv_iconst (v := 0) hx hb dX4_scan_57 (by decide) ?_
          refine kx_cV (na := 3) F (q := 14) (n := 0) (c_X4_asked__ l G z0 ad nb sg 1 (tw_b (tw_in z 0 2)) 0) gX4_scan_X4_asked__ rfl (by decide +kernel) ⟨Nat.le_of_ble_eq_true rfl, Nat.le_of_ble_eq_true rfl⟩ hW hS ⟨by decide, rfl⟩ rfl rfl (As := [.int 1, .int (tw_b (tw_in z 0 2)), .int 0]) (rest := []) rfl hl.1 rfl (Nat.le_of_ble_eq_true rfl) dX4_scan_58 ⟨by first | exact Nat.le_of_ble_eq_true rfl | omega, by first | exact Nat.le_of_ble_eq_true rfl | omega⟩ (fun r9 sg9 H locs hq hW hS => ?_)
          obtain ⟨rfl, e9⟩ := hq
          rw [e9] at hW
          have hW : kx_Wd G z0 ad nb (kx_up sg 14 0 (upd (sg 14 0) 22 (tw_a3 1 (tw_b (tw_in z 0 2)) 0))) H := by first | exact hW | (simp only [kx_up_s, kx_up_up] at hW; exact hW) | (simp only [kx_up_s, kx_up_up, upd_s] at hW; exact hW)
          refine W.eq (g2 := F0 m 61 ls [.int (tw_b (decide (tw_a3 1 (tw_b (tw_in z 0 2)) 0 = 0)))]) rfl ?_
          refine lv_if_ne (tgt := 66) hx hb dX4_scan_61 (by decide) (fun c_61 => ?_) (fun c_61 => ?_)
          · exfalso; cases hR : tw_in z 0 2 with | false => rw [hR] at c_61; exact absurd c_61 (by decide) | true => rw [hR] at c_61; exact absurd c_61 (by decide)
          · refine lv_iconst (v := 0) hx hb dX4_scan_64 (by decide) ?_
            exact kx_ri F hr hlocks hW hS (by first | exact Nat.le_of_ble_eq_true rfl | omega) (by first | exact Nat.le_of_ble_eq_true rfl | omega) (by cases hR : tw_in z 0 2 with | false => exact Or.inr (Or.inl ⟨⟨k, hk, rfl⟩, ⟨c, hc, rfl⟩, rfl, rfl, tm_Q_th (by decide)⟩) | true => exact Or.inr (Or.inr (Or.inl ⟨k, c, hk, rfl, hc, rfl, rfl, by rw [en9]; exact tw_ge12 h129 c_50, rfl, tm_Q_th (by decide)⟩))) dX4_scan_65
        · refine lv_iconst (v := 1) hx hb dX4_scan_53 (by decide) ?_
          refine lv_goto (tgt := 58) hx hb dX4_scan_54 (by decide) ?_
          refine kx_cV (na := 3) F (q := 14) (n := 0) (c_X4_asked__ l G z0 ad nb sg 1 (tw_b (tw_in z 0 2)) 1) gX4_scan_X4_asked__ rfl (by decide +kernel) ⟨Nat.le_of_ble_eq_true rfl, Nat.le_of_ble_eq_true rfl⟩ hW hS ⟨by decide, rfl⟩ rfl rfl (As := [.int 1, .int (tw_b (tw_in z 0 2)), .int 1]) (rest := []) rfl hl.1 rfl (Nat.le_of_ble_eq_true rfl) dX4_scan_58 ⟨by first | exact Nat.le_of_ble_eq_true rfl | omega, by first | exact Nat.le_of_ble_eq_true rfl | omega⟩ (fun r9 sg9 H locs hq hW hS => ?_)
          obtain ⟨rfl, e9⟩ := hq
          rw [e9] at hW
          have hW : kx_Wd G z0 ad nb (kx_up sg 14 0 (upd (sg 14 0) 22 (tw_a3 1 (tw_b (tw_in z 0 2)) 1))) H := by first | exact hW | (simp only [kx_up_s, kx_up_up] at hW; exact hW) | (simp only [kx_up_s, kx_up_up, upd_s] at hW; exact hW)
          refine W.eq (g2 := F0 m 61 ls [.int (tw_b (decide (tw_a3 1 (tw_b (tw_in z 0 2)) 1 = 0)))]) rfl ?_
          refine lv_if_ne (tgt := 66) hx hb dX4_scan_61 (by decide) (fun c_61 => ?_) (fun c_61 => ?_)
          · have hR9 : tw_in z 0 2 = true := by cases hR : tw_in z 0 2 with | false => rw [hR] at c_61; exact absurd c_61 (by decide) | true => rfl
            have hT9 : tw_a3 1 (tw_b (tw_in z 0 2)) 1 = 0 := by rw [hR9]; decide
            rw [hT9] at hW
            have hlt9 := tw_nlt12 h129 c_50
            refine lv_aload_n hx hb dX4_scan_66 rfl (lv_at hl 2 rfl) ?_
            refine lv_iload_n hx hb dX4_scan_67 rfl (lv_at hl 3 rfl) ?_
            refine lv_iload_n hx hb dX4_scan_68 rfl (lv_at hl 5 rfl) ?_
            refine lv_if_ne (tgt := 78) hx hb dX4_scan_69 (by decide) (fun c_69 => ?_) (fun c_69 => ?_)
            · refine lv_iload_n hx hb dX4_scan_78 rfl (lv_at hl 5 rfl) ?_
              refine lv_iconst (v := 1) hx hb dX4_scan_79 (by decide) ?_
              refine lv_icmp_ne (tgt := 87) hx hb dX4_scan_80 (by decide) (fun c_80 => ?_) (fun c_80 => ?_)
              · refine lv_bipush (v := 30) hx hb dX4_scan_87 (by decide) ?_
                refine lv_iload_n hx hb dX4_scan_89 rfl (lv_at hl 4 rfl) ?_
                have hp9 : tm_pt (nI c) z = 30 := (if_neg c_69).trans (if_neg c_80)
                refine kx_cV (na := 3) F (q := 14) (n := 0) (c_X4_adds l G z0 ad nb (kx_up sg 14 0 (upd (sg 14 0) 22 0)) mb (tm_WF_th hwf) k hk n9 hn9 hlt9 30 (nI c) (Or.inr ⟨c, by omega, rfl⟩)) gX4_scan_X4_adds rfl (by decide +kernel) ⟨Nat.le_of_ble_eq_true rfl, Nat.le_of_ble_eq_true rfl⟩ hW hS ⟨by decide, rfl⟩ rfl rfl (As := [.int (nI k), .int 30, .int (nI c)]) (rest := []) rfl hl.1 rfl (Nat.le_of_ble_eq_true rfl) dX4_scan_90 ⟨by first | exact Nat.le_of_ble_eq_true rfl | omega, by first | exact Nat.le_of_ble_eq_true rfl | omega⟩ (fun r9 sg9 H locs hq hW hS => ?_)
                obtain ⟨rfl, hsa9⟩ := hq
                have hW : kx_Wd G z0 ad nb (sg9) H := by first | exact hW | (simp only [kx_up_s, kx_up_up] at hW; exact hW) | (simp only [kx_up_s, kx_up_up, upd_s] at hW; exact hW)
                refine W.eq (g2 := F0 m 93 ls [.int (nI n9)]) rfl ?_
                exact kx_ri F hr hlocks hW hS (by first | exact Nat.le_of_ble_eq_true rfl | omega) (by first | exact Nat.le_of_ble_eq_true rfl | omega) (Or.inr (Or.inr (Or.inr ⟨k, c, hk, rfl, hc, rfl, hR9, by rw [en9]; exact hlt9, by rw [en9], by rw [en9, hp9]; exact hsa9⟩))) dX4_scan_93
              · refine lv_iconst (v := 0) hx hb dX4_scan_83 (by decide) ?_
                refine lv_goto (tgt := 89) hx hb dX4_scan_84 (by decide) ?_
                refine lv_iload_n hx hb dX4_scan_89 rfl (lv_at hl 4 rfl) ?_
                have hp9 : tm_pt (nI c) z = 0 := (if_neg c_69).trans (if_pos c_80)
                refine kx_cV (na := 3) F (q := 14) (n := 0) (c_X4_adds l G z0 ad nb (kx_up sg 14 0 (upd (sg 14 0) 22 0)) mb (tm_WF_th hwf) k hk n9 hn9 hlt9 0 (nI c) (Or.inr ⟨c, by omega, rfl⟩)) gX4_scan_X4_adds rfl (by decide +kernel) ⟨Nat.le_of_ble_eq_true rfl, Nat.le_of_ble_eq_true rfl⟩ hW hS ⟨by decide, rfl⟩ rfl rfl (As := [.int (nI k), .int 0, .int (nI c)]) (rest := []) rfl hl.1 rfl (Nat.le_of_ble_eq_true rfl) dX4_scan_90 ⟨by first | exact Nat.le_of_ble_eq_true rfl | omega, by first | exact Nat.le_of_ble_eq_true rfl | omega⟩ (fun r9 sg9 H locs hq hW hS => ?_)
                obtain ⟨rfl, hsa9⟩ := hq
                have hW : kx_Wd G z0 ad nb (sg9) H := by first | exact hW | (simp only [kx_up_s, kx_up_up] at hW; exact hW) | (simp only [kx_up_s, kx_up_up, upd_s] at hW; exact hW)
                refine W.eq (g2 := F0 m 93 ls [.int (nI n9)]) rfl ?_
                exact kx_ri F hr hlocks hW hS (by first | exact Nat.le_of_ble_eq_true rfl | omega) (by first | exact Nat.le_of_ble_eq_true rfl | omega) (Or.inr (Or.inr (Or.inr ⟨k, c, hk, rfl, hc, rfl, hR9, by rw [en9]; exact hlt9, by rw [en9], by rw [en9, hp9]; exact hsa9⟩))) dX4_scan_93
            · refine lv_iload_n hx hb dX4_scan_72 rfl (lv_at hl 4 rfl) ?_
              refine lv_iconst (v := 1) hx hb dX4_scan_73 (by decide) ?_
              refine lv_iadd hx hb dX4_scan_74 ?_
              refine lv_goto (tgt := 89) hx hb dX4_scan_75 (by decide) ?_
              refine lv_iload_n hx hb dX4_scan_89 rfl (lv_at hl 4 rfl) ?_
              have hp9 : tm_pt (nI c) z = ((nI c) + 1) := if_pos c_69
              refine kx_cV (na := 3) F (q := 14) (n := 0) (c_X4_adds l G z0 ad nb (kx_up sg 14 0 (upd (sg 14 0) 22 0)) mb (tm_WF_th hwf) k hk n9 hn9 hlt9 ((nI c) + 1) (nI c) (Or.inr ⟨c, by omega, rfl⟩)) gX4_scan_X4_adds rfl (by decide +kernel) ⟨Nat.le_of_ble_eq_true rfl, Nat.le_of_ble_eq_true rfl⟩ hW hS ⟨by decide, rfl⟩ rfl rfl (As := [.int (nI k), .int ((nI c) + 1), .int (nI c)]) (rest := []) rfl hl.1 rfl (Nat.le_of_ble_eq_true rfl) dX4_scan_90 ⟨by first | exact Nat.le_of_ble_eq_true rfl | omega, by first | exact Nat.le_of_ble_eq_true rfl | omega⟩ (fun r9 sg9 H locs hq hW hS => ?_)
              obtain ⟨rfl, hsa9⟩ := hq
              have hW : kx_Wd G z0 ad nb (sg9) H := by first | exact hW | (simp only [kx_up_s, kx_up_up] at hW; exact hW) | (simp only [kx_up_s, kx_up_up, upd_s] at hW; exact hW)
              refine W.eq (g2 := F0 m 93 ls [.int (nI n9)]) rfl ?_
              exact kx_ri F hr hlocks hW hS (by first | exact Nat.le_of_ble_eq_true rfl | omega) (by first | exact Nat.le_of_ble_eq_true rfl | omega) (Or.inr (Or.inr (Or.inr ⟨k, c, hk, rfl, hc, rfl, hR9, by rw [en9]; exact hlt9, by rw [en9], by rw [en9, hp9]; exact hsa9⟩))) dX4_scan_93
          · refine lv_iconst (v := 0) hx hb dX4_scan_64 (by decide) ?_
            exact kx_ri F hr hlocks hW hS (by first | exact Nat.le_of_ble_eq_true rfl | omega) (by first | exact Nat.le_of_ble_eq_true rfl | omega) (by cases hR : tw_in z 0 2 with | false => exact Or.inr (Or.inl ⟨⟨k, hk, rfl⟩, ⟨c, hc, rfl⟩, rfl, rfl, tm_Q_th (by decide)⟩) | true => rw [hR] at c_61; exact absurd c_61 (by decide)) dX4_scan_65

set_option maxHeartbeats 4000000 in
set_option maxRecDepth 100000 in
theorem c_X4_lay (l : Launch) (G : kx_G) (z0 : Nat) (ad : kx_A) (nb : Nat) (sg : kx_S) (mb : Nat) (hwf : tm_WF mb sg) (x y : Int32) : kx_M l yX4_lay wsX4_lay 5 119 0 0 G z0 ad nb sg [.ref (ad 14 0), .int x, .int y] (fun r sg' => (((∀ k, k < mb → ¬ x = nI k) ∨ (∀ d, d < 10 → ¬ y = nI d)) ∧ r = some (.int 0) ∧ tm_Q sg sg' 1) ∨ (∃ k d : Nat, k < mb ∧ x = nI k ∧ d < 10 ∧ y = nI d ∧ (tm_n sg k = 12 ∨ ¬ sg 15 0 k ≤ sg 25 0 d) ∧ r = some (.int 0) ∧ tm_Q sg sg' 2) ∨ (∃ k d : Nat, k < mb ∧ x = nI k ∧ d < 10 ∧ y = nI d ∧ tm_n sg k < 12 ∧ sg 15 0 k ≤ sg 25 0 d ∧ r = some (.int (nI (tm_n sg k))) ∧ tm_SA mb (tm_add (kx_up sg 14 0 (upd (sg 14 0) 22 0)) k (tm_n sg k) (10 + nI d) (nI (4 + d))) sg')) := by
  refine Met.ofW (cc := cX4_lay) (maxL := 4) (ret := (some .int)) (by decide) rfl ?_
  intro p e s m args below meth c s₁ B hml hv
  obtain ⟨rfl, hW, hV⟩ := hv
  have hts := atoms_spec (ws := wsX4_lay) B.pre
  have F : kx_F p s m c cX4_lay 4 RX4 _ wsX4_lay G z0 := ⟨B.exec, B.bytes, hml, findClass_of_methodNamed B.named, hts, hV⟩
  have hx := B.exec; have hb := B.bytes; have hr := B.returns; have hlocks := B.notSynchronized
  have hS : va_S (kx_Ad z0) s.heap s.heap [] := va_S.rf
  have hmb16 := hwf.2.1
  have L_16 : Cond.fieldLink RX4 16 (TX4 3).1 (TX4 3).2.1 (TX4 3).2.2.1 ∈ wsX4_lay := by decide +kernel
  have L_41 : Cond.fieldLink RX4 41 (TX4 12).1 (TX4 12).2.1 (TX4 12).2.2.1 ∈ wsX4_lay := by decide +kernel
  have L_7 : Cond.fieldLink RX4 7 (TX4 1).1 (TX4 1).2.1 (TX4 1).2.2.1 ∈ wsX4_lay := by decide +kernel
  have inX4 : ∀ w ∈ u_ws RX4 TX4 23, w ∈ wsX4_lay := by decide +kernel
  have hl := lv_entry ([.ref (ad 14 0), .int x, .int y]) (n := 4) (Nat.le_of_ble_eq_true rfl)
  rw [lg_entry_eq]
  generalize (lg_sl ([.ref (ad 14 0), .int x, .int y]) ++ List.replicate (4 - (lg_sl ([.ref (ad 14 0), .int x, .int y])).length) Slot.unset).toArray = ls at hl ⊢
  have hl : lv_has ls 4 [(0, .ref (ad 14 0)), (1, .int x), (2, .int y)] := hl
  refine lv_aload_n hx hb dX4_lay_0 rfl (lv_at hl 0 rfl) ?_
  refine lv_iload_n hx hb dX4_lay_1 rfl (lv_at hl 1 rfl) ?_
  refine kx_cV (na := 1) F (q := 14) (n := 0) (c_X4_isBox l G z0 ad nb sg x) gX4_lay_X4_isBox rfl (by decide +kernel) ⟨Nat.le_of_ble_eq_true rfl, Nat.le_of_ble_eq_true rfl⟩ hW hS ⟨by decide, rfl⟩ rfl rfl (As := [.int x]) (rest := []) rfl hl.1 rfl (Nat.le_of_ble_eq_true rfl) dX4_lay_2 ⟨by first | exact Nat.le_of_ble_eq_true rfl | omega, by first | exact Nat.le_of_ble_eq_true rfl | omega⟩ (fun r9 sg9 H locs hq hW hS => ?_)
  obtain ⟨rfl, e9⟩ := hq
  rw [e9] at hW
  refine W.eq (g2 := F0 m 5 ls [.int (tw_b (tw_in x 0 (sg 14 0 7 - 1)))]) rfl ?_
  refine lv_if_eq (tgt := 19) hx hb dX4_lay_5 (by decide) (fun c_5 => ?_) (fun c_5 => ?_)
  · refine lv_iconst (v := 0) hx hb dX4_lay_19 (by decide) ?_
    refine lv_istore_n (lv' := [(3, .int 0), (0, .ref (ad 14 0)), (1, .int x), (2, .int y)]) hx hb dX4_lay_20 rfl hl (by decide) rfl (fun ls hl => ?_)
    refine lv_aload_n hx hb dX4_lay_21 rfl (lv_at hl 1 rfl) ?_
    refine lv_iload_n hx hb dX4_lay_22 rfl (lv_at hl 0 rfl) ?_
    refine lv_iload_n hx hb dX4_lay_23 rfl (lv_at hl 0 rfl) ?_
    refine lv_if_eq (tgt := 57) hx hb dX4_lay_24 (by decide) (fun c_24 => ?_) (fun c_24 => ?_)
    · refine lv_iconst (v := 0) hx hb dX4_lay_57 (by decide) ?_
      refine kx_cV (na := 2) F (q := 14) (n := 0) (c_X4_asked_ l G z0 ad nb sg 0 0) gX4_lay_X4_asked_ rfl (by decide +kernel) ⟨Nat.le_of_ble_eq_true rfl, Nat.le_of_ble_eq_true rfl⟩ hW hS ⟨by decide, rfl⟩ rfl rfl (As := [.int 0, .int 0]) (rest := []) rfl hl.1 rfl (Nat.le_of_ble_eq_true rfl) dX4_lay_58 ⟨by first | exact Nat.le_of_ble_eq_true rfl | omega, by first | exact Nat.le_of_ble_eq_true rfl | omega⟩ (fun r9 sg9 H locs hq hW hS => ?_)
      obtain ⟨rfl, e9⟩ := hq
      rw [e9] at hW
      have hW : kx_Wd G z0 ad nb (kx_up sg 14 0 (upd (sg 14 0) 22 (tw_a2 0 0))) H := by first | exact hW | (simp only [kx_up_s, kx_up_up] at hW; exact hW) | (simp only [kx_up_s, kx_up_up, upd_s] at hW; exact hW)
      refine W.eq (g2 := F0 m 61 ls [.int (tw_b (decide (tw_a2 0 0 = 0)))]) rfl ?_
      refine lv_if_ne (tgt := 66) hx hb dX4_lay_61 (by decide) (fun c_61 => ?_) (fun c_61 => ?_)
      · exact absurd c_61 (by decide)
      · refine lv_iconst (v := 0) hx hb dX4_lay_64 (by decide) ?_
        exact kx_ri F hr hlocks hW hS (by first | exact Nat.le_of_ble_eq_true rfl | omega) (by first | exact Nat.le_of_ble_eq_true rfl | omega) (Or.inl ⟨Or.inl (tw_nobox hwf (tw_b_0 c_5)), rfl, tm_Q_th (if_pos rfl)⟩) dX4_lay_65
    · exact absurd rfl c_24
  · obtain ⟨k, hk, rfl⟩ := tw_isbox hwf (tw_b_1 c_5)
    obtain ⟨n9, hn9, h129, hwho9⟩ := hwf.2.2.1 k hk
    have en9 := tm_n_eq hn9 h129
    refine lv_iload_n hx hb dX4_lay_8 rfl (lv_at hl 2 rfl) ?_
    refine kx_cS (na := 1) F (c_X4_isDoor l G z0 ad nb sg y) gX4_lay_X4_isDoor rfl (by decide +kernel) ⟨Nat.le_of_ble_eq_true rfl, Nat.le_of_ble_eq_true rfl⟩ hW hS (As := [.int y]) (rest := []) rfl hl.1 rfl (Nat.le_of_ble_eq_true rfl) dX4_lay_9 ⟨by first | exact Nat.le_of_ble_eq_true rfl | omega, by first | exact Nat.le_of_ble_eq_true rfl | omega⟩ (fun r9 sg9 H locs hq hW hS => ?_)
    obtain ⟨rfl, e9⟩ := hq
    rw [e9] at hW
    refine W.eq (g2 := F0 m 12 ls [.int (tw_b (tw_in y 0 9))]) rfl ?_
    refine lv_if_eq (tgt := 19) hx hb dX4_lay_12 (by decide) (fun c_12 => ?_) (fun c_12 => ?_)
    · refine lv_iconst (v := 0) hx hb dX4_lay_19 (by decide) ?_
      refine lv_istore_n (lv' := [(3, .int 0), (0, .ref (ad 14 0)), (1, .int (nI k)), (2, .int y)]) hx hb dX4_lay_20 rfl hl (by decide) rfl (fun ls hl => ?_)
      refine lv_aload_n hx hb dX4_lay_21 rfl (lv_at hl 1 rfl) ?_
      refine lv_iload_n hx hb dX4_lay_22 rfl (lv_at hl 0 rfl) ?_
      refine lv_iload_n hx hb dX4_lay_23 rfl (lv_at hl 0 rfl) ?_
      refine lv_if_eq (tgt := 57) hx hb dX4_lay_24 (by decide) (fun c_24 => ?_) (fun c_24 => ?_)
      · refine lv_iconst (v := 0) hx hb dX4_lay_57 (by decide) ?_
        refine kx_cV (na := 2) F (q := 14) (n := 0) (c_X4_asked_ l G z0 ad nb sg 0 0) gX4_lay_X4_asked_ rfl (by decide +kernel) ⟨Nat.le_of_ble_eq_true rfl, Nat.le_of_ble_eq_true rfl⟩ hW hS ⟨by decide, rfl⟩ rfl rfl (As := [.int 0, .int 0]) (rest := []) rfl hl.1 rfl (Nat.le_of_ble_eq_true rfl) dX4_lay_58 ⟨by first | exact Nat.le_of_ble_eq_true rfl | omega, by first | exact Nat.le_of_ble_eq_true rfl | omega⟩ (fun r9 sg9 H locs hq hW hS => ?_)
        obtain ⟨rfl, e9⟩ := hq
        rw [e9] at hW
        have hW : kx_Wd G z0 ad nb (kx_up sg 14 0 (upd (sg 14 0) 22 (tw_a2 0 0))) H := by first | exact hW | (simp only [kx_up_s, kx_up_up] at hW; exact hW) | (simp only [kx_up_s, kx_up_up, upd_s] at hW; exact hW)
        refine W.eq (g2 := F0 m 61 ls [.int (tw_b (decide (tw_a2 0 0 = 0)))]) rfl ?_
        refine lv_if_ne (tgt := 66) hx hb dX4_lay_61 (by decide) (fun c_61 => ?_) (fun c_61 => ?_)
        · exact absurd c_61 (by decide)
        · refine lv_iconst (v := 0) hx hb dX4_lay_64 (by decide) ?_
          exact kx_ri F hr hlocks hW hS (by first | exact Nat.le_of_ble_eq_true rfl | omega) (by first | exact Nat.le_of_ble_eq_true rfl | omega) (Or.inl ⟨Or.inr (tw_nodoor (tw_b_0 c_12)), rfl, tm_Q_th (if_pos rfl)⟩) dX4_lay_65
      · exact absurd rfl c_24
    · obtain ⟨d, hd, rfl⟩ := tw_isdoor (tw_b_1 c_12)
      refine lv_iconst (v := 1) hx hb dX4_lay_15 (by decide) ?_
      refine lv_goto (tgt := 20) hx hb dX4_lay_16 (by decide) ?_
      refine lv_istore_n (lv' := [(3, .int 1), (0, .ref (ad 14 0)), (1, .int (nI k)), (2, .int (nI d))]) hx hb dX4_lay_20 rfl hl (by decide) rfl (fun ls hl => ?_)
      refine lv_aload_n hx hb dX4_lay_21 rfl (lv_at hl 1 rfl) ?_
      refine lv_iload_n hx hb dX4_lay_22 rfl (lv_at hl 0 rfl) ?_
      refine lv_iload_n hx hb dX4_lay_23 rfl (lv_at hl 0 rfl) ?_
      refine lv_if_eq (tgt := 57) hx hb dX4_lay_24 (by decide) (fun c_24 => ?_) (fun c_24 => ?_)
      · exact absurd c_24 (by decide)
      · refine lv_aload_n hx hb dX4_lay_27 rfl (lv_at hl 1 rfl) ?_
        refine kx_g F inX4 hW 14 0 ⟨by decide, rfl⟩ rfl rfl 3 (by decide) L_16 (v := .ref (ad 17 0)) rfl dX4_lay_28 ?_
        refine lv_iload_n hx hb dX4_lay_31 rfl (lv_at hl 2 rfl) ?_
        refine kx_ald F hW 17 0 ⟨by decide, rfl⟩ rfl k (by omega) (by decide) (v := nI n9) hn9 dX4_lay_32 ?_
        refine lv_bipush (v := 12) hx hb dX4_lay_33 (by decide) ?_
        refine lv_icmp_ge (tgt := 57) hx hb dX4_lay_35 (by decide) (fun c_35 => ?_) (fun c_35 => ?_)
        · refine lv_iconst (v := 0) hx hb dX4_lay_57 (by decide) ?_
          refine kx_cV (na := 2) F (q := 14) (n := 0) (c_X4_asked_ l G z0 ad nb sg 1 0) gX4_lay_X4_asked_ rfl (by decide +kernel) ⟨Nat.le_of_ble_eq_true rfl, Nat.le_of_ble_eq_true rfl⟩ hW hS ⟨by decide, rfl⟩ rfl rfl (As := [.int 1, .int 0]) (rest := []) rfl hl.1 rfl (Nat.le_of_ble_eq_true rfl) dX4_lay_58 ⟨by first | exact Nat.le_of_ble_eq_true rfl | omega, by first | exact Nat.le_of_ble_eq_true rfl | omega⟩ (fun r9 sg9 H locs hq hW hS => ?_)
          obtain ⟨rfl, e9⟩ := hq
          rw [e9] at hW
          have hW : kx_Wd G z0 ad nb (kx_up sg 14 0 (upd (sg 14 0) 22 (tw_a2 1 0))) H := by first | exact hW | (simp only [kx_up_s, kx_up_up] at hW; exact hW) | (simp only [kx_up_s, kx_up_up, upd_s] at hW; exact hW)
          refine W.eq (g2 := F0 m 61 ls [.int (tw_b (decide (tw_a2 1 0 = 0)))]) rfl ?_
          refine lv_if_ne (tgt := 66) hx hb dX4_lay_61 (by decide) (fun c_61 => ?_) (fun c_61 => ?_)
          · exact absurd c_61 (by decide)
          · refine lv_iconst (v := 0) hx hb dX4_lay_64 (by decide) ?_
            exact kx_ri F hr hlocks hW hS (by first | exact Nat.le_of_ble_eq_true rfl | omega) (by first | exact Nat.le_of_ble_eq_true rfl | omega) (Or.inr (Or.inl ⟨k, d, hk, rfl, hd, rfl, Or.inl (by rw [en9]; exact tw_ge12 h129 c_35), rfl, tm_Q_th rfl⟩)) dX4_lay_65
        · refine lv_aload_n hx hb dX4_lay_38 rfl (lv_at hl 1 rfl) ?_
          refine kx_g F inX4 hW 14 0 ⟨by decide, rfl⟩ rfl rfl 1 (by decide) L_7 (v := .ref (ad 15 0)) rfl dX4_lay_39 ?_
          refine lv_iload_n hx hb dX4_lay_42 rfl (lv_at hl 2 rfl) ?_
          refine kx_ald F hW 15 0 ⟨by decide, rfl⟩ rfl k (by omega) (by decide) (v := sg 15 0 k) rfl dX4_lay_43 ?_
          refine lv_aload_n hx hb dX4_lay_44 rfl (lv_at hl 1 rfl) ?_
          refine kx_g F inX4 hW 14 0 ⟨by decide, rfl⟩ rfl rfl 12 (by decide) L_41 (v := .ref (ad 25 0)) rfl dX4_lay_45 ?_
          refine lv_iload_n hx hb dX4_lay_48 rfl (lv_at hl 3 rfl) ?_
          refine kx_ald F hW 25 0 ⟨by decide, rfl⟩ rfl d (by omega) (by decide) (v := sg 25 0 d) rfl dX4_lay_49 ?_
          refine lv_icmp_gt (tgt := 57) hx hb dX4_lay_50 (by decide) (fun c_50 => ?_) (fun c_50 => ?_)
          · refine lv_iconst (v := 0) hx hb dX4_lay_57 (by decide) ?_
            refine kx_cV (na := 2) F (q := 14) (n := 0) (c_X4_asked_ l G z0 ad nb sg 1 0) gX4_lay_X4_asked_ rfl (by decide +kernel) ⟨Nat.le_of_ble_eq_true rfl, Nat.le_of_ble_eq_true rfl⟩ hW hS ⟨by decide, rfl⟩ rfl rfl (As := [.int 1, .int 0]) (rest := []) rfl hl.1 rfl (Nat.le_of_ble_eq_true rfl) dX4_lay_58 ⟨by first | exact Nat.le_of_ble_eq_true rfl | omega, by first | exact Nat.le_of_ble_eq_true rfl | omega⟩ (fun r9 sg9 H locs hq hW hS => ?_)
            obtain ⟨rfl, e9⟩ := hq
            rw [e9] at hW
            have hW : kx_Wd G z0 ad nb (kx_up sg 14 0 (upd (sg 14 0) 22 (tw_a2 1 0))) H := by first | exact hW | (simp only [kx_up_s, kx_up_up] at hW; exact hW) | (simp only [kx_up_s, kx_up_up, upd_s] at hW; exact hW)
            refine W.eq (g2 := F0 m 61 ls [.int (tw_b (decide (tw_a2 1 0 = 0)))]) rfl ?_
            refine lv_if_ne (tgt := 66) hx hb dX4_lay_61 (by decide) (fun c_61 => ?_) (fun c_61 => ?_)
            · exact absurd c_61 (by decide)
            · refine lv_iconst (v := 0) hx hb dX4_lay_64 (by decide) ?_
              exact kx_ri F hr hlocks hW hS (by first | exact Nat.le_of_ble_eq_true rfl | omega) (by first | exact Nat.le_of_ble_eq_true rfl | omega) (Or.inr (Or.inl ⟨k, d, hk, rfl, hd, rfl, Or.inr (tw_ge2 c_50), rfl, tm_Q_th rfl⟩)) dX4_lay_65
          · refine lv_iconst (v := 1) hx hb dX4_lay_53 (by decide) ?_
            refine lv_goto (tgt := 58) hx hb dX4_lay_54 (by decide) ?_
            refine kx_cV (na := 2) F (q := 14) (n := 0) (c_X4_asked_ l G z0 ad nb sg 1 1) gX4_lay_X4_asked_ rfl (by decide +kernel) ⟨Nat.le_of_ble_eq_true rfl, Nat.le_of_ble_eq_true rfl⟩ hW hS ⟨by decide, rfl⟩ rfl rfl (As := [.int 1, .int 1]) (rest := []) rfl hl.1 rfl (Nat.le_of_ble_eq_true rfl) dX4_lay_58 ⟨by first | exact Nat.le_of_ble_eq_true rfl | omega, by first | exact Nat.le_of_ble_eq_true rfl | omega⟩ (fun r9 sg9 H locs hq hW hS => ?_)
            obtain ⟨rfl, e9⟩ := hq
            rw [e9] at hW
            have hW : kx_Wd G z0 ad nb (kx_up sg 14 0 (upd (sg 14 0) 22 (tw_a2 1 1))) H := by first | exact hW | (simp only [kx_up_s, kx_up_up] at hW; exact hW) | (simp only [kx_up_s, kx_up_up, upd_s] at hW; exact hW)
            refine W.eq (g2 := F0 m 61 ls [.int (tw_b (decide (tw_a2 1 1 = 0)))]) rfl ?_
            refine lv_if_ne (tgt := 66) hx hb dX4_lay_61 (by decide) (fun c_61 => ?_) (fun c_61 => ?_)
            · have hT9 : tw_a2 1 1 = 0 := by decide
              rw [hT9] at hW
              have hlt9 := tw_nlt12 h129 c_35
              refine lv_aload_n hx hb dX4_lay_66 rfl (lv_at hl 1 rfl) ?_
              refine lv_iload_n hx hb dX4_lay_67 rfl (lv_at hl 2 rfl) ?_
              refine lv_bipush (v := 10) hx hb dX4_lay_68 (by decide) ?_
              refine lv_iload_n hx hb dX4_lay_70 rfl (lv_at hl 3 rfl) ?_
              refine lv_iadd hx hb dX4_lay_71 ?_
              refine lv_iconst (v := 4) hx hb dX4_lay_72 (by decide) ?_
              refine lv_iload_n hx hb dX4_lay_73 rfl (lv_at hl 3 rfl) ?_
              refine lv_iadd hx hb dX4_lay_74 ?_
              rw [show (4 : Int32) + nI d = nI (4 + d) from nI_add 4 d]
              refine kx_cV (na := 3) F (q := 14) (n := 0) (c_X4_adds l G z0 ad nb (kx_up sg 14 0 (upd (sg 14 0) 22 0)) mb (tm_WF_th hwf) k hk n9 hn9 hlt9 (10 + (nI d)) (nI (4 + d)) (Or.inr ⟨4 + d, by omega, rfl⟩)) gX4_lay_X4_adds rfl (by decide +kernel) ⟨Nat.le_of_ble_eq_true rfl, Nat.le_of_ble_eq_true rfl⟩ hW hS ⟨by decide, rfl⟩ rfl rfl (As := [.int (nI k), .int (10 + (nI d)), .int (nI (4 + d))]) (rest := []) rfl hl.1 rfl (Nat.le_of_ble_eq_true rfl) dX4_lay_75 ⟨by first | exact Nat.le_of_ble_eq_true rfl | omega, by first | exact Nat.le_of_ble_eq_true rfl | omega⟩ (fun r9 sg9 H locs hq hW hS => ?_)
              obtain ⟨rfl, hsa9⟩ := hq
              have hW : kx_Wd G z0 ad nb (sg9) H := by first | exact hW | (simp only [kx_up_s, kx_up_up] at hW; exact hW) | (simp only [kx_up_s, kx_up_up, upd_s] at hW; exact hW)
              refine W.eq (g2 := F0 m 78 ls [.int (nI n9)]) rfl ?_
              exact kx_ri F hr hlocks hW hS (by first | exact Nat.le_of_ble_eq_true rfl | omega) (by first | exact Nat.le_of_ble_eq_true rfl | omega) (Or.inr (Or.inr ⟨k, d, hk, rfl, hd, rfl, by rw [en9]; exact hlt9, tw_nlt c_50, by rw [en9], by rw [en9]; exact hsa9⟩)) dX4_lay_78
            · exact absurd c_61 (by decide)

set_option maxHeartbeats 4000000 in
set_option maxRecDepth 100000 in
theorem c_X4_find (l : Launch) (G : kx_G) (z0 : Nat) (ad : kx_A) (nb : Nat) (sg : kx_S) (mb : Nat) (hwf : tm_WF mb sg) (x y : Int32) : kx_M l yX4_find wsX4_find 5 119 0 0 G z0 ad nb sg [.ref (ad 14 0), .int x, .int y] (fun r sg' => (((∀ k, k < mb → ¬ x = nI k) ∨ tw_pl y = false) ∧ r = some (.int 0) ∧ tm_Q sg sg' 1) ∨ (∃ k : Nat, k < mb ∧ x = nI k ∧ tw_pl y = true ∧ tm_n sg k = 12 ∧ r = some (.int 0) ∧ tm_Q sg sg' 2) ∨ (∃ k : Nat, k < mb ∧ x = nI k ∧ tw_pl y = true ∧ tm_n sg k < 12 ∧ r = some (.int (nI (tm_n sg k))) ∧ tm_SA mb (tm_add (kx_up sg 14 0 (upd (sg 14 0) 22 0)) k (tm_n sg k) y (-1)) sg')) := by
  refine Met.ofW (cc := cX4_find) (maxL := 4) (ret := (some .int)) (by decide) rfl ?_
  intro p e s m args below meth c s₁ B hml hv
  obtain ⟨rfl, hW, hV⟩ := hv
  have hts := atoms_spec (ws := wsX4_find) B.pre
  have F : kx_F p s m c cX4_find 4 RX4 _ wsX4_find G z0 := ⟨B.exec, B.bytes, hml, findClass_of_methodNamed B.named, hts, hV⟩
  have hx := B.exec; have hb := B.bytes; have hr := B.returns; have hlocks := B.notSynchronized
  have hS : va_S (kx_Ad z0) s.heap s.heap [] := va_S.rf
  have hmb16 := hwf.2.1
  have L_16 : Cond.fieldLink RX4 16 (TX4 3).1 (TX4 3).2.1 (TX4 3).2.2.1 ∈ wsX4_find := by decide +kernel
  have inX4 : ∀ w ∈ u_ws RX4 TX4 23, w ∈ wsX4_find := by decide +kernel
  have hl := lv_entry ([.ref (ad 14 0), .int x, .int y]) (n := 4) (Nat.le_of_ble_eq_true rfl)
  rw [lg_entry_eq]
  generalize (lg_sl ([.ref (ad 14 0), .int x, .int y]) ++ List.replicate (4 - (lg_sl ([.ref (ad 14 0), .int x, .int y])).length) Slot.unset).toArray = ls at hl ⊢
  have hl : lv_has ls 4 [(0, .ref (ad 14 0)), (1, .int x), (2, .int y)] := hl
  refine lv_aload_n hx hb dX4_find_0 rfl (lv_at hl 0 rfl) ?_
  refine lv_iload_n hx hb dX4_find_1 rfl (lv_at hl 1 rfl) ?_
  refine kx_cV (na := 1) F (q := 14) (n := 0) (c_X4_isBox l G z0 ad nb sg x) gX4_find_X4_isBox rfl (by decide +kernel) ⟨Nat.le_of_ble_eq_true rfl, Nat.le_of_ble_eq_true rfl⟩ hW hS ⟨by decide, rfl⟩ rfl rfl (As := [.int x]) (rest := []) rfl hl.1 rfl (Nat.le_of_ble_eq_true rfl) dX4_find_2 ⟨by first | exact Nat.le_of_ble_eq_true rfl | omega, by first | exact Nat.le_of_ble_eq_true rfl | omega⟩ (fun r9 sg9 H locs hq hW hS => ?_)
  obtain ⟨rfl, e9⟩ := hq
  rw [e9] at hW
  refine W.eq (g2 := F0 m 5 ls [.int (tw_b (tw_in x 0 (sg 14 0 7 - 1)))]) rfl ?_
  refine lv_if_eq (tgt := 19) hx hb dX4_find_5 (by decide) (fun c_5 => ?_) (fun c_5 => ?_)
  · refine lv_iconst (v := 0) hx hb dX4_find_19 (by decide) ?_
    refine lv_istore_n (lv' := [(3, .int 0), (0, .ref (ad 14 0)), (1, .int x), (2, .int y)]) hx hb dX4_find_20 rfl hl (by decide) rfl (fun ls hl => ?_)
    refine lv_aload_n hx hb dX4_find_21 rfl (lv_at hl 1 rfl) ?_
    refine lv_iload_n hx hb dX4_find_22 rfl (lv_at hl 0 rfl) ?_
    refine lv_iload_n hx hb dX4_find_23 rfl (lv_at hl 0 rfl) ?_
    refine lv_if_eq (tgt := 42) hx hb dX4_find_24 (by decide) (fun c_24 => ?_) (fun c_24 => ?_)
    · refine lv_iconst (v := 0) hx hb dX4_find_42 (by decide) ?_
      refine kx_cV (na := 2) F (q := 14) (n := 0) (c_X4_asked_ l G z0 ad nb sg 0 0) gX4_find_X4_asked_ rfl (by decide +kernel) ⟨Nat.le_of_ble_eq_true rfl, Nat.le_of_ble_eq_true rfl⟩ hW hS ⟨by decide, rfl⟩ rfl rfl (As := [.int 0, .int 0]) (rest := []) rfl hl.1 rfl (Nat.le_of_ble_eq_true rfl) dX4_find_43 ⟨by first | exact Nat.le_of_ble_eq_true rfl | omega, by first | exact Nat.le_of_ble_eq_true rfl | omega⟩ (fun r9 sg9 H locs hq hW hS => ?_)
      obtain ⟨rfl, e9⟩ := hq
      rw [e9] at hW
      have hW : kx_Wd G z0 ad nb (kx_up sg 14 0 (upd (sg 14 0) 22 (tw_a2 0 0))) H := by first | exact hW | (simp only [kx_up_s, kx_up_up] at hW; exact hW) | (simp only [kx_up_s, kx_up_up, upd_s] at hW; exact hW)
      refine W.eq (g2 := F0 m 46 ls [.int (tw_b (decide (tw_a2 0 0 = 0)))]) rfl ?_
      refine lv_if_ne (tgt := 51) hx hb dX4_find_46 (by decide) (fun c_46 => ?_) (fun c_46 => ?_)
      · exact absurd c_46 (by decide)
      · refine lv_iconst (v := 0) hx hb dX4_find_49 (by decide) ?_
        exact kx_ri F hr hlocks hW hS (by first | exact Nat.le_of_ble_eq_true rfl | omega) (by first | exact Nat.le_of_ble_eq_true rfl | omega) (Or.inl ⟨Or.inl (tw_nobox hwf (tw_b_0 c_5)), rfl, tm_Q_th (if_pos rfl)⟩) dX4_find_50
    · exact absurd rfl c_24
  · obtain ⟨k, hk, rfl⟩ := tw_isbox hwf (tw_b_1 c_5)
    obtain ⟨n9, hn9, h129, hwho9⟩ := hwf.2.2.1 k hk
    have en9 := tm_n_eq hn9 h129
    refine lv_iload_n hx hb dX4_find_8 rfl (lv_at hl 2 rfl) ?_
    refine kx_cS (na := 1) F (c_X4_isPlace l G z0 ad nb sg y) gX4_find_X4_isPlace rfl (by decide +kernel) ⟨Nat.le_of_ble_eq_true rfl, Nat.le_of_ble_eq_true rfl⟩ hW hS (As := [.int y]) (rest := []) rfl hl.1 rfl (Nat.le_of_ble_eq_true rfl) dX4_find_9 ⟨by first | exact Nat.le_of_ble_eq_true rfl | omega, by first | exact Nat.le_of_ble_eq_true rfl | omega⟩ (fun r9 sg9 H locs hq hW hS => ?_)
    obtain ⟨rfl, e9⟩ := hq
    rw [e9] at hW
    refine W.eq (g2 := F0 m 12 ls [.int (tw_b (tw_pl y))]) rfl ?_
    refine lv_if_eq (tgt := 19) hx hb dX4_find_12 (by decide) (fun c_12 => ?_) (fun c_12 => ?_)
    · refine lv_iconst (v := 0) hx hb dX4_find_19 (by decide) ?_
      refine lv_istore_n (lv' := [(3, .int 0), (0, .ref (ad 14 0)), (1, .int (nI k)), (2, .int y)]) hx hb dX4_find_20 rfl hl (by decide) rfl (fun ls hl => ?_)
      refine lv_aload_n hx hb dX4_find_21 rfl (lv_at hl 1 rfl) ?_
      refine lv_iload_n hx hb dX4_find_22 rfl (lv_at hl 0 rfl) ?_
      refine lv_iload_n hx hb dX4_find_23 rfl (lv_at hl 0 rfl) ?_
      refine lv_if_eq (tgt := 42) hx hb dX4_find_24 (by decide) (fun c_24 => ?_) (fun c_24 => ?_)
      · refine lv_iconst (v := 0) hx hb dX4_find_42 (by decide) ?_
        refine kx_cV (na := 2) F (q := 14) (n := 0) (c_X4_asked_ l G z0 ad nb sg 0 0) gX4_find_X4_asked_ rfl (by decide +kernel) ⟨Nat.le_of_ble_eq_true rfl, Nat.le_of_ble_eq_true rfl⟩ hW hS ⟨by decide, rfl⟩ rfl rfl (As := [.int 0, .int 0]) (rest := []) rfl hl.1 rfl (Nat.le_of_ble_eq_true rfl) dX4_find_43 ⟨by first | exact Nat.le_of_ble_eq_true rfl | omega, by first | exact Nat.le_of_ble_eq_true rfl | omega⟩ (fun r9 sg9 H locs hq hW hS => ?_)
        obtain ⟨rfl, e9⟩ := hq
        rw [e9] at hW
        have hW : kx_Wd G z0 ad nb (kx_up sg 14 0 (upd (sg 14 0) 22 (tw_a2 0 0))) H := by first | exact hW | (simp only [kx_up_s, kx_up_up] at hW; exact hW) | (simp only [kx_up_s, kx_up_up, upd_s] at hW; exact hW)
        refine W.eq (g2 := F0 m 46 ls [.int (tw_b (decide (tw_a2 0 0 = 0)))]) rfl ?_
        refine lv_if_ne (tgt := 51) hx hb dX4_find_46 (by decide) (fun c_46 => ?_) (fun c_46 => ?_)
        · exact absurd c_46 (by decide)
        · refine lv_iconst (v := 0) hx hb dX4_find_49 (by decide) ?_
          exact kx_ri F hr hlocks hW hS (by first | exact Nat.le_of_ble_eq_true rfl | omega) (by first | exact Nat.le_of_ble_eq_true rfl | omega) (Or.inl ⟨Or.inr (tw_b_0 c_12), rfl, tm_Q_th (if_pos rfl)⟩) dX4_find_50
      · exact absurd rfl c_24
    · refine lv_iconst (v := 1) hx hb dX4_find_15 (by decide) ?_
      refine lv_goto (tgt := 20) hx hb dX4_find_16 (by decide) ?_
      refine lv_istore_n (lv' := [(3, .int 1), (0, .ref (ad 14 0)), (1, .int (nI k)), (2, .int y)]) hx hb dX4_find_20 rfl hl (by decide) rfl (fun ls hl => ?_)
      refine lv_aload_n hx hb dX4_find_21 rfl (lv_at hl 1 rfl) ?_
      refine lv_iload_n hx hb dX4_find_22 rfl (lv_at hl 0 rfl) ?_
      refine lv_iload_n hx hb dX4_find_23 rfl (lv_at hl 0 rfl) ?_
      refine lv_if_eq (tgt := 42) hx hb dX4_find_24 (by decide) (fun c_24 => ?_) (fun c_24 => ?_)
      · exact absurd c_24 (by decide)
      · refine lv_aload_n hx hb dX4_find_27 rfl (lv_at hl 1 rfl) ?_
        refine kx_g F inX4 hW 14 0 ⟨by decide, rfl⟩ rfl rfl 3 (by decide) L_16 (v := .ref (ad 17 0)) rfl dX4_find_28 ?_
        refine lv_iload_n hx hb dX4_find_31 rfl (lv_at hl 2 rfl) ?_
        refine kx_ald F hW 17 0 ⟨by decide, rfl⟩ rfl k (by omega) (by decide) (v := nI n9) hn9 dX4_find_32 ?_
        refine lv_bipush (v := 12) hx hb dX4_find_33 (by decide) ?_
        refine lv_icmp_ge (tgt := 42) hx hb dX4_find_35 (by decide) (fun c_35 => ?_) (fun c_35 => ?_)
        · refine lv_iconst (v := 0) hx hb dX4_find_42 (by decide) ?_
          refine kx_cV (na := 2) F (q := 14) (n := 0) (c_X4_asked_ l G z0 ad nb sg 1 0) gX4_find_X4_asked_ rfl (by decide +kernel) ⟨Nat.le_of_ble_eq_true rfl, Nat.le_of_ble_eq_true rfl⟩ hW hS ⟨by decide, rfl⟩ rfl rfl (As := [.int 1, .int 0]) (rest := []) rfl hl.1 rfl (Nat.le_of_ble_eq_true rfl) dX4_find_43 ⟨by first | exact Nat.le_of_ble_eq_true rfl | omega, by first | exact Nat.le_of_ble_eq_true rfl | omega⟩ (fun r9 sg9 H locs hq hW hS => ?_)
          obtain ⟨rfl, e9⟩ := hq
          rw [e9] at hW
          have hW : kx_Wd G z0 ad nb (kx_up sg 14 0 (upd (sg 14 0) 22 (tw_a2 1 0))) H := by first | exact hW | (simp only [kx_up_s, kx_up_up] at hW; exact hW) | (simp only [kx_up_s, kx_up_up, upd_s] at hW; exact hW)
          refine W.eq (g2 := F0 m 46 ls [.int (tw_b (decide (tw_a2 1 0 = 0)))]) rfl ?_
          refine lv_if_ne (tgt := 51) hx hb dX4_find_46 (by decide) (fun c_46 => ?_) (fun c_46 => ?_)
          · exact absurd c_46 (by decide)
          · refine lv_iconst (v := 0) hx hb dX4_find_49 (by decide) ?_
            exact kx_ri F hr hlocks hW hS (by first | exact Nat.le_of_ble_eq_true rfl | omega) (by first | exact Nat.le_of_ble_eq_true rfl | omega) (Or.inr (Or.inl ⟨k, hk, rfl, tw_b_1 c_12, by rw [en9]; exact tw_ge12 h129 c_35, rfl, tm_Q_th rfl⟩)) dX4_find_50
        · refine lv_iconst (v := 1) hx hb dX4_find_38 (by decide) ?_
          refine lv_goto (tgt := 43) hx hb dX4_find_39 (by decide) ?_
          refine kx_cV (na := 2) F (q := 14) (n := 0) (c_X4_asked_ l G z0 ad nb sg 1 1) gX4_find_X4_asked_ rfl (by decide +kernel) ⟨Nat.le_of_ble_eq_true rfl, Nat.le_of_ble_eq_true rfl⟩ hW hS ⟨by decide, rfl⟩ rfl rfl (As := [.int 1, .int 1]) (rest := []) rfl hl.1 rfl (Nat.le_of_ble_eq_true rfl) dX4_find_43 ⟨by first | exact Nat.le_of_ble_eq_true rfl | omega, by first | exact Nat.le_of_ble_eq_true rfl | omega⟩ (fun r9 sg9 H locs hq hW hS => ?_)
          obtain ⟨rfl, e9⟩ := hq
          rw [e9] at hW
          have hW : kx_Wd G z0 ad nb (kx_up sg 14 0 (upd (sg 14 0) 22 (tw_a2 1 1))) H := by first | exact hW | (simp only [kx_up_s, kx_up_up] at hW; exact hW) | (simp only [kx_up_s, kx_up_up, upd_s] at hW; exact hW)
          refine W.eq (g2 := F0 m 46 ls [.int (tw_b (decide (tw_a2 1 1 = 0)))]) rfl ?_
          refine lv_if_ne (tgt := 51) hx hb dX4_find_46 (by decide) (fun c_46 => ?_) (fun c_46 => ?_)
          · have hT9 : tw_a2 1 1 = 0 := by decide
            rw [hT9] at hW
            have hlt9 := tw_nlt12 h129 c_35
            refine lv_aload_n hx hb dX4_find_51 rfl (lv_at hl 1 rfl) ?_
            refine lv_iload_n hx hb dX4_find_52 rfl (lv_at hl 2 rfl) ?_
            refine lv_iload_n hx hb dX4_find_53 rfl (lv_at hl 3 rfl) ?_
            refine lv_iconst (v := (-1)) hx hb dX4_find_54 (by decide) ?_
            refine kx_cV (na := 3) F (q := 14) (n := 0) (c_X4_adds l G z0 ad nb (kx_up sg 14 0 (upd (sg 14 0) 22 0)) mb (tm_WF_th hwf) k hk n9 hn9 hlt9 y (-1) (Or.inl rfl)) gX4_find_X4_adds rfl (by decide +kernel) ⟨Nat.le_of_ble_eq_true rfl, Nat.le_of_ble_eq_true rfl⟩ hW hS ⟨by decide, rfl⟩ rfl rfl (As := [.int (nI k), .int y, .int (-1)]) (rest := []) rfl hl.1 rfl (Nat.le_of_ble_eq_true rfl) dX4_find_55 ⟨by first | exact Nat.le_of_ble_eq_true rfl | omega, by first | exact Nat.le_of_ble_eq_true rfl | omega⟩ (fun r9 sg9 H locs hq hW hS => ?_)
            obtain ⟨rfl, hsa9⟩ := hq
            have hW : kx_Wd G z0 ad nb (sg9) H := by first | exact hW | (simp only [kx_up_s, kx_up_up] at hW; exact hW) | (simp only [kx_up_s, kx_up_up, upd_s] at hW; exact hW)
            refine W.eq (g2 := F0 m 58 ls [.int (nI n9)]) rfl ?_
            exact kx_ri F hr hlocks hW hS (by first | exact Nat.le_of_ble_eq_true rfl | omega) (by first | exact Nat.le_of_ble_eq_true rfl | omega) (Or.inr (Or.inr ⟨k, hk, rfl, tw_b_1 c_12, by rw [en9]; exact hlt9, by rw [en9], by rw [en9]; exact hsa9⟩)) dX4_find_58
          · exact absurd c_46 (by decide)
