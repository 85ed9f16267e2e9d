theorem ci_setTrust {nb : Nat} {s s1 : kx_S} {x y : Int32} {r : Option Value} (h : cq_setTrust nb s x y r s1) : ∃ a : Int32, r = some (.int a) := by
  unfold cq_setTrust at h
  grind

theorem ce_setTrust {nb : Nat} {s : kx_S} {x y : Int32} {E : String} (h : cx_setTrust nb s x y E) : E = kx_ioe ∨ E = kx_iae := by
  unfold cx_setTrust at h
  grind

theorem ci_pass {nb : Nat} {s s1 : kx_S} {x : Int32} {r : Option Value} (h : cq_pass nb s x r s1) : ∃ a : Int32, r = some (.int a) := by
  unfold cq_pass at h
  grind

theorem ce_pass {nb : Nat} {s : kx_S} {x : Int32} {E : String} (h : cx_pass nb s x E) : E = kx_iae ∨ E = kx_ise := by
  unfold cx_pass at h
  grind

theorem ci_lay {nb : Nat} {s s1 : kx_S} {x y : Int32} {r : Option Value} (h : cq_lay nb s x y r s1) : ∃ a : Int32, r = some (.int a) := by
  unfold cq_lay at h
  grind

theorem ce_lay {nb : Nat} {s : kx_S} {x y : Int32} {E : String} (h : cx_lay nb s x y E) : E = kx_ioe ∨ E = kx_ise := by
  unfold cx_lay at h
  grind

theorem ci_find {nb : Nat} {s s1 : kx_S} {x y : Int32} {r : Option Value} (h : cq_find nb s x y r s1) : ∃ a : Int32, r = some (.int a) := by
  unfold cq_find at h
  grind

theorem ce_find {nb : Nat} {s : kx_S} {x y : Int32} {E : String} (h : cx_find nb s x y E) : E = kx_ioe ∨ E = kx_ise := by
  unfold cx_find at h
  grind

theorem ci_setDoor {nb : Nat} {s s1 : kx_S} {x y : Int32} {r : Option Value} (h : cq_setDoor nb s x y r s1) : ∃ a : Int32, r = some (.int a) := by
  unfold cq_setDoor at h
  grind

theorem ce_setDoor {nb : Nat} {s : kx_S} {x y : Int32} {E : String} (h : cx_setDoor nb s x y E) : E = kx_ioe ∨ E = kx_iae ∨ E = kx_ise := by
  unfold cx_setDoor at h
  grind

theorem ci_keep {nb : Nat} {s s1 : kx_S} {x y : Int32} {r : Option Value} (h : cq_keep nb s x y r s1) : ∃ a : Int32, r = some (.int a) := by
  unfold cq_keep at h
  grind

theorem ce_keep {nb : Nat} {s : kx_S} {x y : Int32} {E : String} (h : cx_keep nb s x y E) : E = kx_ioe ∨ E = kx_ise := by
  unfold cx_keep at h
  grind

theorem ci_open {nb : Nat} {s s1 : kx_S} {x y : Int32} {r : Option Value} (h : cq_open nb s x y r s1) : ∃ a : Int32, r = some (.int a) := by
  unfold cq_open at h
  grind

theorem ce_open {nb : Nat} {s : kx_S} {x y : Int32} {E : String} (h : cx_open nb s x y E) : E = kx_ioe ∨ E = kx_iae ∨ E = kx_ise := by
  unfold cx_open at h
  grind

theorem ci_claim {nb : Nat} {s s1 : kx_S} {x : Int32} {r : Option Value} (h : cq_claim nb s x r s1) : ∃ a : Int32, r = some (.int a) := by
  unfold cq_claim at h
  grind

theorem ce_claim {nb : Nat} {s : kx_S} {x : Int32} {E : String} (h : cx_claim nb s x E) : E = kx_ioe ∨ E = kx_ise := by
  unfold cx_claim at h
  grind

theorem ci_scan {nb : Nat} {s s1 : kx_S} {x y z : Int32} {r : Option Value} (h : cq_scan nb s x y z r s1) : ∃ a : Int32, r = some (.int a) := by
  unfold cq_scan at h
  grind

theorem ce_scan {nb : Nat} {s : kx_S} {x y z : Int32} {E : String} (h : cx_scan nb s x y z E) : E = kx_ioe ∨ E = kx_iae ∨ E = kx_ise := by
  unfold cx_scan at h
  grind

theorem ci_jam {nb : Nat} {s s1 : kx_S} {x z : Int32} {r : Option Value} (h : cq_jam nb s x z r s1) : ∃ a : Int32, r = some (.int a) := by
  unfold cq_jam at h
  grind

theorem ce_jam {nb : Nat} {s : kx_S} {x z : Int32} {E : String} (h : cx_jam nb s x z E) : E = kx_ioe := by
  unfold cx_jam at h
  grind

theorem cb_jam {nb : Nat} {s s1 : kx_S} {x z a : Int32} (hC : tw_CI nb s) (h : cq_jam nb s x z (some (.int a)) s1) : tw_01 a := by
  obtain ⟨-, -, h1, h2, -⟩ := hC
  unfold cq_jam at h
  grind

theorem ci_scans {nb : Nat} {s s1 : kx_S} {x : Int32} {r : Option Value} (h : cq_scans nb s x r s1) : ∃ a : Int32, r = some (.int a) := by
  unfold cq_scans at h
  grind

theorem ce_scans {nb : Nat} {s : kx_S} {x : Int32} {E : String} (h : cx_scans nb s x E) : E = kx_ioe := by
  unfold cx_scans at h
  grind

theorem ci_story {nb : Nat} {s s1 : kx_S} {x : Int32} {r : Option Value} (h : cq_story nb s x r s1) : ∃ a : Int32, r = some (.int a) := by
  unfold cq_story at h
  grind

theorem ce_story {nb : Nat} {s : kx_S} {x : Int32} {E : String} (h : cx_story nb s x E) : E = kx_ioe := by
  unfold cx_story at h
  grind

theorem ci_storyOfAll {nb : Nat} {s s1 : kx_S} {x : Int32} {r : Option Value} (h : cq_storyOfAll nb s x r s1) : ∃ a : Int32, r = some (.int a) := by
  unfold cq_storyOfAll at h
  grind

theorem ce_storyOfAll {nb : Nat} {s : kx_S} {x : Int32} {E : String} (h : cx_storyOfAll nb s x E) : E = kx_ioe := by
  unfold cx_storyOfAll at h
  grind

theorem ci_hasFee {nb : Nat} {s s1 : kx_S} {x : Int32} {r : Option Value} (h : cq_hasFee nb s x r s1) : ∃ a : Int32, r = some (.int a) := by
  unfold cq_hasFee at h
  grind

theorem ce_hasFee {nb : Nat} {s : kx_S} {x : Int32} {E : String} (h : cx_hasFee nb s x E) : E = kx_ioe := by
  unfold cx_hasFee at h
  grind

theorem cb_hasFee {nb : Nat} {s s1 : kx_S} {x a : Int32} (hC : tw_CI nb s) (h : cq_hasFee nb s x (some (.int a)) s1) : tw_01 a := by
  obtain ⟨-, -, h1, h2, -⟩ := hC
  unfold cq_hasFee at h
  grind

theorem ci_isInsured {nb : Nat} {s s1 : kx_S} {x : Int32} {r : Option Value} (h : cq_isInsured nb s x r s1) : ∃ a : Int32, r = some (.int a) := by
  unfold cq_isInsured at h
  grind

theorem ce_isInsured {nb : Nat} {s : kx_S} {x : Int32} {E : String} (h : cx_isInsured nb s x E) : E = kx_ioe := by
  unfold cx_isInsured at h
  grind

theorem cb_isInsured {nb : Nat} {s s1 : kx_S} {x a : Int32} (hC : tw_CI nb s) (h : cq_isInsured nb s x (some (.int a)) s1) : tw_01 a := by
  obtain ⟨-, -, h1, h2, -⟩ := hC
  unfold cq_isInsured at h
  grind

theorem ci_fine {nb : Nat} {s s1 : kx_S} {x : Int32} {r : Option Value} (h : cq_fine nb s x r s1) : ∃ a : Int32, r = some (.int a) := by
  unfold cq_fine at h
  grind

theorem ce_fine {nb : Nat} {s : kx_S} {x : Int32} {E : String} (h : cx_fine nb s x E) : E = kx_ioe := by
  unfold cx_fine at h
  grind

theorem ci_isJammed {nb : Nat} {s s1 : kx_S} {x : Int32} {r : Option Value} (h : cq_isJammed nb s x r s1) : ∃ a : Int32, r = some (.int a) := by
  unfold cq_isJammed at h
  grind

theorem ce_isJammed {nb : Nat} {s : kx_S} {x : Int32} {E : String} (h : cx_isJammed nb s x E) : E = kx_ioe := by
  unfold cx_isJammed at h
  grind

theorem cb_isJammed {nb : Nat} {s s1 : kx_S} {x a : Int32} (hC : tw_CI nb s) (h : cq_isJammed nb s x (some (.int a)) s1) : tw_01 a := by
  obtain ⟨-, -, h1, h2, -⟩ := hC
  unfold cq_isJammed at h
  grind

theorem ci_keptFor {nb : Nat} {s s1 : kx_S} {x : Int32} {r : Option Value} (h : cq_keptFor nb s x r s1) : ∃ a : Int32, r = some (.int a) := by
  unfold cq_keptFor at h
  grind

theorem ce_keptFor {nb : Nat} {s : kx_S} {x : Int32} {E : String} (h : cx_keptFor nb s x E) : E = kx_ioe := by
  unfold cx_keptFor at h
  grind

theorem ci_placeOf {nb : Nat} {s s1 : kx_S} {x : Int32} {r : Option Value} (h : cq_placeOf nb s x r s1) : ∃ a : Int32, r = some (.int a) := by
  unfold cq_placeOf at h
  grind

theorem ce_placeOf {nb : Nat} {s : kx_S} {x : Int32} {E : String} (h : cx_placeOf nb s x E) : E = kx_ioe := by
  unfold cx_placeOf at h
  grind

theorem ci_lies {nb : Nat} {s s1 : kx_S} {x : Int32} {r : Option Value} (h : cq_lies nb s x r s1) : ∃ a : Int32, r = some (.int a) := by
  unfold cq_lies at h
  grind

theorem ce_lies {nb : Nat} {s : kx_S} {x : Int32} {E : String} (h : cx_lies nb s x E) : E = kx_ioe := by
  unfold cx_lies at h
  grind

theorem ci_fees {nb : Nat} {s s1 : kx_S} {x : Int32} {r : Option Value} (h : cq_fees nb s x r s1) : ∃ a : Int32, r = some (.int a) := by
  unfold cq_fees at h
  grind

theorem ce_fees {nb : Nat} {s : kx_S} {x : Int32} {E : String} (h : cx_fees nb s x E) : E = kx_ioe := by
  unfold cx_fees at h
  grind

set_option maxHeartbeats 2000000 in
set_option maxRecDepth 100000 in
theorem c_L_does_setTrust (l : Launch) (hlf : l.stackTraces = false) (G : kx_G) (z0 : Nat) (ad : kx_A) (nb : Nat) (sg : kx_S) (hC : tw_CI nb sg) (x y : Int32) : kx_MX l yL_does wsL_does 8 161 2 12 G z0 ad nb sg [.ref (ad 0 0), .int 1, .int x, .int y] (fun r sg' => ∃ a : Int32, r = some (.int a) ∧ ho (cq_setTrust nb sg x y) (cx_setTrust nb sg x y) sg a sg') (fun _ => False) := by
  refine vx_ofWH (hh := [(0, 117, 118, 39), (0, 117, 123, 42), (0, 117, 128, 44)]) (cc := cL_does) (maxL := 5) (ret := (some .int)) (by decide) rfl ?_
  intro p e s m args below meth c s₁ B hml hv
  obtain ⟨rfl, hW, hV⟩ := hv
  have hts := atoms_spec (ws := wsL_does) B.pre
  have F : kx_F p s m c cL_does 5 RL _ wsL_does G z0 := ⟨B.exec, B.bytes, hml, findClass_of_methodNamed B.named, hts, hV⟩
  have htb : c.exceptionTable.toList = tableOf [(0, 117, 118, 39), (0, 117, 123, 42), (0, 117, 128, 44)] := vx_table (x := yL_does) B (hts (.codeWith yL_does cL_does 5 (some .int) [(0, 117, 118, 39), (0, 117, 123, 42), (0, 117, 128, 44)]) List.mem_cons_self)
  have hx := B.exec; have hb := B.bytes; have hr := B.returns; have hlocks := B.notSynchronized
  have hS : va_S (kx_Ad z0) s.heap s.heap [] := va_S.rf
  have hl := lv_entry ([.ref (ad 0 0), .int 1, .int x, .int y]) (n := 5) (Nat.le_of_ble_eq_true rfl)
  rw [lg_entry_eq]
  generalize (lg_sl ([.ref (ad 0 0), .int 1, .int x, .int y]) ++ List.replicate (5 - (lg_sl ([.ref (ad 0 0), .int 1, .int x, .int y])).length) Slot.unset).toArray = ls at hl ⊢
  have hl : lv_has ls 5 [(0, .ref (ad 0 0)), (1, .int 1), (2, .int x), (3, .int y)] := hl
  refine lv_iload_n hx hb dL_does_0 rfl (lv_at hl 1 rfl) ?_
  refine lv_if_ne (tgt := 13) hx hb dL_does_1 (by decide) (fun c_1 => ?_) (fun c_1 => ?_)
  · refine lv_iload_n hx hb dL_does_13 rfl (lv_at hl 1 rfl) ?_
    refine lv_iconst (v := 1) hx hb dL_does_14 (by decide) ?_
    refine lv_icmp_ne (tgt := 27) hx hb dL_does_15 (by decide) (fun c_15 => ?_) (fun c_15 => ?_)
    · exact absurd c_15 (by decide)
    · refine lv_aload_n hx hb dL_does_18 rfl (lv_at hl 0 rfl) ?_
      refine lv_iload_n hx hb dL_does_19 rfl (lv_at hl 2 rfl) ?_
      refine lv_iload_n hx hb dL_does_20 rfl (lv_at hl 3 rfl) ?_
      refine kx_xV (na := 2) F (q := 0) (n := 0) (c_X3_setTrust l hlf G z0 ad nb sg hC x y) gL_does_X3_setTrust rfl (by decide +kernel) ⟨Nat.le_of_ble_eq_true rfl, Nat.le_of_ble_eq_true rfl⟩ hW hS ⟨by decide, rfl⟩ rfl rfl (As := [.int x, .int y]) (rest := []) rfl hl.1 rfl (Nat.le_of_ble_eq_true rfl) dL_does_21 ⟨by first | exact Nat.le_of_ble_eq_true rfl | omega, by first | exact Nat.le_of_ble_eq_true rfl | omega⟩ (fun E9 ce9 q9 H locs hp9 hW hS h7 h8 h9 => ?_) (fun r9 sg9 H locs hq hW hS => ?_)
      · have hp9 : cx_setTrust nb sg x y E9 := hp9
        rcases ce_setTrust hp9 with rfl | rfl
        · refine kx_ct F htb [] ⟨0, 117, 118, 39⟩ [⟨0, 117, 123, 42⟩, ⟨0, 117, 128, 44⟩] rfl (by simp) (by decide) (by decide) (by decide +kernel) (by decide +kernel) h7 h8 h9 ?_
          refine lv_astore (lv' := [(4, .ref q9), (0, .ref (ad 0 0)), (1, .int 1), (2, .int x), (3, .int y)]) hx hb dL_does_118 hl (by decide) rfl (fun ls hl => ?_)
          refine lv_ldc (v := (-100005)) hx hb F.2.2.2.1 (hts (.constant RL 41 (-100005)) (by decide +kernel)) dL_does_120 ?_
          refine vx_ret ?_
          exact kx_ri F hr hlocks hW hS (by first | exact Nat.le_of_ble_eq_true rfl | omega) (by first | exact Nat.le_of_ble_eq_true rfl | omega) (⟨_, rfl, Or.inr ⟨rfl, rfl, _, hp9⟩⟩) dL_does_122
        · refine kx_ct F htb [⟨0, 117, 118, 39⟩] ⟨0, 117, 123, 42⟩ [⟨0, 117, 128, 44⟩] rfl (by intro z hz; simp only [List.mem_cons, List.not_mem_nil, or_false] at hz; subst hz; exact ⟨by decide, "java/lang/IndexOutOfBoundsException", by decide +kernel, by decide +kernel⟩) (by decide) (by decide) (by decide +kernel) (by decide +kernel) h7 h8 h9 ?_
          refine lv_astore (lv' := [(4, .ref q9), (0, .ref (ad 0 0)), (1, .int 1), (2, .int x), (3, .int y)]) hx hb dL_does_123 hl (by decide) rfl (fun ls hl => ?_)
          refine lv_ldc (v := (-100005)) hx hb F.2.2.2.1 (hts (.constant RL 41 (-100005)) (by decide +kernel)) dL_does_125 ?_
          refine vx_ret ?_
          exact kx_ri F hr hlocks hW hS (by first | exact Nat.le_of_ble_eq_true rfl | omega) (by first | exact Nat.le_of_ble_eq_true rfl | omega) (⟨_, rfl, Or.inr ⟨rfl, rfl, _, hp9⟩⟩) dL_does_127
      have hq : cq_setTrust nb sg x y r9 sg9 := hq
      obtain ⟨v9, hv9⟩ := ci_setTrust hq
      subst hv9
      have hW : kx_Wd G z0 ad nb (sg9) H := by first | exact hW | (simp only [kx_up_s, kx_up_up] at hW; exact hW) | (simp only [kx_up_s, kx_up_up, upd_s] at hW; exact hW)
      refine W.eq (g2 := F0 m 24 ls [.int v9]) rfl ?_
      refine lv_goto (tgt := 117) hx hb dL_does_24 (by decide) ?_
      refine vx_ret ?_
      exact kx_ri F hr hlocks hW hS (by first | exact Nat.le_of_ble_eq_true rfl | omega) (by first | exact Nat.le_of_ble_eq_true rfl | omega) (⟨_, rfl, Or.inl hq⟩) dL_does_117
  · exact absurd c_1 (by decide)

set_option maxHeartbeats 2000000 in
set_option maxRecDepth 100000 in
theorem c_L_does_pass (l : Launch) (hlf : l.stackTraces = false) (G : kx_G) (z0 : Nat) (ad : kx_A) (nb : Nat) (sg : kx_S) (hC : tw_CI nb sg) (x y : Int32) : kx_MX l yL_does wsL_does 8 161 1 6 G z0 ad nb sg [.ref (ad 0 0), .int 2, .int x, .int y] (fun r sg' => ∃ a : Int32, r = some (.int a) ∧ ho (cq_pass nb sg x) (cx_pass nb sg x) sg a sg') (fun _ => False) := by
  refine vx_ofWH (hh := [(0, 117, 118, 39), (0, 117, 123, 42), (0, 117, 128, 44)]) (cc := cL_does) (maxL := 5) (ret := (some .int)) (by decide) rfl ?_
  intro p e s m args below meth c s₁ B hml hv
  obtain ⟨rfl, hW, hV⟩ := hv
  have hts := atoms_spec (ws := wsL_does) B.pre
  have F : kx_F p s m c cL_does 5 RL _ wsL_does G z0 := ⟨B.exec, B.bytes, hml, findClass_of_methodNamed B.named, hts, hV⟩
  have htb : c.exceptionTable.toList = tableOf [(0, 117, 118, 39), (0, 117, 123, 42), (0, 117, 128, 44)] := vx_table (x := yL_does) B (hts (.codeWith yL_does cL_does 5 (some .int) [(0, 117, 118, 39), (0, 117, 123, 42), (0, 117, 128, 44)]) List.mem_cons_self)
  have hx := B.exec; have hb := B.bytes; have hr := B.returns; have hlocks := B.notSynchronized
  have hS : va_S (kx_Ad z0) s.heap s.heap [] := va_S.rf
  have hl := lv_entry ([.ref (ad 0 0), .int 2, .int x, .int y]) (n := 5) (Nat.le_of_ble_eq_true rfl)
  rw [lg_entry_eq]
  generalize (lg_sl ([.ref (ad 0 0), .int 2, .int x, .int y]) ++ List.replicate (5 - (lg_sl ([.ref (ad 0 0), .int 2, .int x, .int y])).length) Slot.unset).toArray = ls at hl ⊢
  have hl : lv_has ls 5 [(0, .ref (ad 0 0)), (1, .int 2), (2, .int x), (3, .int y)] := hl
  refine lv_iload_n hx hb dL_does_0 rfl (lv_at hl 1 rfl) ?_
  refine lv_if_ne (tgt := 13) hx hb dL_does_1 (by decide) (fun c_1 => ?_) (fun c_1 => ?_)
  · refine lv_iload_n hx hb dL_does_13 rfl (lv_at hl 1 rfl) ?_
    refine lv_iconst (v := 1) hx hb dL_does_14 (by decide) ?_
    refine lv_icmp_ne (tgt := 27) hx hb dL_does_15 (by decide) (fun c_15 => ?_) (fun c_15 => ?_)
    · refine lv_iload_n hx hb dL_does_27 rfl (lv_at hl 1 rfl) ?_
      refine lv_iconst (v := 2) hx hb dL_does_28 (by decide) ?_
      refine lv_icmp_ne (tgt := 40) hx hb dL_does_29 (by decide) (fun c_29 => ?_) (fun c_29 => ?_)
      · exact absurd c_29 (by decide)
      · refine lv_aload_n hx hb dL_does_32 rfl (lv_at hl 0 rfl) ?_
        refine lv_iload_n hx hb dL_does_33 rfl (lv_at hl 2 rfl) ?_
        refine kx_xV (na := 1) F (q := 0) (n := 0) (c_X3_pass l hlf G z0 ad nb sg x) gL_does_X3_pass rfl (by decide +kernel) ⟨Nat.le_of_ble_eq_true rfl, Nat.le_of_ble_eq_true rfl⟩ hW hS ⟨by decide, rfl⟩ rfl rfl (As := [.int x]) (rest := []) rfl hl.1 rfl (Nat.le_of_ble_eq_true rfl) dL_does_34 ⟨by first | exact Nat.le_of_ble_eq_true rfl | omega, by first | exact Nat.le_of_ble_eq_true rfl | omega⟩ (fun E9 ce9 q9 H locs hp9 hW hS h7 h8 h9 => ?_) (fun r9 sg9 H locs hq hW hS => ?_)
        · have hp9 : cx_pass nb sg x E9 := hp9
          rcases ce_pass hp9 with rfl | rfl
          · refine kx_ct F htb [⟨0, 117, 118, 39⟩] ⟨0, 117, 123, 42⟩ [⟨0, 117, 128, 44⟩] rfl (by intro z hz; simp only [List.mem_cons, List.not_mem_nil, or_false] at hz; subst hz; exact ⟨by decide, "java/lang/IndexOutOfBoundsException", by decide +kernel, by decide +kernel⟩) (by decide) (by decide) (by decide +kernel) (by decide +kernel) h7 h8 h9 ?_
            refine lv_astore (lv' := [(4, .ref q9), (0, .ref (ad 0 0)), (1, .int 2), (2, .int x), (3, .int y)]) hx hb dL_does_123 hl (by decide) rfl (fun ls hl => ?_)
            refine lv_ldc (v := (-100005)) hx hb F.2.2.2.1 (hts (.constant RL 41 (-100005)) (by decide +kernel)) dL_does_125 ?_
            refine vx_ret ?_
            exact kx_ri F hr hlocks hW hS (by first | exact Nat.le_of_ble_eq_true rfl | omega) (by first | exact Nat.le_of_ble_eq_true rfl | omega) (⟨_, rfl, Or.inr ⟨rfl, rfl, _, hp9⟩⟩) dL_does_127
          · refine kx_ct F htb [⟨0, 117, 118, 39⟩, ⟨0, 117, 123, 42⟩] ⟨0, 117, 128, 44⟩ [] rfl (by intro z hz; simp only [List.mem_cons, List.not_mem_nil, or_false] at hz; rcases hz with rfl | rfl; exact ⟨by decide, "java/lang/IndexOutOfBoundsException", by decide +kernel, by decide +kernel⟩; exact ⟨by decide, "java/lang/IllegalArgumentException", by decide +kernel, by decide +kernel⟩) (by decide) (by decide) (by decide +kernel) (by decide +kernel) h7 h8 h9 ?_
            refine lv_astore (lv' := [(4, .ref q9), (0, .ref (ad 0 0)), (1, .int 2), (2, .int x), (3, .int y)]) hx hb dL_does_128 hl (by decide) rfl (fun ls hl => ?_)
            refine lv_ldc (v := (-100005)) hx hb F.2.2.2.1 (hts (.constant RL 41 (-100005)) (by decide +kernel)) dL_does_130 ?_
            refine vx_ret ?_
            exact kx_ri F hr hlocks hW hS (by first | exact Nat.le_of_ble_eq_true rfl | omega) (by first | exact Nat.le_of_ble_eq_true rfl | omega) (⟨_, rfl, Or.inr ⟨rfl, rfl, _, hp9⟩⟩) dL_does_132
        have hq : cq_pass nb sg x r9 sg9 := hq
        obtain ⟨v9, hv9⟩ := ci_pass hq
        subst hv9
        have hW : kx_Wd G z0 ad nb (sg9) H := by first | exact hW | (simp only [kx_up_s, kx_up_up] at hW; exact hW) | (simp only [kx_up_s, kx_up_up, upd_s] at hW; exact hW)
        refine W.eq (g2 := F0 m 37 ls [.int v9]) rfl ?_
        refine lv_goto (tgt := 117) hx hb dL_does_37 (by decide) ?_
        refine vx_ret ?_
        exact kx_ri F hr hlocks hW hS (by first | exact Nat.le_of_ble_eq_true rfl | omega) (by first | exact Nat.le_of_ble_eq_true rfl | omega) (⟨_, rfl, Or.inl hq⟩) dL_does_117
    · exact absurd c_15 (by decide)
  · exact absurd c_1 (by decide)

set_option maxHeartbeats 2000000 in
set_option maxRecDepth 100000 in
theorem c_L_does_lay (l : Launch) (hlf : l.stackTraces = false) (G : kx_G) (z0 : Nat) (ad : kx_A) (nb : Nat) (sg : kx_S) (hC : tw_CI nb sg) (x y : Int32) : kx_MX l yL_does wsL_does 8 161 4 24 G z0 ad nb sg [.ref (ad 0 0), .int 3, .int x, .int y] (fun r sg' => ∃ a : Int32, r = some (.int a) ∧ ho (cq_lay nb sg x y) (cx_lay nb sg x y) sg a sg') (fun _ => False) := by
  refine vx_ofWH (hh := [(0, 117, 118, 39), (0, 117, 123, 42), (0, 117, 128, 44)]) (cc := cL_does) (maxL := 5) (ret := (some .int)) (by decide) rfl ?_
  intro p e s m args below meth c s₁ B hml hv
  obtain ⟨rfl, hW, hV⟩ := hv
  have hts := atoms_spec (ws := wsL_does) B.pre
  have F : kx_F p s m c cL_does 5 RL _ wsL_does G z0 := ⟨B.exec, B.bytes, hml, findClass_of_methodNamed B.named, hts, hV⟩
  have htb : c.exceptionTable.toList = tableOf [(0, 117, 118, 39), (0, 117, 123, 42), (0, 117, 128, 44)] := vx_table (x := yL_does) B (hts (.codeWith yL_does cL_does 5 (some .int) [(0, 117, 118, 39), (0, 117, 123, 42), (0, 117, 128, 44)]) List.mem_cons_self)
  have hx := B.exec; have hb := B.bytes; have hr := B.returns; have hlocks := B.notSynchronized
  have hS : va_S (kx_Ad z0) s.heap s.heap [] := va_S.rf
  have hl := lv_entry ([.ref (ad 0 0), .int 3, .int x, .int y]) (n := 5) (Nat.le_of_ble_eq_true rfl)
  rw [lg_entry_eq]
  generalize (lg_sl ([.ref (ad 0 0), .int 3, .int x, .int y]) ++ List.replicate (5 - (lg_sl ([.ref (ad 0 0), .int 3, .int x, .int y])).length) Slot.unset).toArray = ls at hl ⊢
  have hl : lv_has ls 5 [(0, .ref (ad 0 0)), (1, .int 3), (2, .int x), (3, .int y)] := hl
  refine lv_iload_n hx hb dL_does_0 rfl (lv_at hl 1 rfl) ?_
  refine lv_if_ne (tgt := 13) hx hb dL_does_1 (by decide) (fun c_1 => ?_) (fun c_1 => ?_)
  · refine lv_iload_n hx hb dL_does_13 rfl (lv_at hl 1 rfl) ?_
    refine lv_iconst (v := 1) hx hb dL_does_14 (by decide) ?_
    refine lv_icmp_ne (tgt := 27) hx hb dL_does_15 (by decide) (fun c_15 => ?_) (fun c_15 => ?_)
    · refine lv_iload_n hx hb dL_does_27 rfl (lv_at hl 1 rfl) ?_
      refine lv_iconst (v := 2) hx hb dL_does_28 (by decide) ?_
      refine lv_icmp_ne (tgt := 40) hx hb dL_does_29 (by decide) (fun c_29 => ?_) (fun c_29 => ?_)
      · refine lv_iload_n hx hb dL_does_40 rfl (lv_at hl 1 rfl) ?_
        refine lv_iconst (v := 3) hx hb dL_does_41 (by decide) ?_
        refine lv_icmp_ne (tgt := 54) hx hb dL_does_42 (by decide) (fun c_42 => ?_) (fun c_42 => ?_)
        · exact absurd c_42 (by decide)
        · refine lv_aload_n hx hb dL_does_45 rfl (lv_at hl 0 rfl) ?_
          refine lv_iload_n hx hb dL_does_46 rfl (lv_at hl 2 rfl) ?_
          refine lv_iload_n hx hb dL_does_47 rfl (lv_at hl 3 rfl) ?_
          refine kx_xV (na := 2) F (q := 0) (n := 0) (c_X3_lay l hlf G z0 ad nb sg hC x y) gL_does_X3_lay rfl (by decide +kernel) ⟨Nat.le_of_ble_eq_true rfl, Nat.le_of_ble_eq_true rfl⟩ hW hS ⟨by decide, rfl⟩ rfl rfl (As := [.int x, .int y]) (rest := []) rfl hl.1 rfl (Nat.le_of_ble_eq_true rfl) dL_does_48 ⟨by first | exact Nat.le_of_ble_eq_true rfl | omega, by first | exact Nat.le_of_ble_eq_true rfl | omega⟩ (fun E9 ce9 q9 H locs hp9 hW hS h7 h8 h9 => ?_) (fun r9 sg9 H locs hq hW hS => ?_)
          · have hp9 : cx_lay nb sg x y E9 := hp9
            rcases ce_lay hp9 with rfl | rfl
            · refine kx_ct F htb [] ⟨0, 117, 118, 39⟩ [⟨0, 117, 123, 42⟩, ⟨0, 117, 128, 44⟩] rfl (by simp) (by decide) (by decide) (by decide +kernel) (by decide +kernel) h7 h8 h9 ?_
              refine lv_astore (lv' := [(4, .ref q9), (0, .ref (ad 0 0)), (1, .int 3), (2, .int x), (3, .int y)]) hx hb dL_does_118 hl (by decide) rfl (fun ls hl => ?_)
              refine lv_ldc (v := (-100005)) hx hb F.2.2.2.1 (hts (.constant RL 41 (-100005)) (by decide +kernel)) dL_does_120 ?_
              refine vx_ret ?_
              exact kx_ri F hr hlocks hW hS (by first | exact Nat.le_of_ble_eq_true rfl | omega) (by first | exact Nat.le_of_ble_eq_true rfl | omega) (⟨_, rfl, Or.inr ⟨rfl, rfl, _, hp9⟩⟩) dL_does_122
            · refine kx_ct F htb [⟨0, 117, 118, 39⟩, ⟨0, 117, 123, 42⟩] ⟨0, 117, 128, 44⟩ [] rfl (by intro z hz; simp only [List.mem_cons, List.not_mem_nil, or_false] at hz; rcases hz with rfl | rfl; exact ⟨by decide, "java/lang/IndexOutOfBoundsException", by decide +kernel, by decide +kernel⟩; exact ⟨by decide, "java/lang/IllegalArgumentException", by decide +kernel, by decide +kernel⟩) (by decide) (by decide) (by decide +kernel) (by decide +kernel) h7 h8 h9 ?_
              refine lv_astore (lv' := [(4, .ref q9), (0, .ref (ad 0 0)), (1, .int 3), (2, .int x), (3, .int y)]) hx hb dL_does_128 hl (by decide) rfl (fun ls hl => ?_)
              refine lv_ldc (v := (-100005)) hx hb F.2.2.2.1 (hts (.constant RL 41 (-100005)) (by decide +kernel)) dL_does_130 ?_
              refine vx_ret ?_
              exact kx_ri F hr hlocks hW hS (by first | exact Nat.le_of_ble_eq_true rfl | omega) (by first | exact Nat.le_of_ble_eq_true rfl | omega) (⟨_, rfl, Or.inr ⟨rfl, rfl, _, hp9⟩⟩) dL_does_132
          have hq : cq_lay nb sg x y r9 sg9 := hq
          obtain ⟨v9, hv9⟩ := ci_lay hq
          subst hv9
          have hW : kx_Wd G z0 ad nb (sg9) H := by first | exact hW | (simp only [kx_up_s, kx_up_up] at hW; exact hW) | (simp only [kx_up_s, kx_up_up, upd_s] at hW; exact hW)
          refine W.eq (g2 := F0 m 51 ls [.int v9]) rfl ?_
          refine lv_goto (tgt := 117) hx hb dL_does_51 (by decide) ?_
          refine vx_ret ?_
          exact kx_ri F hr hlocks hW hS (by first | exact Nat.le_of_ble_eq_true rfl | omega) (by first | exact Nat.le_of_ble_eq_true rfl | omega) (⟨_, rfl, Or.inl hq⟩) dL_does_117
      · exact absurd c_29 (by decide)
    · exact absurd c_15 (by decide)
  · exact absurd c_1 (by decide)

set_option maxHeartbeats 2000000 in
set_option maxRecDepth 100000 in
theorem c_L_does_find (l : Launch) (hlf : l.stackTraces = false) (G : kx_G) (z0 : Nat) (ad : kx_A) (nb : Nat) (sg : kx_S) (hC : tw_CI nb sg) (x y : Int32) : kx_MX l yL_does wsL_does 8 161 3 18 G z0 ad nb sg [.ref (ad 0 0), .int 4, .int x, .int y] (fun r sg' => ∃ a : Int32, r = some (.int a) ∧ ho (cq_find nb sg x y) (cx_find nb sg x y) sg a sg') (fun _ => False) := by
  refine vx_ofWH (hh := [(0, 117, 118, 39), (0, 117, 123, 42), (0, 117, 128, 44)]) (cc := cL_does) (maxL := 5) (ret := (some .int)) (by decide) rfl ?_
  intro p e s m args below meth c s₁ B hml hv
  obtain ⟨rfl, hW, hV⟩ := hv
  have hts := atoms_spec (ws := wsL_does) B.pre
  have F : kx_F p s m c cL_does 5 RL _ wsL_does G z0 := ⟨B.exec, B.bytes, hml, findClass_of_methodNamed B.named, hts, hV⟩
  have htb : c.exceptionTable.toList = tableOf [(0, 117, 118, 39), (0, 117, 123, 42), (0, 117, 128, 44)] := vx_table (x := yL_does) B (hts (.codeWith yL_does cL_does 5 (some .int) [(0, 117, 118, 39), (0, 117, 123, 42), (0, 117, 128, 44)]) List.mem_cons_self)
  have hx := B.exec; have hb := B.bytes; have hr := B.returns; have hlocks := B.notSynchronized
  have hS : va_S (kx_Ad z0) s.heap s.heap [] := va_S.rf
  have hl := lv_entry ([.ref (ad 0 0), .int 4, .int x, .int y]) (n := 5) (Nat.le_of_ble_eq_true rfl)
  rw [lg_entry_eq]
  generalize (lg_sl ([.ref (ad 0 0), .int 4, .int x, .int y]) ++ List.replicate (5 - (lg_sl ([.ref (ad 0 0), .int 4, .int x, .int y])).length) Slot.unset).toArray = ls at hl ⊢
  have hl : lv_has ls 5 [(0, .ref (ad 0 0)), (1, .int 4), (2, .int x), (3, .int y)] := hl
  refine lv_iload_n hx hb dL_does_0 rfl (lv_at hl 1 rfl) ?_
  refine lv_if_ne (tgt := 13) hx hb dL_does_1 (by decide) (fun c_1 => ?_) (fun c_1 => ?_)
  · refine lv_iload_n hx hb dL_does_13 rfl (lv_at hl 1 rfl) ?_
    refine lv_iconst (v := 1) hx hb dL_does_14 (by decide) ?_
    refine lv_icmp_ne (tgt := 27) hx hb dL_does_15 (by decide) (fun c_15 => ?_) (fun c_15 => ?_)
    · refine lv_iload_n hx hb dL_does_27 rfl (lv_at hl 1 rfl) ?_
      refine lv_iconst (v := 2) hx hb dL_does_28 (by decide) ?_
      refine lv_icmp_ne (tgt := 40) hx hb dL_does_29 (by decide) (fun c_29 => ?_) (fun c_29 => ?_)
      · refine lv_iload_n hx hb dL_does_40 rfl (lv_at hl 1 rfl) ?_
        refine lv_iconst (v := 3) hx hb dL_does_41 (by decide) ?_
        refine lv_icmp_ne (tgt := 54) hx hb dL_does_42 (by decide) (fun c_42 => ?_) (fun c_42 => ?_)
        · refine lv_iload_n hx hb dL_does_54 rfl (lv_at hl 1 rfl) ?_
          refine lv_iconst (v := 4) hx hb dL_does_55 (by decide) ?_
          refine lv_icmp_ne (tgt := 68) hx hb dL_does_56 (by decide) (fun c_56 => ?_) (fun c_56 => ?_)
          · exact absurd c_56 (by decide)
          · refine lv_aload_n hx hb dL_does_59 rfl (lv_at hl 0 rfl) ?_
            refine lv_iload_n hx hb dL_does_60 rfl (lv_at hl 2 rfl) ?_
            refine lv_iload_n hx hb dL_does_61 rfl (lv_at hl 3 rfl) ?_
            refine kx_xV (na := 2) F (q := 0) (n := 0) (c_X3_find l hlf G z0 ad nb sg hC x y) gL_does_X3_find rfl (by decide +kernel) ⟨Nat.le_of_ble_eq_true rfl, Nat.le_of_ble_eq_true rfl⟩ hW hS ⟨by decide, rfl⟩ rfl rfl (As := [.int x, .int y]) (rest := []) rfl hl.1 rfl (Nat.le_of_ble_eq_true rfl) dL_does_62 ⟨by first | exact Nat.le_of_ble_eq_true rfl | omega, by first | exact Nat.le_of_ble_eq_true rfl | omega⟩ (fun E9 ce9 q9 H locs hp9 hW hS h7 h8 h9 => ?_) (fun r9 sg9 H locs hq hW hS => ?_)
            · have hp9 : cx_find nb sg x y E9 := hp9
              rcases ce_find hp9 with rfl | rfl
              · refine kx_ct F htb [] ⟨0, 117, 118, 39⟩ [⟨0, 117, 123, 42⟩, ⟨0, 117, 128, 44⟩] rfl (by simp) (by decide) (by decide) (by decide +kernel) (by decide +kernel) h7 h8 h9 ?_
                refine lv_astore (lv' := [(4, .ref q9), (0, .ref (ad 0 0)), (1, .int 4), (2, .int x), (3, .int y)]) hx hb dL_does_118 hl (by decide) rfl (fun ls hl => ?_)
                refine lv_ldc (v := (-100005)) hx hb F.2.2.2.1 (hts (.constant RL 41 (-100005)) (by decide +kernel)) dL_does_120 ?_
                refine vx_ret ?_
                exact kx_ri F hr hlocks hW hS (by first | exact Nat.le_of_ble_eq_true rfl | omega) (by first | exact Nat.le_of_ble_eq_true rfl | omega) (⟨_, rfl, Or.inr ⟨rfl, rfl, _, hp9⟩⟩) dL_does_122
              · refine kx_ct F htb [⟨0, 117, 118, 39⟩, ⟨0, 117, 123, 42⟩] ⟨0, 117, 128, 44⟩ [] rfl (by intro z hz; simp only [List.mem_cons, List.not_mem_nil, or_false] at hz; rcases hz with rfl | rfl; exact ⟨by decide, "java/lang/IndexOutOfBoundsException", by decide +kernel, by decide +kernel⟩; exact ⟨by decide, "java/lang/IllegalArgumentException", by decide +kernel, by decide +kernel⟩) (by decide) (by decide) (by decide +kernel) (by decide +kernel) h7 h8 h9 ?_
                refine lv_astore (lv' := [(4, .ref q9), (0, .ref (ad 0 0)), (1, .int 4), (2, .int x), (3, .int y)]) hx hb dL_does_128 hl (by decide) rfl (fun ls hl => ?_)
                refine lv_ldc (v := (-100005)) hx hb F.2.2.2.1 (hts (.constant RL 41 (-100005)) (by decide +kernel)) dL_does_130 ?_
                refine vx_ret ?_
                exact kx_ri F hr hlocks hW hS (by first | exact Nat.le_of_ble_eq_true rfl | omega) (by first | exact Nat.le_of_ble_eq_true rfl | omega) (⟨_, rfl, Or.inr ⟨rfl, rfl, _, hp9⟩⟩) dL_does_132
            have hq : cq_find nb sg x y r9 sg9 := hq
            obtain ⟨v9, hv9⟩ := ci_find hq
            subst hv9
            have hW : kx_Wd G z0 ad nb (sg9) H := by first | exact hW | (simp only [kx_up_s, kx_up_up] at hW; exact hW) | (simp only [kx_up_s, kx_up_up, upd_s] at hW; exact hW)
            refine W.eq (g2 := F0 m 65 ls [.int v9]) rfl ?_
            refine lv_goto (tgt := 117) hx hb dL_does_65 (by decide) ?_
            refine vx_ret ?_
            exact kx_ri F hr hlocks hW hS (by first | exact Nat.le_of_ble_eq_true rfl | omega) (by first | exact Nat.le_of_ble_eq_true rfl | omega) (⟨_, rfl, Or.inl hq⟩) dL_does_117
        · exact absurd c_42 (by decide)
      · exact absurd c_29 (by decide)
    · exact absurd c_15 (by decide)
  · exact absurd c_1 (by decide)

set_option maxHeartbeats 2000000 in
set_option maxRecDepth 100000 in
theorem c_L_does_setDoor (l : Launch) (hlf : l.stackTraces = false) (G : kx_G) (z0 : Nat) (ad : kx_A) (nb : Nat) (sg : kx_S) (hC : tw_CI nb sg) (x y : Int32) : kx_MX l yL_does wsL_does 8 161 2 12 G z0 ad nb sg [.ref (ad 0 0), .int 5, .int x, .int y] (fun r sg' => ∃ a : Int32, r = some (.int a) ∧ ho (cq_setDoor nb sg x y) (cx_setDoor nb sg x y) sg a sg') (fun _ => False) := by
  refine vx_ofWH (hh := [(0, 117, 118, 39), (0, 117, 123, 42), (0, 117, 128, 44)]) (cc := cL_does) (maxL := 5) (ret := (some .int)) (by decide) rfl ?_
  intro p e s m args below meth c s₁ B hml hv
  obtain ⟨rfl, hW, hV⟩ := hv
  have hts := atoms_spec (ws := wsL_does) B.pre
  have F : kx_F p s m c cL_does 5 RL _ wsL_does G z0 := ⟨B.exec, B.bytes, hml, findClass_of_methodNamed B.named, hts, hV⟩
  have htb : c.exceptionTable.toList = tableOf [(0, 117, 118, 39), (0, 117, 123, 42), (0, 117, 128, 44)] := vx_table (x := yL_does) B (hts (.codeWith yL_does cL_does 5 (some .int) [(0, 117, 118, 39), (0, 117, 123, 42), (0, 117, 128, 44)]) List.mem_cons_self)
  have hx := B.exec; have hb := B.bytes; have hr := B.returns; have hlocks := B.notSynchronized
  have hS : va_S (kx_Ad z0) s.heap s.heap [] := va_S.rf
  have hl := lv_entry ([.ref (ad 0 0), .int 5, .int x, .int y]) (n := 5) (Nat.le_of_ble_eq_true rfl)
  rw [lg_entry_eq]
  generalize (lg_sl ([.ref (ad 0 0), .int 5, .int x, .int y]) ++ List.replicate (5 - (lg_sl ([.ref (ad 0 0), .int 5, .int x, .int y])).length) Slot.unset).toArray = ls at hl ⊢
  have hl : lv_has ls 5 [(0, .ref (ad 0 0)), (1, .int 5), (2, .int x), (3, .int y)] := hl
  refine lv_iload_n hx hb dL_does_0 rfl (lv_at hl 1 rfl) ?_
  refine lv_if_ne (tgt := 13) hx hb dL_does_1 (by decide) (fun c_1 => ?_) (fun c_1 => ?_)
  · refine lv_iload_n hx hb dL_does_13 rfl (lv_at hl 1 rfl) ?_
    refine lv_iconst (v := 1) hx hb dL_does_14 (by decide) ?_
    refine lv_icmp_ne (tgt := 27) hx hb dL_does_15 (by decide) (fun c_15 => ?_) (fun c_15 => ?_)
    · refine lv_iload_n hx hb dL_does_27 rfl (lv_at hl 1 rfl) ?_
      refine lv_iconst (v := 2) hx hb dL_does_28 (by decide) ?_
      refine lv_icmp_ne (tgt := 40) hx hb dL_does_29 (by decide) (fun c_29 => ?_) (fun c_29 => ?_)
      · refine lv_iload_n hx hb dL_does_40 rfl (lv_at hl 1 rfl) ?_
        refine lv_iconst (v := 3) hx hb dL_does_41 (by decide) ?_
        refine lv_icmp_ne (tgt := 54) hx hb dL_does_42 (by decide) (fun c_42 => ?_) (fun c_42 => ?_)
        · refine lv_iload_n hx hb dL_does_54 rfl (lv_at hl 1 rfl) ?_
          refine lv_iconst (v := 4) hx hb dL_does_55 (by decide) ?_
          refine lv_icmp_ne (tgt := 68) hx hb dL_does_56 (by decide) (fun c_56 => ?_) (fun c_56 => ?_)
          · refine lv_iload_n hx hb dL_does_68 rfl (lv_at hl 1 rfl) ?_
            refine lv_iconst (v := 5) hx hb dL_does_69 (by decide) ?_
            refine lv_icmp_ne (tgt := 82) hx hb dL_does_70 (by decide) (fun c_70 => ?_) (fun c_70 => ?_)
            · exact absurd c_70 (by decide)
            · refine lv_aload_n hx hb dL_does_73 rfl (lv_at hl 0 rfl) ?_
              refine lv_iload_n hx hb dL_does_74 rfl (lv_at hl 2 rfl) ?_
              refine lv_iload_n hx hb dL_does_75 rfl (lv_at hl 3 rfl) ?_
              refine kx_xV (na := 2) F (q := 0) (n := 0) (c_X3_setDoor l hlf G z0 ad nb sg hC x y) gL_does_X3_setDoor rfl (by decide +kernel) ⟨Nat.le_of_ble_eq_true rfl, Nat.le_of_ble_eq_true rfl⟩ hW hS ⟨by decide, rfl⟩ rfl rfl (As := [.int x, .int y]) (rest := []) rfl hl.1 rfl (Nat.le_of_ble_eq_true rfl) dL_does_76 ⟨by first | exact Nat.le_of_ble_eq_true rfl | omega, by first | exact Nat.le_of_ble_eq_true rfl | omega⟩ (fun E9 ce9 q9 H locs hp9 hW hS h7 h8 h9 => ?_) (fun r9 sg9 H locs hq hW hS => ?_)
              · have hp9 : cx_setDoor nb sg x y E9 := hp9
                rcases ce_setDoor hp9 with rfl | rfl | rfl
                · refine kx_ct F htb [] ⟨0, 117, 118, 39⟩ [⟨0, 117, 123, 42⟩, ⟨0, 117, 128, 44⟩] rfl (by simp) (by decide) (by decide) (by decide +kernel) (by decide +kernel) h7 h8 h9 ?_
                  refine lv_astore (lv' := [(4, .ref q9), (0, .ref (ad 0 0)), (1, .int 5), (2, .int x), (3, .int y)]) hx hb dL_does_118 hl (by decide) rfl (fun ls hl => ?_)
                  refine lv_ldc (v := (-100005)) hx hb F.2.2.2.1 (hts (.constant RL 41 (-100005)) (by decide +kernel)) dL_does_120 ?_
                  refine vx_ret ?_
                  exact kx_ri F hr hlocks hW hS (by first | exact Nat.le_of_ble_eq_true rfl | omega) (by first | exact Nat.le_of_ble_eq_true rfl | omega) (⟨_, rfl, Or.inr ⟨rfl, rfl, _, hp9⟩⟩) dL_does_122
                · refine kx_ct F htb [⟨0, 117, 118, 39⟩] ⟨0, 117, 123, 42⟩ [⟨0, 117, 128, 44⟩] rfl (by intro z hz; simp only [List.mem_cons, List.not_mem_nil, or_false] at hz; subst hz; exact ⟨by decide, "java/lang/IndexOutOfBoundsException", by decide +kernel, by decide +kernel⟩) (by decide) (by decide) (by decide +kernel) (by decide +kernel) h7 h8 h9 ?_
                  refine lv_astore (lv' := [(4, .ref q9), (0, .ref (ad 0 0)), (1, .int 5), (2, .int x), (3, .int y)]) hx hb dL_does_123 hl (by decide) rfl (fun ls hl => ?_)
                  refine lv_ldc (v := (-100005)) hx hb F.2.2.2.1 (hts (.constant RL 41 (-100005)) (by decide +kernel)) dL_does_125 ?_
                  refine vx_ret ?_
                  exact kx_ri F hr hlocks hW hS (by first | exact Nat.le_of_ble_eq_true rfl | omega) (by first | exact Nat.le_of_ble_eq_true rfl | omega) (⟨_, rfl, Or.inr ⟨rfl, rfl, _, hp9⟩⟩) dL_does_127
                · refine kx_ct F htb [⟨0, 117, 118, 39⟩, ⟨0, 117, 123, 42⟩] ⟨0, 117, 128, 44⟩ [] rfl (by intro z hz; simp only [List.mem_cons, List.not_mem_nil, or_false] at hz; rcases hz with rfl | rfl; exact ⟨by decide, "java/lang/IndexOutOfBoundsException", by decide +kernel, by decide +kernel⟩; exact ⟨by decide, "java/lang/IllegalArgumentException", by decide +kernel, by decide +kernel⟩) (by decide) (by decide) (by decide +kernel) (by decide +kernel) h7 h8 h9 ?_
                  refine lv_astore (lv' := [(4, .ref q9), (0, .ref (ad 0 0)), (1, .int 5), (2, .int x), (3, .int y)]) hx hb dL_does_128 hl (by decide) rfl (fun ls hl => ?_)
                  refine lv_ldc (v := (-100005)) hx hb F.2.2.2.1 (hts (.constant RL 41 (-100005)) (by decide +kernel)) dL_does_130 ?_
                  refine vx_ret ?_
                  exact kx_ri F hr hlocks hW hS (by first | exact Nat.le_of_ble_eq_true rfl | omega) (by first | exact Nat.le_of_ble_eq_true rfl | omega) (⟨_, rfl, Or.inr ⟨rfl, rfl, _, hp9⟩⟩) dL_does_132
              have hq : cq_setDoor nb sg x y r9 sg9 := hq
              obtain ⟨v9, hv9⟩ := ci_setDoor hq
              subst hv9
              have hW : kx_Wd G z0 ad nb (sg9) H := by first | exact hW | (simp only [kx_up_s, kx_up_up] at hW; exact hW) | (simp only [kx_up_s, kx_up_up, upd_s] at hW; exact hW)
              refine W.eq (g2 := F0 m 79 ls [.int v9]) rfl ?_
              refine lv_goto (tgt := 117) hx hb dL_does_79 (by decide) ?_
              refine vx_ret ?_
              exact kx_ri F hr hlocks hW hS (by first | exact Nat.le_of_ble_eq_true rfl | omega) (by first | exact Nat.le_of_ble_eq_true rfl | omega) (⟨_, rfl, Or.inl hq⟩) dL_does_117
          · exact absurd c_56 (by decide)
        · exact absurd c_42 (by decide)
      · exact absurd c_29 (by decide)
    · exact absurd c_15 (by decide)
  · exact absurd c_1 (by decide)

set_option maxHeartbeats 2000000 in
set_option maxRecDepth 100000 in
theorem c_L_does_keep (l : Launch) (hlf : l.stackTraces = false) (G : kx_G) (z0 : Nat) (ad : kx_A) (nb : Nat) (sg : kx_S) (hC : tw_CI nb sg) (x y : Int32) : kx_MX l yL_does wsL_does 8 161 3 18 G z0 ad nb sg [.ref (ad 0 0), .int 6, .int x, .int y] (fun r sg' => ∃ a : Int32, r = some (.int a) ∧ ho (cq_keep nb sg x y) (cx_keep nb sg x y) sg a sg') (fun _ => False) := by
  refine vx_ofWH (hh := [(0, 117, 118, 39), (0, 117, 123, 42), (0, 117, 128, 44)]) (cc := cL_does) (maxL := 5) (ret := (some .int)) (by decide) rfl ?_
  intro p e s m args below meth c s₁ B hml hv
  obtain ⟨rfl, hW, hV⟩ := hv
  have hts := atoms_spec (ws := wsL_does) B.pre
  have F : kx_F p s m c cL_does 5 RL _ wsL_does G z0 := ⟨B.exec, B.bytes, hml, findClass_of_methodNamed B.named, hts, hV⟩
  have htb : c.exceptionTable.toList = tableOf [(0, 117, 118, 39), (0, 117, 123, 42), (0, 117, 128, 44)] := vx_table (x := yL_does) B (hts (.codeWith yL_does cL_does 5 (some .int) [(0, 117, 118, 39), (0, 117, 123, 42), (0, 117, 128, 44)]) List.mem_cons_self)
  have hx := B.exec; have hb := B.bytes; have hr := B.returns; have hlocks := B.notSynchronized
  have hS : va_S (kx_Ad z0) s.heap s.heap [] := va_S.rf
  have hl := lv_entry ([.ref (ad 0 0), .int 6, .int x, .int y]) (n := 5) (Nat.le_of_ble_eq_true rfl)
  rw [lg_entry_eq]
  generalize (lg_sl ([.ref (ad 0 0), .int 6, .int x, .int y]) ++ List.replicate (5 - (lg_sl ([.ref (ad 0 0), .int 6, .int x, .int y])).length) Slot.unset).toArray = ls at hl ⊢
  have hl : lv_has ls 5 [(0, .ref (ad 0 0)), (1, .int 6), (2, .int x), (3, .int y)] := hl
  refine lv_iload_n hx hb dL_does_0 rfl (lv_at hl 1 rfl) ?_
  refine lv_if_ne (tgt := 13) hx hb dL_does_1 (by decide) (fun c_1 => ?_) (fun c_1 => ?_)
  · refine lv_iload_n hx hb dL_does_13 rfl (lv_at hl 1 rfl) ?_
    refine lv_iconst (v := 1) hx hb dL_does_14 (by decide) ?_
    refine lv_icmp_ne (tgt := 27) hx hb dL_does_15 (by decide) (fun c_15 => ?_) (fun c_15 => ?_)
    · refine lv_iload_n hx hb dL_does_27 rfl (lv_at hl 1 rfl) ?_
      refine lv_iconst (v := 2) hx hb dL_does_28 (by decide) ?_
      refine lv_icmp_ne (tgt := 40) hx hb dL_does_29 (by decide) (fun c_29 => ?_) (fun c_29 => ?_)
      · refine lv_iload_n hx hb dL_does_40 rfl (lv_at hl 1 rfl) ?_
        refine lv_iconst (v := 3) hx hb dL_does_41 (by decide) ?_
        refine lv_icmp_ne (tgt := 54) hx hb dL_does_42 (by decide) (fun c_42 => ?_) (fun c_42 => ?_)
        · refine lv_iload_n hx hb dL_does_54 rfl (lv_at hl 1 rfl) ?_
          refine lv_iconst (v := 4) hx hb dL_does_55 (by decide) ?_
          refine lv_icmp_ne (tgt := 68) hx hb dL_does_56 (by decide) (fun c_56 => ?_) (fun c_56 => ?_)
          · refine lv_iload_n hx hb dL_does_68 rfl (lv_at hl 1 rfl) ?_
            refine lv_iconst (v := 5) hx hb dL_does_69 (by decide) ?_
            refine lv_icmp_ne (tgt := 82) hx hb dL_does_70 (by decide) (fun c_70 => ?_) (fun c_70 => ?_)
            · refine lv_iload_n hx hb dL_does_82 rfl (lv_at hl 1 rfl) ?_
              refine lv_bipush (v := 6) hx hb dL_does_83 (by decide) ?_
              refine lv_icmp_ne (tgt := 97) hx hb dL_does_85 (by decide) (fun c_85 => ?_) (fun c_85 => ?_)
              · exact absurd c_85 (by decide)
              · refine lv_aload_n hx hb dL_does_88 rfl (lv_at hl 0 rfl) ?_
                refine lv_iload_n hx hb dL_does_89 rfl (lv_at hl 2 rfl) ?_
                refine lv_iload_n hx hb dL_does_90 rfl (lv_at hl 3 rfl) ?_
                refine kx_xV (na := 2) F (q := 0) (n := 0) (c_X3_keep l hlf G z0 ad nb sg hC x y) gL_does_X3_keep rfl (by decide +kernel) ⟨Nat.le_of_ble_eq_true rfl, Nat.le_of_ble_eq_true rfl⟩ hW hS ⟨by decide, rfl⟩ rfl rfl (As := [.int x, .int y]) (rest := []) rfl hl.1 rfl (Nat.le_of_ble_eq_true rfl) dL_does_91 ⟨by first | exact Nat.le_of_ble_eq_true rfl | omega, by first | exact Nat.le_of_ble_eq_true rfl | omega⟩ (fun E9 ce9 q9 H locs hp9 hW hS h7 h8 h9 => ?_) (fun r9 sg9 H locs hq hW hS => ?_)
                · have hp9 : cx_keep nb sg x y E9 := hp9
                  rcases ce_keep hp9 with rfl | rfl
                  · refine kx_ct F htb [] ⟨0, 117, 118, 39⟩ [⟨0, 117, 123, 42⟩, ⟨0, 117, 128, 44⟩] rfl (by simp) (by decide) (by decide) (by decide +kernel) (by decide +kernel) h7 h8 h9 ?_
                    refine lv_astore (lv' := [(4, .ref q9), (0, .ref (ad 0 0)), (1, .int 6), (2, .int x), (3, .int y)]) hx hb dL_does_118 hl (by decide) rfl (fun ls hl => ?_)
                    refine lv_ldc (v := (-100005)) hx hb F.2.2.2.1 (hts (.constant RL 41 (-100005)) (by decide +kernel)) dL_does_120 ?_
                    refine vx_ret ?_
                    exact kx_ri F hr hlocks hW hS (by first | exact Nat.le_of_ble_eq_true rfl | omega) (by first | exact Nat.le_of_ble_eq_true rfl | omega) (⟨_, rfl, Or.inr ⟨rfl, rfl, _, hp9⟩⟩) dL_does_122
                  · refine kx_ct F htb [⟨0, 117, 118, 39⟩, ⟨0, 117, 123, 42⟩] ⟨0, 117, 128, 44⟩ [] rfl (by intro z hz; simp only [List.mem_cons, List.not_mem_nil, or_false] at hz; rcases hz with rfl | rfl; exact ⟨by decide, "java/lang/IndexOutOfBoundsException", by decide +kernel, by decide +kernel⟩; exact ⟨by decide, "java/lang/IllegalArgumentException", by decide +kernel, by decide +kernel⟩) (by decide) (by decide) (by decide +kernel) (by decide +kernel) h7 h8 h9 ?_
                    refine lv_astore (lv' := [(4, .ref q9), (0, .ref (ad 0 0)), (1, .int 6), (2, .int x), (3, .int y)]) hx hb dL_does_128 hl (by decide) rfl (fun ls hl => ?_)
                    refine lv_ldc (v := (-100005)) hx hb F.2.2.2.1 (hts (.constant RL 41 (-100005)) (by decide +kernel)) dL_does_130 ?_
                    refine vx_ret ?_
                    exact kx_ri F hr hlocks hW hS (by first | exact Nat.le_of_ble_eq_true rfl | omega) (by first | exact Nat.le_of_ble_eq_true rfl | omega) (⟨_, rfl, Or.inr ⟨rfl, rfl, _, hp9⟩⟩) dL_does_132
                have hq : cq_keep nb sg x y r9 sg9 := hq
                obtain ⟨v9, hv9⟩ := ci_keep hq
                subst hv9
                have hW : kx_Wd G z0 ad nb (sg9) H := by first | exact hW | (simp only [kx_up_s, kx_up_up] at hW; exact hW) | (simp only [kx_up_s, kx_up_up, upd_s] at hW; exact hW)
                refine W.eq (g2 := F0 m 94 ls [.int v9]) rfl ?_
                refine lv_goto (tgt := 117) hx hb dL_does_94 (by decide) ?_
                refine vx_ret ?_
                exact kx_ri F hr hlocks hW hS (by first | exact Nat.le_of_ble_eq_true rfl | omega) (by first | exact Nat.le_of_ble_eq_true rfl | omega) (⟨_, rfl, Or.inl hq⟩) dL_does_117
            · exact absurd c_70 (by decide)
          · exact absurd c_56 (by decide)
        · exact absurd c_42 (by decide)
      · exact absurd c_29 (by decide)
    · exact absurd c_15 (by decide)
  · exact absurd c_1 (by decide)

set_option maxHeartbeats 2000000 in
set_option maxRecDepth 100000 in
theorem c_L_does_open (l : Launch) (hlf : l.stackTraces = false) (G : kx_G) (z0 : Nat) (ad : kx_A) (nb : Nat) (sg : kx_S) (hC : tw_CI nb sg) (x y : Int32) : kx_MX l yL_does wsL_does 8 161 3 18 G z0 ad nb sg [.ref (ad 0 0), .int 7, .int x, .int y] (fun r sg' => ∃ a : Int32, r = some (.int a) ∧ ho (cq_open nb sg x y) (cx_open nb sg x y) sg a sg') (fun _ => False) := by
  refine vx_ofWH (hh := [(0, 117, 118, 39), (0, 117, 123, 42), (0, 117, 128, 44)]) (cc := cL_does) (maxL := 5) (ret := (some .int)) (by decide) rfl ?_
  intro p e s m args below meth c s₁ B hml hv
  obtain ⟨rfl, hW, hV⟩ := hv
  have hts := atoms_spec (ws := wsL_does) B.pre
  have F : kx_F p s m c cL_does 5 RL _ wsL_does G z0 := ⟨B.exec, B.bytes, hml, findClass_of_methodNamed B.named, hts, hV⟩
  have htb : c.exceptionTable.toList = tableOf [(0, 117, 118, 39), (0, 117, 123, 42), (0, 117, 128, 44)] := vx_table (x := yL_does) B (hts (.codeWith yL_does cL_does 5 (some .int) [(0, 117, 118, 39), (0, 117, 123, 42), (0, 117, 128, 44)]) List.mem_cons_self)
  have hx := B.exec; have hb := B.bytes; have hr := B.returns; have hlocks := B.notSynchronized
  have hS : va_S (kx_Ad z0) s.heap s.heap [] := va_S.rf
  have hl := lv_entry ([.ref (ad 0 0), .int 7, .int x, .int y]) (n := 5) (Nat.le_of_ble_eq_true rfl)
  rw [lg_entry_eq]
  generalize (lg_sl ([.ref (ad 0 0), .int 7, .int x, .int y]) ++ List.replicate (5 - (lg_sl ([.ref (ad 0 0), .int 7, .int x, .int y])).length) Slot.unset).toArray = ls at hl ⊢
  have hl : lv_has ls 5 [(0, .ref (ad 0 0)), (1, .int 7), (2, .int x), (3, .int y)] := hl
  refine lv_iload_n hx hb dL_does_0 rfl (lv_at hl 1 rfl) ?_
  refine lv_if_ne (tgt := 13) hx hb dL_does_1 (by decide) (fun c_1 => ?_) (fun c_1 => ?_)
  · refine lv_iload_n hx hb dL_does_13 rfl (lv_at hl 1 rfl) ?_
    refine lv_iconst (v := 1) hx hb dL_does_14 (by decide) ?_
    refine lv_icmp_ne (tgt := 27) hx hb dL_does_15 (by decide) (fun c_15 => ?_) (fun c_15 => ?_)
    · refine lv_iload_n hx hb dL_does_27 rfl (lv_at hl 1 rfl) ?_
      refine lv_iconst (v := 2) hx hb dL_does_28 (by decide) ?_
      refine lv_icmp_ne (tgt := 40) hx hb dL_does_29 (by decide) (fun c_29 => ?_) (fun c_29 => ?_)
      · refine lv_iload_n hx hb dL_does_40 rfl (lv_at hl 1 rfl) ?_
        refine lv_iconst (v := 3) hx hb dL_does_41 (by decide) ?_
        refine lv_icmp_ne (tgt := 54) hx hb dL_does_42 (by decide) (fun c_42 => ?_) (fun c_42 => ?_)
        · refine lv_iload_n hx hb dL_does_54 rfl (lv_at hl 1 rfl) ?_
          refine lv_iconst (v := 4) hx hb dL_does_55 (by decide) ?_
          refine lv_icmp_ne (tgt := 68) hx hb dL_does_56 (by decide) (fun c_56 => ?_) (fun c_56 => ?_)
          · refine lv_iload_n hx hb dL_does_68 rfl (lv_at hl 1 rfl) ?_
            refine lv_iconst (v := 5) hx hb dL_does_69 (by decide) ?_
            refine lv_icmp_ne (tgt := 82) hx hb dL_does_70 (by decide) (fun c_70 => ?_) (fun c_70 => ?_)
            · refine lv_iload_n hx hb dL_does_82 rfl (lv_at hl 1 rfl) ?_
              refine lv_bipush (v := 6) hx hb dL_does_83 (by decide) ?_
              refine lv_icmp_ne (tgt := 97) hx hb dL_does_85 (by decide) (fun c_85 => ?_) (fun c_85 => ?_)
              · refine lv_iload_n hx hb dL_does_97 rfl (lv_at hl 1 rfl) ?_
                refine lv_bipush (v := 7) hx hb dL_does_98 (by decide) ?_
                refine lv_icmp_ne (tgt := 112) hx hb dL_does_100 (by decide) (fun c_100 => ?_) (fun c_100 => ?_)
                · exact absurd c_100 (by decide)
                · refine lv_aload_n hx hb dL_does_103 rfl (lv_at hl 0 rfl) ?_
                  refine lv_iload_n hx hb dL_does_104 rfl (lv_at hl 2 rfl) ?_
                  refine lv_iload_n hx hb dL_does_105 rfl (lv_at hl 3 rfl) ?_
                  refine kx_xV (na := 2) F (q := 0) (n := 0) (c_X3_open l hlf G z0 ad nb sg hC x y) gL_does_X3_open rfl (by decide +kernel) ⟨Nat.le_of_ble_eq_true rfl, Nat.le_of_ble_eq_true rfl⟩ hW hS ⟨by decide, rfl⟩ rfl rfl (As := [.int x, .int y]) (rest := []) rfl hl.1 rfl (Nat.le_of_ble_eq_true rfl) dL_does_106 ⟨by first | exact Nat.le_of_ble_eq_true rfl | omega, by first | exact Nat.le_of_ble_eq_true rfl | omega⟩ (fun E9 ce9 q9 H locs hp9 hW hS h7 h8 h9 => ?_) (fun r9 sg9 H locs hq hW hS => ?_)
                  · have hp9 : cx_open nb sg x y E9 := hp9
                    rcases ce_open hp9 with rfl | rfl | rfl
                    · refine kx_ct F htb [] ⟨0, 117, 118, 39⟩ [⟨0, 117, 123, 42⟩, ⟨0, 117, 128, 44⟩] rfl (by simp) (by decide) (by decide) (by decide +kernel) (by decide +kernel) h7 h8 h9 ?_
                      refine lv_astore (lv' := [(4, .ref q9), (0, .ref (ad 0 0)), (1, .int 7), (2, .int x), (3, .int y)]) hx hb dL_does_118 hl (by decide) rfl (fun ls hl => ?_)
                      refine lv_ldc (v := (-100005)) hx hb F.2.2.2.1 (hts (.constant RL 41 (-100005)) (by decide +kernel)) dL_does_120 ?_
                      refine vx_ret ?_
                      exact kx_ri F hr hlocks hW hS (by first | exact Nat.le_of_ble_eq_true rfl | omega) (by first | exact Nat.le_of_ble_eq_true rfl | omega) (⟨_, rfl, Or.inr ⟨rfl, rfl, _, hp9⟩⟩) dL_does_122
                    · refine kx_ct F htb [⟨0, 117, 118, 39⟩] ⟨0, 117, 123, 42⟩ [⟨0, 117, 128, 44⟩] rfl (by intro z hz; simp only [List.mem_cons, List.not_mem_nil, or_false] at hz; subst hz; exact ⟨by decide, "java/lang/IndexOutOfBoundsException", by decide +kernel, by decide +kernel⟩) (by decide) (by decide) (by decide +kernel) (by decide +kernel) h7 h8 h9 ?_
                      refine lv_astore (lv' := [(4, .ref q9), (0, .ref (ad 0 0)), (1, .int 7), (2, .int x), (3, .int y)]) hx hb dL_does_123 hl (by decide) rfl (fun ls hl => ?_)
                      refine lv_ldc (v := (-100005)) hx hb F.2.2.2.1 (hts (.constant RL 41 (-100005)) (by decide +kernel)) dL_does_125 ?_
                      refine vx_ret ?_
                      exact kx_ri F hr hlocks hW hS (by first | exact Nat.le_of_ble_eq_true rfl | omega) (by first | exact Nat.le_of_ble_eq_true rfl | omega) (⟨_, rfl, Or.inr ⟨rfl, rfl, _, hp9⟩⟩) dL_does_127
                    · refine kx_ct F htb [⟨0, 117, 118, 39⟩, ⟨0, 117, 123, 42⟩] ⟨0, 117, 128, 44⟩ [] rfl (by intro z hz; simp only [List.mem_cons, List.not_mem_nil, or_false] at hz; rcases hz with rfl | rfl; exact ⟨by decide, "java/lang/IndexOutOfBoundsException", by decide +kernel, by decide +kernel⟩; exact ⟨by decide, "java/lang/IllegalArgumentException", by decide +kernel, by decide +kernel⟩) (by decide) (by decide) (by decide +kernel) (by decide +kernel) h7 h8 h9 ?_
                      refine lv_astore (lv' := [(4, .ref q9), (0, .ref (ad 0 0)), (1, .int 7), (2, .int x), (3, .int y)]) hx hb dL_does_128 hl (by decide) rfl (fun ls hl => ?_)
                      refine lv_ldc (v := (-100005)) hx hb F.2.2.2.1 (hts (.constant RL 41 (-100005)) (by decide +kernel)) dL_does_130 ?_
                      refine vx_ret ?_
                      exact kx_ri F hr hlocks hW hS (by first | exact Nat.le_of_ble_eq_true rfl | omega) (by first | exact Nat.le_of_ble_eq_true rfl | omega) (⟨_, rfl, Or.inr ⟨rfl, rfl, _, hp9⟩⟩) dL_does_132
                  have hq : cq_open nb sg x y r9 sg9 := hq
                  obtain ⟨v9, hv9⟩ := ci_open hq
                  subst hv9
                  have hW : kx_Wd G z0 ad nb (sg9) H := by first | exact hW | (simp only [kx_up_s, kx_up_up] at hW; exact hW) | (simp only [kx_up_s, kx_up_up, upd_s] at hW; exact hW)
                  refine W.eq (g2 := F0 m 109 ls [.int v9]) rfl ?_
                  refine lv_goto (tgt := 117) hx hb dL_does_109 (by decide) ?_
                  refine vx_ret ?_
                  exact kx_ri F hr hlocks hW hS (by first | exact Nat.le_of_ble_eq_true rfl | omega) (by first | exact Nat.le_of_ble_eq_true rfl | omega) (⟨_, rfl, Or.inl hq⟩) dL_does_117
              · exact absurd c_85 (by decide)
            · exact absurd c_70 (by decide)
          · exact absurd c_56 (by decide)
        · exact absurd c_42 (by decide)
      · exact absurd c_29 (by decide)
    · exact absurd c_15 (by decide)
  · exact absurd c_1 (by decide)

set_option maxHeartbeats 2000000 in
set_option maxRecDepth 100000 in
theorem c_L_does_claim (l : Launch) (hlf : l.stackTraces = false) (G : kx_G) (z0 : Nat) (ad : kx_A) (nb : Nat) (sg : kx_S) (hC : tw_CI nb sg) (x y : Int32) : kx_MX l yL_does wsL_does 8 161 2 12 G z0 ad nb sg [.ref (ad 0 0), .int 8, .int x, .int y] (fun r sg' => ∃ a : Int32, r = some (.int a) ∧ ho (cq_claim nb sg x) (cx_claim nb sg x) sg a sg') (fun _ => False) := by
  refine vx_ofWH (hh := [(0, 117, 118, 39), (0, 117, 123, 42), (0, 117, 128, 44)]) (cc := cL_does) (maxL := 5) (ret := (some .int)) (by decide) rfl ?_
  intro p e s m args below meth c s₁ B hml hv
  obtain ⟨rfl, hW, hV⟩ := hv
  have hts := atoms_spec (ws := wsL_does) B.pre
  have F : kx_F p s m c cL_does 5 RL _ wsL_does G z0 := ⟨B.exec, B.bytes, hml, findClass_of_methodNamed B.named, hts, hV⟩
  have htb : c.exceptionTable.toList = tableOf [(0, 117, 118, 39), (0, 117, 123, 42), (0, 117, 128, 44)] := vx_table (x := yL_does) B (hts (.codeWith yL_does cL_does 5 (some .int) [(0, 117, 118, 39), (0, 117, 123, 42), (0, 117, 128, 44)]) List.mem_cons_self)
  have hx := B.exec; have hb := B.bytes; have hr := B.returns; have hlocks := B.notSynchronized
  have hS : va_S (kx_Ad z0) s.heap s.heap [] := va_S.rf
  have hl := lv_entry ([.ref (ad 0 0), .int 8, .int x, .int y]) (n := 5) (Nat.le_of_ble_eq_true rfl)
  rw [lg_entry_eq]
  generalize (lg_sl ([.ref (ad 0 0), .int 8, .int x, .int y]) ++ List.replicate (5 - (lg_sl ([.ref (ad 0 0), .int 8, .int x, .int y])).length) Slot.unset).toArray = ls at hl ⊢
  have hl : lv_has ls 5 [(0, .ref (ad 0 0)), (1, .int 8), (2, .int x), (3, .int y)] := hl
  refine lv_iload_n hx hb dL_does_0 rfl (lv_at hl 1 rfl) ?_
  refine lv_if_ne (tgt := 13) hx hb dL_does_1 (by decide) (fun c_1 => ?_) (fun c_1 => ?_)
  · refine lv_iload_n hx hb dL_does_13 rfl (lv_at hl 1 rfl) ?_
    refine lv_iconst (v := 1) hx hb dL_does_14 (by decide) ?_
    refine lv_icmp_ne (tgt := 27) hx hb dL_does_15 (by decide) (fun c_15 => ?_) (fun c_15 => ?_)
    · refine lv_iload_n hx hb dL_does_27 rfl (lv_at hl 1 rfl) ?_
      refine lv_iconst (v := 2) hx hb dL_does_28 (by decide) ?_
      refine lv_icmp_ne (tgt := 40) hx hb dL_does_29 (by decide) (fun c_29 => ?_) (fun c_29 => ?_)
      · refine lv_iload_n hx hb dL_does_40 rfl (lv_at hl 1 rfl) ?_
        refine lv_iconst (v := 3) hx hb dL_does_41 (by decide) ?_
        refine lv_icmp_ne (tgt := 54) hx hb dL_does_42 (by decide) (fun c_42 => ?_) (fun c_42 => ?_)
        · refine lv_iload_n hx hb dL_does_54 rfl (lv_at hl 1 rfl) ?_
          refine lv_iconst (v := 4) hx hb dL_does_55 (by decide) ?_
          refine lv_icmp_ne (tgt := 68) hx hb dL_does_56 (by decide) (fun c_56 => ?_) (fun c_56 => ?_)
          · refine lv_iload_n hx hb dL_does_68 rfl (lv_at hl 1 rfl) ?_
            refine lv_iconst (v := 5) hx hb dL_does_69 (by decide) ?_
            refine lv_icmp_ne (tgt := 82) hx hb dL_does_70 (by decide) (fun c_70 => ?_) (fun c_70 => ?_)
            · refine lv_iload_n hx hb dL_does_82 rfl (lv_at hl 1 rfl) ?_
              refine lv_bipush (v := 6) hx hb dL_does_83 (by decide) ?_
              refine lv_icmp_ne (tgt := 97) hx hb dL_does_85 (by decide) (fun c_85 => ?_) (fun c_85 => ?_)
              · refine lv_iload_n hx hb dL_does_97 rfl (lv_at hl 1 rfl) ?_
                refine lv_bipush (v := 7) hx hb dL_does_98 (by decide) ?_
                refine lv_icmp_ne (tgt := 112) hx hb dL_does_100 (by decide) (fun c_100 => ?_) (fun c_100 => ?_)
                · refine lv_aload_n hx hb dL_does_112 rfl (lv_at hl 0 rfl) ?_
                  refine lv_iload_n hx hb dL_does_113 rfl (lv_at hl 2 rfl) ?_
                  refine kx_xV (na := 1) F (q := 0) (n := 0) (c_X3_claim l hlf G z0 ad nb sg hC x) gL_does_X3_claim rfl (by decide +kernel) ⟨Nat.le_of_ble_eq_true rfl, Nat.le_of_ble_eq_true rfl⟩ hW hS ⟨by decide, rfl⟩ rfl rfl (As := [.int x]) (rest := []) rfl hl.1 rfl (Nat.le_of_ble_eq_true rfl) dL_does_114 ⟨by first | exact Nat.le_of_ble_eq_true rfl | omega, by first | exact Nat.le_of_ble_eq_true rfl | omega⟩ (fun E9 ce9 q9 H locs hp9 hW hS h7 h8 h9 => ?_) (fun r9 sg9 H locs hq hW hS => ?_)
                  · have hp9 : cx_claim nb sg x E9 := hp9
                    rcases ce_claim hp9 with rfl | rfl
                    · refine kx_ct F htb [] ⟨0, 117, 118, 39⟩ [⟨0, 117, 123, 42⟩, ⟨0, 117, 128, 44⟩] rfl (by simp) (by decide) (by decide) (by decide +kernel) (by decide +kernel) h7 h8 h9 ?_
                      refine lv_astore (lv' := [(4, .ref q9), (0, .ref (ad 0 0)), (1, .int 8), (2, .int x), (3, .int y)]) hx hb dL_does_118 hl (by decide) rfl (fun ls hl => ?_)
                      refine lv_ldc (v := (-100005)) hx hb F.2.2.2.1 (hts (.constant RL 41 (-100005)) (by decide +kernel)) dL_does_120 ?_
                      refine vx_ret ?_
                      exact kx_ri F hr hlocks hW hS (by first | exact Nat.le_of_ble_eq_true rfl | omega) (by first | exact Nat.le_of_ble_eq_true rfl | omega) (⟨_, rfl, Or.inr ⟨rfl, rfl, _, hp9⟩⟩) dL_does_122
                    · refine kx_ct F htb [⟨0, 117, 118, 39⟩, ⟨0, 117, 123, 42⟩] ⟨0, 117, 128, 44⟩ [] rfl (by intro z hz; simp only [List.mem_cons, List.not_mem_nil, or_false] at hz; rcases hz with rfl | rfl; exact ⟨by decide, "java/lang/IndexOutOfBoundsException", by decide +kernel, by decide +kernel⟩; exact ⟨by decide, "java/lang/IllegalArgumentException", by decide +kernel, by decide +kernel⟩) (by decide) (by decide) (by decide +kernel) (by decide +kernel) h7 h8 h9 ?_
                      refine lv_astore (lv' := [(4, .ref q9), (0, .ref (ad 0 0)), (1, .int 8), (2, .int x), (3, .int y)]) hx hb dL_does_128 hl (by decide) rfl (fun ls hl => ?_)
                      refine lv_ldc (v := (-100005)) hx hb F.2.2.2.1 (hts (.constant RL 41 (-100005)) (by decide +kernel)) dL_does_130 ?_
                      refine vx_ret ?_
                      exact kx_ri F hr hlocks hW hS (by first | exact Nat.le_of_ble_eq_true rfl | omega) (by first | exact Nat.le_of_ble_eq_true rfl | omega) (⟨_, rfl, Or.inr ⟨rfl, rfl, _, hp9⟩⟩) dL_does_132
                  have hq : cq_claim nb sg x r9 sg9 := hq
                  obtain ⟨v9, hv9⟩ := ci_claim hq
                  subst hv9
                  have hW : kx_Wd G z0 ad nb (sg9) H := by first | exact hW | (simp only [kx_up_s, kx_up_up] at hW; exact hW) | (simp only [kx_up_s, kx_up_up, upd_s] at hW; exact hW)
                  refine W.eq (g2 := F0 m 117 ls [.int v9]) rfl ?_
                  refine vx_ret ?_
                  exact kx_ri F hr hlocks hW hS (by first | exact Nat.le_of_ble_eq_true rfl | omega) (by first | exact Nat.le_of_ble_eq_true rfl | omega) (⟨_, rfl, Or.inl hq⟩) dL_does_117
                · exact absurd c_100 (by decide)
              · exact absurd c_85 (by decide)
            · exact absurd c_70 (by decide)
          · exact absurd c_56 (by decide)
        · exact absurd c_42 (by decide)
      · exact absurd c_29 (by decide)
    · exact absurd c_15 (by decide)
  · exact absurd c_1 (by decide)

set_option maxHeartbeats 2000000 in
set_option maxRecDepth 100000 in
theorem c_L_scan (l : Launch) (hlf : l.stackTraces = false) (G : kx_G) (z0 : Nat) (ad : kx_A) (nb : Nat) (sg : kx_S) (hC : tw_CI nb sg) (x y z : Int32) : kx_MX l yL_scan wsL_scan 8 161 4 24 G z0 ad nb sg [.ref (ad 0 0), .int x, .int y, .int z] (fun r sg' => ∃ a : Int32, r = some (.int a) ∧ ho (cq_scan nb sg x y z) (cx_scan nb sg x y z) sg a sg') (fun _ => False) := by
  refine vx_ofWH (hh := [(0, 7, 8, 39), (0, 7, 13, 42), (0, 7, 18, 44)]) (cc := cL_scan) (maxL := 5) (ret := (some .int)) (by decide) rfl ?_
  intro p e s m args below meth c s₁ B hml hv
  obtain ⟨rfl, hW, hV⟩ := hv
  have hts := atoms_spec (ws := wsL_scan) B.pre
  have F : kx_F p s m c cL_scan 5 RL _ wsL_scan G z0 := ⟨B.exec, B.bytes, hml, findClass_of_methodNamed B.named, hts, hV⟩
  have htb : c.exceptionTable.toList = tableOf [(0, 7, 8, 39), (0, 7, 13, 42), (0, 7, 18, 44)] := vx_table (x := yL_scan) B (hts (.codeWith yL_scan cL_scan 5 (some .int) [(0, 7, 8, 39), (0, 7, 13, 42), (0, 7, 18, 44)]) List.mem_cons_self)
  have hx := B.exec; have hb := B.bytes; have hr := B.returns; have hlocks := B.notSynchronized
  have hS : va_S (kx_Ad z0) s.heap s.heap [] := va_S.rf
  have hl := lv_entry ([.ref (ad 0 0), .int x, .int y, .int z]) (n := 5) (Nat.le_of_ble_eq_true rfl)
  rw [lg_entry_eq]
  generalize (lg_sl ([.ref (ad 0 0), .int x, .int y, .int z]) ++ List.replicate (5 - (lg_sl ([.ref (ad 0 0), .int x, .int y, .int z])).length) Slot.unset).toArray = ls at hl ⊢
  have hl : lv_has ls 5 [(0, .ref (ad 0 0)), (1, .int x), (2, .int y), (3, .int z)] := hl
  refine lv_aload_n hx hb dL_scan_0 rfl (lv_at hl 0 rfl) ?_
  refine lv_iload_n hx hb dL_scan_1 rfl (lv_at hl 1 rfl) ?_
  refine lv_iload_n hx hb dL_scan_2 rfl (lv_at hl 2 rfl) ?_
  refine lv_iload_n hx hb dL_scan_3 rfl (lv_at hl 3 rfl) ?_
  refine kx_xV (na := 3) F (q := 0) (n := 0) (c_X3_scan l hlf G z0 ad nb sg hC x y z) gL_scan_X3_scan rfl (by decide +kernel) ⟨Nat.le_of_ble_eq_true rfl, Nat.le_of_ble_eq_true rfl⟩ hW hS ⟨by decide, rfl⟩ rfl rfl (As := [.int x, .int y, .int z]) (rest := []) rfl hl.1 rfl (Nat.le_of_ble_eq_true rfl) dL_scan_4 ⟨by first | exact Nat.le_of_ble_eq_true rfl | omega, by first | exact Nat.le_of_ble_eq_true rfl | omega⟩ (fun E9 ce9 q9 H locs hp9 hW hS h7 h8 h9 => ?_) (fun r9 sg9 H locs hq hW hS => ?_)
  · have hp9 : cx_scan nb sg x y z E9 := hp9
    rcases ce_scan hp9 with rfl | rfl | rfl
    · refine kx_ct F htb [] ⟨0, 7, 8, 39⟩ [⟨0, 7, 13, 42⟩, ⟨0, 7, 18, 44⟩] rfl (by simp) (by decide) (by decide) (by decide +kernel) (by decide +kernel) h7 h8 h9 ?_
      refine lv_astore (lv' := [(4, .ref q9), (0, .ref (ad 0 0)), (1, .int x), (2, .int y), (3, .int z)]) hx hb dL_scan_8 hl (by decide) rfl (fun ls hl => ?_)
      refine lv_ldc (v := (-100005)) hx hb F.2.2.2.1 (hts (.constant RL 41 (-100005)) (by decide +kernel)) dL_scan_10 ?_
      refine vx_ret ?_
      exact kx_ri F hr hlocks hW hS (by first | exact Nat.le_of_ble_eq_true rfl | omega) (by first | exact Nat.le_of_ble_eq_true rfl | omega) (⟨_, rfl, Or.inr ⟨rfl, rfl, _, hp9⟩⟩) dL_scan_12
    · refine kx_ct F htb [⟨0, 7, 8, 39⟩] ⟨0, 7, 13, 42⟩ [⟨0, 7, 18, 44⟩] rfl (by intro z hz; simp only [List.mem_cons, List.not_mem_nil, or_false] at hz; subst hz; exact ⟨by decide, "java/lang/IndexOutOfBoundsException", by decide +kernel, by decide +kernel⟩) (by decide) (by decide) (by decide +kernel) (by decide +kernel) h7 h8 h9 ?_
      refine lv_astore (lv' := [(4, .ref q9), (0, .ref (ad 0 0)), (1, .int x), (2, .int y), (3, .int z)]) hx hb dL_scan_13 hl (by decide) rfl (fun ls hl => ?_)
      refine lv_ldc (v := (-100005)) hx hb F.2.2.2.1 (hts (.constant RL 41 (-100005)) (by decide +kernel)) dL_scan_15 ?_
      refine vx_ret ?_
      exact kx_ri F hr hlocks hW hS (by first | exact Nat.le_of_ble_eq_true rfl | omega) (by first | exact Nat.le_of_ble_eq_true rfl | omega) (⟨_, rfl, Or.inr ⟨rfl, rfl, _, hp9⟩⟩) dL_scan_17
    · refine kx_ct F htb [⟨0, 7, 8, 39⟩, ⟨0, 7, 13, 42⟩] ⟨0, 7, 18, 44⟩ [] rfl (by intro z hz; simp only [List.mem_cons, List.not_mem_nil, or_false] at hz; rcases hz with rfl | rfl; exact ⟨by decide, "java/lang/IndexOutOfBoundsException", by decide +kernel, by decide +kernel⟩; exact ⟨by decide, "java/lang/IllegalArgumentException", by decide +kernel, by decide +kernel⟩) (by decide) (by decide) (by decide +kernel) (by decide +kernel) h7 h8 h9 ?_
      refine lv_astore (lv' := [(4, .ref q9), (0, .ref (ad 0 0)), (1, .int x), (2, .int y), (3, .int z)]) hx hb dL_scan_18 hl (by decide) rfl (fun ls hl => ?_)
      refine lv_ldc (v := (-100005)) hx hb F.2.2.2.1 (hts (.constant RL 41 (-100005)) (by decide +kernel)) dL_scan_20 ?_
      refine vx_ret ?_
      exact kx_ri F hr hlocks hW hS (by first | exact Nat.le_of_ble_eq_true rfl | omega) (by first | exact Nat.le_of_ble_eq_true rfl | omega) (⟨_, rfl, Or.inr ⟨rfl, rfl, _, hp9⟩⟩) dL_scan_22
  have hq : cq_scan nb sg x y z r9 sg9 := hq
  obtain ⟨v9, hv9⟩ := ci_scan hq
  subst hv9
  have hW : kx_Wd G z0 ad nb (sg9) H := by first | exact hW | (simp only [kx_up_s, kx_up_up] at hW; exact hW) | (simp only [kx_up_s, kx_up_up, upd_s] at hW; exact hW)
  refine W.eq (g2 := F0 m 7 ls [.int v9]) rfl ?_
  refine vx_ret ?_
  exact kx_ri F hr hlocks hW hS (by first | exact Nat.le_of_ble_eq_true rfl | omega) (by first | exact Nat.le_of_ble_eq_true rfl | omega) (⟨_, rfl, Or.inl hq⟩) dL_scan_7

set_option maxHeartbeats 2000000 in
set_option maxRecDepth 100000 in
theorem c_L_jam (l : Launch) (hlf : l.stackTraces = false) (G : kx_G) (z0 : Nat) (ad : kx_A) (nb : Nat) (sg : kx_S) (hC : tw_CI nb sg) (x z : Int32) (hz : tw_01 z) : kx_MX l yL_jam wsL_jam 8 135 1 6 G z0 ad nb sg [.ref (ad 0 0), .int x, .int z] (fun r sg' => ∃ a : Int32, r = some (.int a) ∧ ho (cq_jam nb sg x z) (cx_jam nb sg x z) sg a sg') (fun _ => False) := by
  refine vx_ofWH (hh := [(0, 14, 15, 39)]) (cc := cL_jam) (maxL := 4) (ret := (some .int)) (by decide) rfl ?_
  intro p e s m args below meth c s₁ B hml hv
  obtain ⟨rfl, hW, hV⟩ := hv
  have hts := atoms_spec (ws := wsL_jam) B.pre
  have F : kx_F p s m c cL_jam 4 RL _ wsL_jam G z0 := ⟨B.exec, B.bytes, hml, findClass_of_methodNamed B.named, hts, hV⟩
  have htb : c.exceptionTable.toList = tableOf [(0, 14, 15, 39)] := vx_table (x := yL_jam) B (hts (.codeWith yL_jam cL_jam 4 (some .int) [(0, 14, 15, 39)]) List.mem_cons_self)
  have hx := B.exec; have hb := B.bytes; have hr := B.returns; have hlocks := B.notSynchronized
  have hS : va_S (kx_Ad z0) s.heap s.heap [] := va_S.rf
  have hl := lv_entry ([.ref (ad 0 0), .int x, .int z]) (n := 4) (Nat.le_of_ble_eq_true rfl)
  rw [lg_entry_eq]
  generalize (lg_sl ([.ref (ad 0 0), .int x, .int z]) ++ List.replicate (4 - (lg_sl ([.ref (ad 0 0), .int x, .int z])).length) Slot.unset).toArray = ls at hl ⊢
  have hl : lv_has ls 4 [(0, .ref (ad 0 0)), (1, .int x), (2, .int z)] := hl
  refine lv_aload_n hx hb dL_jam_0 rfl (lv_at hl 0 rfl) ?_
  refine lv_iload_n hx hb dL_jam_1 rfl (lv_at hl 1 rfl) ?_
  refine lv_iload_n hx hb dL_jam_2 rfl (lv_at hl 2 rfl) ?_
  refine kx_xV (na := 2) F (q := 0) (n := 0) (c_X3_jam l hlf G z0 ad nb sg hC x z hz) gL_jam_X3_jam rfl (by decide +kernel) ⟨Nat.le_of_ble_eq_true rfl, Nat.le_of_ble_eq_true rfl⟩ hW hS ⟨by decide, rfl⟩ rfl rfl (As := [.int x, .int z]) (rest := []) rfl hl.1 rfl (Nat.le_of_ble_eq_true rfl) dL_jam_3 ⟨by first | exact Nat.le_of_ble_eq_true rfl | omega, by first | exact Nat.le_of_ble_eq_true rfl | omega⟩ (fun E9 ce9 q9 H locs hp9 hW hS h7 h8 h9 => ?_) (fun r9 sg9 H locs hq hW hS => ?_)
  · have hp9 : cx_jam nb sg x z E9 := hp9
    obtain rfl := ce_jam hp9
    · refine kx_ct F htb [] ⟨0, 14, 15, 39⟩ [] rfl (by simp) (by decide) (by decide) (by decide +kernel) (by decide +kernel) h7 h8 h9 ?_
      refine lv_astore_n (lv' := [(3, .ref q9), (0, .ref (ad 0 0)), (1, .int x), (2, .int z)]) hx hb dL_jam_15 rfl hl (by decide) rfl (fun ls hl => ?_)
      refine lv_ldc (v := (-100005)) hx hb F.2.2.2.1 (hts (.constant RL 41 (-100005)) (by decide +kernel)) dL_jam_16 ?_
      refine vx_ret ?_
      exact kx_ri F hr hlocks hW hS (by first | exact Nat.le_of_ble_eq_true rfl | omega) (by first | exact Nat.le_of_ble_eq_true rfl | omega) (⟨_, rfl, Or.inr ⟨rfl, rfl, _, hp9⟩⟩) dL_jam_18
  have hq : cq_jam nb sg x z r9 sg9 := hq
  obtain ⟨v9, hv9⟩ := ci_jam hq
  subst hv9
  have h01 := cb_jam hC hq
  have hW : kx_Wd G z0 ad nb (sg9) H := by first | exact hW | (simp only [kx_up_s, kx_up_up] at hW; exact hW) | (simp only [kx_up_s, kx_up_up, upd_s] at hW; exact hW)
  refine W.eq (g2 := F0 m 6 ls [.int v9]) rfl ?_
  refine lv_if_eq (tgt := 13) hx hb dL_jam_6 (by decide) (fun c_6 => ?_) (fun c_6 => ?_)
  · have hq : cq_jam nb sg x z (some (.int 0)) sg9 := by rw [c_6] at hq; exact hq
    refine lv_iconst (v := 0) hx hb dL_jam_13 (by decide) ?_
    refine vx_ret ?_
    exact kx_ri F hr hlocks hW hS (by first | exact Nat.le_of_ble_eq_true rfl | omega) (by first | exact Nat.le_of_ble_eq_true rfl | omega) (⟨_, rfl, Or.inl hq⟩) dL_jam_14
  · have hq : cq_jam nb sg x z (some (.int 1)) sg9 := by rw [h01.resolve_left c_6] at hq; exact hq
    refine lv_iconst (v := 1) hx hb dL_jam_9 (by decide) ?_
    refine lv_goto (tgt := 14) hx hb dL_jam_10 (by decide) ?_
    refine vx_ret ?_
    exact kx_ri F hr hlocks hW hS (by first | exact Nat.le_of_ble_eq_true rfl | omega) (by first | exact Nat.le_of_ble_eq_true rfl | omega) (⟨_, rfl, Or.inl hq⟩) dL_jam_14

set_option maxHeartbeats 2000000 in
set_option maxRecDepth 100000 in
theorem c_L_of_scans (l : Launch) (hlf : l.stackTraces = false) (G : kx_G) (z0 : Nat) (ad : kx_A) (nb : Nat) (sg : kx_S) (hC : tw_CI nb sg) (x : Int32) : kx_MX l yL_of wsL_of 18 487 1 6 G z0 ad nb sg [.ref (ad 0 0), .int 0, .int x] (fun r sg' => ∃ a : Int32, r = some (.int a) ∧ ho (cq_scans nb sg x) (cx_scans nb sg x) sg a sg') (fun _ => False) := by
  refine vx_ofWH (hh := [(0, 162, 163, 39)]) (cc := cL_of) (maxL := 4) (ret := (some .int)) (by decide) rfl ?_
  intro p e s m args below meth c s₁ B hml hv
  obtain ⟨rfl, hW, hV⟩ := hv
  have hts := atoms_spec (ws := wsL_of) B.pre
  have F : kx_F p s m c cL_of 4 RL _ wsL_of G z0 := ⟨B.exec, B.bytes, hml, findClass_of_methodNamed B.named, hts, hV⟩
  have htb : c.exceptionTable.toList = tableOf [(0, 162, 163, 39)] := vx_table (x := yL_of) B (hts (.codeWith yL_of cL_of 4 (some .int) [(0, 162, 163, 39)]) List.mem_cons_self)
  have hx := B.exec; have hb := B.bytes; have hr := B.returns; have hlocks := B.notSynchronized
  have hS : va_S (kx_Ad z0) s.heap s.heap [] := va_S.rf
  have hl := lv_entry ([.ref (ad 0 0), .int 0, .int x]) (n := 4) (Nat.le_of_ble_eq_true rfl)
  rw [lg_entry_eq]
  generalize (lg_sl ([.ref (ad 0 0), .int 0, .int x]) ++ List.replicate (4 - (lg_sl ([.ref (ad 0 0), .int 0, .int x])).length) Slot.unset).toArray = ls at hl ⊢
  have hl : lv_has ls 4 [(0, .ref (ad 0 0)), (1, .int 0), (2, .int x)] := hl
  refine lv_iload_n hx hb dL_of_0 rfl (lv_at hl 1 rfl) ?_
  refine lv_if_ne (tgt := 12) hx hb dL_of_1 (by decide) (fun c_1 => ?_) (fun c_1 => ?_)
  · exact absurd c_1 (by decide)
  · refine lv_aload_n hx hb dL_of_4 rfl (lv_at hl 0 rfl) ?_
    refine lv_iload_n hx hb dL_of_5 rfl (lv_at hl 2 rfl) ?_
    refine kx_xV (na := 1) F (q := 0) (n := 0) (c_X3_scans l hlf G z0 ad nb sg hC x) gL_of_X3_scans rfl (by decide +kernel) ⟨Nat.le_of_ble_eq_true rfl, Nat.le_of_ble_eq_true rfl⟩ hW hS ⟨by decide, rfl⟩ rfl rfl (As := [.int x]) (rest := []) rfl hl.1 rfl (Nat.le_of_ble_eq_true rfl) dL_of_6 ⟨by first | exact Nat.le_of_ble_eq_true rfl | omega, by first | exact Nat.le_of_ble_eq_true rfl | omega⟩ (fun E9 ce9 q9 H locs hp9 hW hS h7 h8 h9 => ?_) (fun r9 sg9 H locs hq hW hS => ?_)
    · have hp9 : cx_scans nb sg x E9 := hp9
      obtain rfl := ce_scans hp9
      · refine kx_ct F htb [] ⟨0, 162, 163, 39⟩ [] rfl (by simp) (by decide) (by decide) (by decide +kernel) (by decide +kernel) h7 h8 h9 ?_
        refine lv_astore_n (lv' := [(3, .ref q9), (0, .ref (ad 0 0)), (1, .int 0), (2, .int x)]) hx hb dL_of_163 rfl hl (by decide) rfl (fun ls hl => ?_)
        refine lv_ldc (v := (-100005)) hx hb F.2.2.2.1 (hts (.constant RL 41 (-100005)) (by decide +kernel)) dL_of_164 ?_
        refine vx_ret ?_
        exact kx_ri F hr hlocks hW hS (by first | exact Nat.le_of_ble_eq_true rfl | omega) (by first | exact Nat.le_of_ble_eq_true rfl | omega) (⟨_, rfl, Or.inr ⟨rfl, rfl, _, hp9⟩⟩) dL_of_166
    have hq : cq_scans nb sg x r9 sg9 := hq
    obtain ⟨v9, hv9⟩ := ci_scans hq
    subst hv9
    have hW : kx_Wd G z0 ad nb (sg9) H := by first | exact hW | (simp only [kx_up_s, kx_up_up] at hW; exact hW) | (simp only [kx_up_s, kx_up_up, upd_s] at hW; exact hW)
    refine W.eq (g2 := F0 m 9 ls [.int v9]) rfl ?_
    refine lv_goto (tgt := 162) hx hb dL_of_9 (by decide) ?_
    refine vx_ret ?_
    exact kx_ri F hr hlocks hW hS (by first | exact Nat.le_of_ble_eq_true rfl | omega) (by first | exact Nat.le_of_ble_eq_true rfl | omega) (⟨_, rfl, Or.inl hq⟩) dL_of_162

set_option maxHeartbeats 2000000 in
set_option maxRecDepth 100000 in
theorem c_L_of_story (l : Launch) (hlf : l.stackTraces = false) (G : kx_G) (z0 : Nat) (ad : kx_A) (nb : Nat) (sg : kx_S) (hC : tw_CI nb sg) (x : Int32) : kx_MX l yL_of wsL_of 18 487 1 6 G z0 ad nb sg [.ref (ad 0 0), .int 1, .int x] (fun r sg' => ∃ a : Int32, r = some (.int a) ∧ ho (cq_story nb sg x) (cx_story nb sg x) sg a sg') (fun _ => False) := by
  refine vx_ofWH (hh := [(0, 162, 163, 39)]) (cc := cL_of) (maxL := 4) (ret := (some .int)) (by decide) rfl ?_
  intro p e s m args below meth c s₁ B hml hv
  obtain ⟨rfl, hW, hV⟩ := hv
  have hts := atoms_spec (ws := wsL_of) B.pre
  have F : kx_F p s m c cL_of 4 RL _ wsL_of G z0 := ⟨B.exec, B.bytes, hml, findClass_of_methodNamed B.named, hts, hV⟩
  have htb : c.exceptionTable.toList = tableOf [(0, 162, 163, 39)] := vx_table (x := yL_of) B (hts (.codeWith yL_of cL_of 4 (some .int) [(0, 162, 163, 39)]) List.mem_cons_self)
  have hx := B.exec; have hb := B.bytes; have hr := B.returns; have hlocks := B.notSynchronized
  have hS : va_S (kx_Ad z0) s.heap s.heap [] := va_S.rf
  have hl := lv_entry ([.ref (ad 0 0), .int 1, .int x]) (n := 4) (Nat.le_of_ble_eq_true rfl)
  rw [lg_entry_eq]
  generalize (lg_sl ([.ref (ad 0 0), .int 1, .int x]) ++ List.replicate (4 - (lg_sl ([.ref (ad 0 0), .int 1, .int x])).length) Slot.unset).toArray = ls at hl ⊢
  have hl : lv_has ls 4 [(0, .ref (ad 0 0)), (1, .int 1), (2, .int x)] := hl
  refine lv_iload_n hx hb dL_of_0 rfl (lv_at hl 1 rfl) ?_
  refine lv_if_ne (tgt := 12) hx hb dL_of_1 (by decide) (fun c_1 => ?_) (fun c_1 => ?_)
  · refine lv_iload_n hx hb dL_of_12 rfl (lv_at hl 1 rfl) ?_
    refine lv_iconst (v := 1) hx hb dL_of_13 (by decide) ?_
    refine lv_icmp_ne (tgt := 25) hx hb dL_of_14 (by decide) (fun c_14 => ?_) (fun c_14 => ?_)
    · exact absurd c_14 (by decide)
    · refine lv_aload_n hx hb dL_of_17 rfl (lv_at hl 0 rfl) ?_
      refine lv_iload_n hx hb dL_of_18 rfl (lv_at hl 2 rfl) ?_
      refine kx_xV (na := 1) F (q := 0) (n := 0) (c_X3_story l hlf G z0 ad nb sg hC x) gL_of_X3_story rfl (by decide +kernel) ⟨Nat.le_of_ble_eq_true rfl, Nat.le_of_ble_eq_true rfl⟩ hW hS ⟨by decide, rfl⟩ rfl rfl (As := [.int x]) (rest := []) rfl hl.1 rfl (Nat.le_of_ble_eq_true rfl) dL_of_19 ⟨by first | exact Nat.le_of_ble_eq_true rfl | omega, by first | exact Nat.le_of_ble_eq_true rfl | omega⟩ (fun E9 ce9 q9 H locs hp9 hW hS h7 h8 h9 => ?_) (fun r9 sg9 H locs hq hW hS => ?_)
      · have hp9 : cx_story nb sg x E9 := hp9
        obtain rfl := ce_story hp9
        · refine kx_ct F htb [] ⟨0, 162, 163, 39⟩ [] rfl (by simp) (by decide) (by decide) (by decide +kernel) (by decide +kernel) h7 h8 h9 ?_
          refine lv_astore_n (lv' := [(3, .ref q9), (0, .ref (ad 0 0)), (1, .int 1), (2, .int x)]) hx hb dL_of_163 rfl hl (by decide) rfl (fun ls hl => ?_)
          refine lv_ldc (v := (-100005)) hx hb F.2.2.2.1 (hts (.constant RL 41 (-100005)) (by decide +kernel)) dL_of_164 ?_
          refine vx_ret ?_
          exact kx_ri F hr hlocks hW hS (by first | exact Nat.le_of_ble_eq_true rfl | omega) (by first | exact Nat.le_of_ble_eq_true rfl | omega) (⟨_, rfl, Or.inr ⟨rfl, rfl, _, hp9⟩⟩) dL_of_166
      have hq : cq_story nb sg x r9 sg9 := hq
      obtain ⟨v9, hv9⟩ := ci_story hq
      subst hv9
      have hW : kx_Wd G z0 ad nb (sg9) H := by first | exact hW | (simp only [kx_up_s, kx_up_up] at hW; exact hW) | (simp only [kx_up_s, kx_up_up, upd_s] at hW; exact hW)
      refine W.eq (g2 := F0 m 22 ls [.int v9]) rfl ?_
      refine lv_goto (tgt := 162) hx hb dL_of_22 (by decide) ?_
      refine vx_ret ?_
      exact kx_ri F hr hlocks hW hS (by first | exact Nat.le_of_ble_eq_true rfl | omega) (by first | exact Nat.le_of_ble_eq_true rfl | omega) (⟨_, rfl, Or.inl hq⟩) dL_of_162
  · exact absurd c_1 (by decide)

set_option maxHeartbeats 2000000 in
set_option maxRecDepth 100000 in
theorem c_L_of_storyOfAll (l : Launch) (hlf : l.stackTraces = false) (G : kx_G) (z0 : Nat) (ad : kx_A) (nb : Nat) (sg : kx_S) (hC : tw_CI nb sg) (x : Int32) : kx_MX l yL_of wsL_of 18 487 1 6 G z0 ad nb sg [.ref (ad 0 0), .int 2, .int x] (fun r sg' => ∃ a : Int32, r = some (.int a) ∧ ho (cq_storyOfAll nb sg x) (cx_storyOfAll nb sg x) sg a sg') (fun _ => False) := by
  refine vx_ofWH (hh := [(0, 162, 163, 39)]) (cc := cL_of) (maxL := 4) (ret := (some .int)) (by decide) rfl ?_
  intro p e s m args below meth c s₁ B hml hv
  obtain ⟨rfl, hW, hV⟩ := hv
  have hts := atoms_spec (ws := wsL_of) B.pre
  have F : kx_F p s m c cL_of 4 RL _ wsL_of G z0 := ⟨B.exec, B.bytes, hml, findClass_of_methodNamed B.named, hts, hV⟩
  have htb : c.exceptionTable.toList = tableOf [(0, 162, 163, 39)] := vx_table (x := yL_of) B (hts (.codeWith yL_of cL_of 4 (some .int) [(0, 162, 163, 39)]) List.mem_cons_self)
  have hx := B.exec; have hb := B.bytes; have hr := B.returns; have hlocks := B.notSynchronized
  have hS : va_S (kx_Ad z0) s.heap s.heap [] := va_S.rf
  have hl := lv_entry ([.ref (ad 0 0), .int 2, .int x]) (n := 4) (Nat.le_of_ble_eq_true rfl)
  rw [lg_entry_eq]
  generalize (lg_sl ([.ref (ad 0 0), .int 2, .int x]) ++ List.replicate (4 - (lg_sl ([.ref (ad 0 0), .int 2, .int x])).length) Slot.unset).toArray = ls at hl ⊢
  have hl : lv_has ls 4 [(0, .ref (ad 0 0)), (1, .int 2), (2, .int x)] := hl
  refine lv_iload_n hx hb dL_of_0 rfl (lv_at hl 1 rfl) ?_
  refine lv_if_ne (tgt := 12) hx hb dL_of_1 (by decide) (fun c_1 => ?_) (fun c_1 => ?_)
  · refine lv_iload_n hx hb dL_of_12 rfl (lv_at hl 1 rfl) ?_
    refine lv_iconst (v := 1) hx hb dL_of_13 (by decide) ?_
    refine lv_icmp_ne (tgt := 25) hx hb dL_of_14 (by decide) (fun c_14 => ?_) (fun c_14 => ?_)
    · refine lv_iload_n hx hb dL_of_25 rfl (lv_at hl 1 rfl) ?_
      refine lv_iconst (v := 2) hx hb dL_of_26 (by decide) ?_
      refine lv_icmp_ne (tgt := 38) hx hb dL_of_27 (by decide) (fun c_27 => ?_) (fun c_27 => ?_)
      · exact absurd c_27 (by decide)
      · refine lv_aload_n hx hb dL_of_30 rfl (lv_at hl 0 rfl) ?_
        refine lv_iload_n hx hb dL_of_31 rfl (lv_at hl 2 rfl) ?_
        refine kx_xV (na := 1) F (q := 0) (n := 0) (c_X3_storyOfAll l hlf G z0 ad nb sg hC x) gL_of_X3_storyOfAll rfl (by decide +kernel) ⟨Nat.le_of_ble_eq_true rfl, Nat.le_of_ble_eq_true rfl⟩ hW hS ⟨by decide, rfl⟩ rfl rfl (As := [.int x]) (rest := []) rfl hl.1 rfl (Nat.le_of_ble_eq_true rfl) dL_of_32 ⟨by first | exact Nat.le_of_ble_eq_true rfl | omega, by first | exact Nat.le_of_ble_eq_true rfl | omega⟩ (fun E9 ce9 q9 H locs hp9 hW hS h7 h8 h9 => ?_) (fun r9 sg9 H locs hq hW hS => ?_)
        · have hp9 : cx_storyOfAll nb sg x E9 := hp9
          obtain rfl := ce_storyOfAll hp9
          · refine kx_ct F htb [] ⟨0, 162, 163, 39⟩ [] rfl (by simp) (by decide) (by decide) (by decide +kernel) (by decide +kernel) h7 h8 h9 ?_
            refine lv_astore_n (lv' := [(3, .ref q9), (0, .ref (ad 0 0)), (1, .int 2), (2, .int x)]) hx hb dL_of_163 rfl hl (by decide) rfl (fun ls hl => ?_)
            refine lv_ldc (v := (-100005)) hx hb F.2.2.2.1 (hts (.constant RL 41 (-100005)) (by decide +kernel)) dL_of_164 ?_
            refine vx_ret ?_
            exact kx_ri F hr hlocks hW hS (by first | exact Nat.le_of_ble_eq_true rfl | omega) (by first | exact Nat.le_of_ble_eq_true rfl | omega) (⟨_, rfl, Or.inr ⟨rfl, rfl, _, hp9⟩⟩) dL_of_166
        have hq : cq_storyOfAll nb sg x r9 sg9 := hq
        obtain ⟨v9, hv9⟩ := ci_storyOfAll hq
        subst hv9
        have hW : kx_Wd G z0 ad nb (sg9) H := by first | exact hW | (simp only [kx_up_s, kx_up_up] at hW; exact hW) | (simp only [kx_up_s, kx_up_up, upd_s] at hW; exact hW)
        refine W.eq (g2 := F0 m 35 ls [.int v9]) rfl ?_
        refine lv_goto (tgt := 162) hx hb dL_of_35 (by decide) ?_
        refine vx_ret ?_
        exact kx_ri F hr hlocks hW hS (by first | exact Nat.le_of_ble_eq_true rfl | omega) (by first | exact Nat.le_of_ble_eq_true rfl | omega) (⟨_, rfl, Or.inl hq⟩) dL_of_162
    · exact absurd c_14 (by decide)
  · exact absurd c_1 (by decide)

set_option maxHeartbeats 2000000 in
set_option maxRecDepth 100000 in
theorem c_L_of_hasFee (l : Launch) (hlf : l.stackTraces = false) (G : kx_G) (z0 : Nat) (ad : kx_A) (nb : Nat) (sg : kx_S) (hC : tw_CI nb sg) (x : Int32) : kx_MX l yL_of wsL_of 18 487 1 6 G z0 ad nb sg [.ref (ad 0 0), .int 3, .int x] (fun r sg' => ∃ a : Int32, r = some (.int a) ∧ ho (cq_hasFee nb sg x) (cx_hasFee nb sg x) sg a sg') (fun _ => False) := by
  refine vx_ofWH (hh := [(0, 162, 163, 39)]) (cc := cL_of) (maxL := 4) (ret := (some .int)) (by decide) rfl ?_
  intro p e s m args below meth c s₁ B hml hv
  obtain ⟨rfl, hW, hV⟩ := hv
  have hts := atoms_spec (ws := wsL_of) B.pre
  have F : kx_F p s m c cL_of 4 RL _ wsL_of G z0 := ⟨B.exec, B.bytes, hml, findClass_of_methodNamed B.named, hts, hV⟩
  have htb : c.exceptionTable.toList = tableOf [(0, 162, 163, 39)] := vx_table (x := yL_of) B (hts (.codeWith yL_of cL_of 4 (some .int) [(0, 162, 163, 39)]) List.mem_cons_self)
  have hx := B.exec; have hb := B.bytes; have hr := B.returns; have hlocks := B.notSynchronized
  have hS : va_S (kx_Ad z0) s.heap s.heap [] := va_S.rf
  have hl := lv_entry ([.ref (ad 0 0), .int 3, .int x]) (n := 4) (Nat.le_of_ble_eq_true rfl)
  rw [lg_entry_eq]
  generalize (lg_sl ([.ref (ad 0 0), .int 3, .int x]) ++ List.replicate (4 - (lg_sl ([.ref (ad 0 0), .int 3, .int x])).length) Slot.unset).toArray = ls at hl ⊢
  have hl : lv_has ls 4 [(0, .ref (ad 0 0)), (1, .int 3), (2, .int x)] := hl
  refine lv_iload_n hx hb dL_of_0 rfl (lv_at hl 1 rfl) ?_
  refine lv_if_ne (tgt := 12) hx hb dL_of_1 (by decide) (fun c_1 => ?_) (fun c_1 => ?_)
  · refine lv_iload_n hx hb dL_of_12 rfl (lv_at hl 1 rfl) ?_
    refine lv_iconst (v := 1) hx hb dL_of_13 (by decide) ?_
    refine lv_icmp_ne (tgt := 25) hx hb dL_of_14 (by decide) (fun c_14 => ?_) (fun c_14 => ?_)
    · refine lv_iload_n hx hb dL_of_25 rfl (lv_at hl 1 rfl) ?_
      refine lv_iconst (v := 2) hx hb dL_of_26 (by decide) ?_
      refine lv_icmp_ne (tgt := 38) hx hb dL_of_27 (by decide) (fun c_27 => ?_) (fun c_27 => ?_)
      · refine lv_iload_n hx hb dL_of_38 rfl (lv_at hl 1 rfl) ?_
        refine lv_iconst (v := 3) hx hb dL_of_39 (by decide) ?_
        refine lv_icmp_ne (tgt := 59) hx hb dL_of_40 (by decide) (fun c_40 => ?_) (fun c_40 => ?_)
        · exact absurd c_40 (by decide)
        · refine lv_aload_n hx hb dL_of_43 rfl (lv_at hl 0 rfl) ?_
          refine lv_iload_n hx hb dL_of_44 rfl (lv_at hl 2 rfl) ?_
          refine kx_xV (na := 1) F (q := 0) (n := 0) (c_X3_hasFee l hlf G z0 ad nb sg hC x) gL_of_X3_hasFee rfl (by decide +kernel) ⟨Nat.le_of_ble_eq_true rfl, Nat.le_of_ble_eq_true rfl⟩ hW hS ⟨by decide, rfl⟩ rfl rfl (As := [.int x]) (rest := []) rfl hl.1 rfl (Nat.le_of_ble_eq_true rfl) dL_of_45 ⟨by first | exact Nat.le_of_ble_eq_true rfl | omega, by first | exact Nat.le_of_ble_eq_true rfl | omega⟩ (fun E9 ce9 q9 H locs hp9 hW hS h7 h8 h9 => ?_) (fun r9 sg9 H locs hq hW hS => ?_)
          · have hp9 : cx_hasFee nb sg x E9 := hp9
            obtain rfl := ce_hasFee hp9
            · refine kx_ct F htb [] ⟨0, 162, 163, 39⟩ [] rfl (by simp) (by decide) (by decide) (by decide +kernel) (by decide +kernel) h7 h8 h9 ?_
              refine lv_astore_n (lv' := [(3, .ref q9), (0, .ref (ad 0 0)), (1, .int 3), (2, .int x)]) hx hb dL_of_163 rfl hl (by decide) rfl (fun ls hl => ?_)
              refine lv_ldc (v := (-100005)) hx hb F.2.2.2.1 (hts (.constant RL 41 (-100005)) (by decide +kernel)) dL_of_164 ?_
              refine vx_ret ?_
              exact kx_ri F hr hlocks hW hS (by first | exact Nat.le_of_ble_eq_true rfl | omega) (by first | exact Nat.le_of_ble_eq_true rfl | omega) (⟨_, rfl, Or.inr ⟨rfl, rfl, _, hp9⟩⟩) dL_of_166
          have hq : cq_hasFee nb sg x r9 sg9 := hq
          obtain ⟨v9, hv9⟩ := ci_hasFee hq
          subst hv9
          have h01 := cb_hasFee hC hq
          have hW : kx_Wd G z0 ad nb (sg9) H := by first | exact hW | (simp only [kx_up_s, kx_up_up] at hW; exact hW) | (simp only [kx_up_s, kx_up_up, upd_s] at hW; exact hW)
          refine W.eq (g2 := F0 m 48 ls [.int v9]) rfl ?_
          refine lv_if_eq (tgt := 55) hx hb dL_of_48 (by decide) (fun c_48 => ?_) (fun c_48 => ?_)
          · have hq : cq_hasFee nb sg x (some (.int 0)) sg9 := by rw [c_48] at hq; exact hq
            refine lv_iconst (v := 0) hx hb dL_of_55 (by decide) ?_
            refine lv_goto (tgt := 162) hx hb dL_of_56 (by decide) ?_
            refine vx_ret ?_
            exact kx_ri F hr hlocks hW hS (by first | exact Nat.le_of_ble_eq_true rfl | omega) (by first | exact Nat.le_of_ble_eq_true rfl | omega) (⟨_, rfl, Or.inl hq⟩) dL_of_162
          · have hq : cq_hasFee nb sg x (some (.int 1)) sg9 := by rw [h01.resolve_left c_48] at hq; exact hq
            refine lv_iconst (v := 1) hx hb dL_of_51 (by decide) ?_
            refine lv_goto (tgt := 162) hx hb dL_of_52 (by decide) ?_
            refine vx_ret ?_
            exact kx_ri F hr hlocks hW hS (by first | exact Nat.le_of_ble_eq_true rfl | omega) (by first | exact Nat.le_of_ble_eq_true rfl | omega) (⟨_, rfl, Or.inl hq⟩) dL_of_162
      · exact absurd c_27 (by decide)
    · exact absurd c_14 (by decide)
  · exact absurd c_1 (by decide)

set_option maxHeartbeats 2000000 in
set_option maxRecDepth 100000 in
theorem c_L_of_isInsured (l : Launch) (hlf : l.stackTraces = false) (G : kx_G) (z0 : Nat) (ad : kx_A) (nb : Nat) (sg : kx_S) (hC : tw_CI nb sg) (x : Int32) : kx_MX l yL_of wsL_of 18 487 1 6 G z0 ad nb sg [.ref (ad 0 0), .int 4, .int x] (fun r sg' => ∃ a : Int32, r = some (.int a) ∧ ho (cq_isInsured nb sg x) (cx_isInsured nb sg x) sg a sg') (fun _ => False) := by
  refine vx_ofWH (hh := [(0, 162, 163, 39)]) (cc := cL_of) (maxL := 4) (ret := (some .int)) (by decide) rfl ?_
  intro p e s m args below meth c s₁ B hml hv
  obtain ⟨rfl, hW, hV⟩ := hv
  have hts := atoms_spec (ws := wsL_of) B.pre
  have F : kx_F p s m c cL_of 4 RL _ wsL_of G z0 := ⟨B.exec, B.bytes, hml, findClass_of_methodNamed B.named, hts, hV⟩
  have htb : c.exceptionTable.toList = tableOf [(0, 162, 163, 39)] := vx_table (x := yL_of) B (hts (.codeWith yL_of cL_of 4 (some .int) [(0, 162, 163, 39)]) List.mem_cons_self)
  have hx := B.exec; have hb := B.bytes; have hr := B.returns; have hlocks := B.notSynchronized
  have hS : va_S (kx_Ad z0) s.heap s.heap [] := va_S.rf
  have hl := lv_entry ([.ref (ad 0 0), .int 4, .int x]) (n := 4) (Nat.le_of_ble_eq_true rfl)
  rw [lg_entry_eq]
  generalize (lg_sl ([.ref (ad 0 0), .int 4, .int x]) ++ List.replicate (4 - (lg_sl ([.ref (ad 0 0), .int 4, .int x])).length) Slot.unset).toArray = ls at hl ⊢
  have hl : lv_has ls 4 [(0, .ref (ad 0 0)), (1, .int 4), (2, .int x)] := hl
  refine lv_iload_n hx hb dL_of_0 rfl (lv_at hl 1 rfl) ?_
  refine lv_if_ne (tgt := 12) hx hb dL_of_1 (by decide) (fun c_1 => ?_) (fun c_1 => ?_)
  · refine lv_iload_n hx hb dL_of_12 rfl (lv_at hl 1 rfl) ?_
    refine lv_iconst (v := 1) hx hb dL_of_13 (by decide) ?_
    refine lv_icmp_ne (tgt := 25) hx hb dL_of_14 (by decide) (fun c_14 => ?_) (fun c_14 => ?_)
    · refine lv_iload_n hx hb dL_of_25 rfl (lv_at hl 1 rfl) ?_
      refine lv_iconst (v := 2) hx hb dL_of_26 (by decide) ?_
      refine lv_icmp_ne (tgt := 38) hx hb dL_of_27 (by decide) (fun c_27 => ?_) (fun c_27 => ?_)
      · refine lv_iload_n hx hb dL_of_38 rfl (lv_at hl 1 rfl) ?_
        refine lv_iconst (v := 3) hx hb dL_of_39 (by decide) ?_
        refine lv_icmp_ne (tgt := 59) hx hb dL_of_40 (by decide) (fun c_40 => ?_) (fun c_40 => ?_)
        · refine lv_iload_n hx hb dL_of_59 rfl (lv_at hl 1 rfl) ?_
          refine lv_iconst (v := 4) hx hb dL_of_60 (by decide) ?_
          refine lv_icmp_ne (tgt := 80) hx hb dL_of_61 (by decide) (fun c_61 => ?_) (fun c_61 => ?_)
          · exact absurd c_61 (by decide)
          · refine lv_aload_n hx hb dL_of_64 rfl (lv_at hl 0 rfl) ?_
            refine lv_iload_n hx hb dL_of_65 rfl (lv_at hl 2 rfl) ?_
            refine kx_xV (na := 1) F (q := 0) (n := 0) (c_X3_isInsured l hlf G z0 ad nb sg hC x) gL_of_X3_isInsured rfl (by decide +kernel) ⟨Nat.le_of_ble_eq_true rfl, Nat.le_of_ble_eq_true rfl⟩ hW hS ⟨by decide, rfl⟩ rfl rfl (As := [.int x]) (rest := []) rfl hl.1 rfl (Nat.le_of_ble_eq_true rfl) dL_of_66 ⟨by first | exact Nat.le_of_ble_eq_true rfl | omega, by first | exact Nat.le_of_ble_eq_true rfl | omega⟩ (fun E9 ce9 q9 H locs hp9 hW hS h7 h8 h9 => ?_) (fun r9 sg9 H locs hq hW hS => ?_)
            · have hp9 : cx_isInsured nb sg x E9 := hp9
              obtain rfl := ce_isInsured hp9
              · refine kx_ct F htb [] ⟨0, 162, 163, 39⟩ [] rfl (by simp) (by decide) (by decide) (by decide +kernel) (by decide +kernel) h7 h8 h9 ?_
                refine lv_astore_n (lv' := [(3, .ref q9), (0, .ref (ad 0 0)), (1, .int 4), (2, .int x)]) hx hb dL_of_163 rfl hl (by decide) rfl (fun ls hl => ?_)
                refine lv_ldc (v := (-100005)) hx hb F.2.2.2.1 (hts (.constant RL 41 (-100005)) (by decide +kernel)) dL_of_164 ?_
                refine vx_ret ?_
                exact kx_ri F hr hlocks hW hS (by first | exact Nat.le_of_ble_eq_true rfl | omega) (by first | exact Nat.le_of_ble_eq_true rfl | omega) (⟨_, rfl, Or.inr ⟨rfl, rfl, _, hp9⟩⟩) dL_of_166
            have hq : cq_isInsured nb sg x r9 sg9 := hq
            obtain ⟨v9, hv9⟩ := ci_isInsured hq
            subst hv9
            have h01 := cb_isInsured hC hq
            have hW : kx_Wd G z0 ad nb (sg9) H := by first | exact hW | (simp only [kx_up_s, kx_up_up] at hW; exact hW) | (simp only [kx_up_s, kx_up_up, upd_s] at hW; exact hW)
            refine W.eq (g2 := F0 m 69 ls [.int v9]) rfl ?_
            refine lv_if_eq (tgt := 76) hx hb dL_of_69 (by decide) (fun c_69 => ?_) (fun c_69 => ?_)
            · have hq : cq_isInsured nb sg x (some (.int 0)) sg9 := by rw [c_69] at hq; exact hq
              refine lv_iconst (v := 0) hx hb dL_of_76 (by decide) ?_
              refine lv_goto (tgt := 162) hx hb dL_of_77 (by decide) ?_
              refine vx_ret ?_
              exact kx_ri F hr hlocks hW hS (by first | exact Nat.le_of_ble_eq_true rfl | omega) (by first | exact Nat.le_of_ble_eq_true rfl | omega) (⟨_, rfl, Or.inl hq⟩) dL_of_162
            · have hq : cq_isInsured nb sg x (some (.int 1)) sg9 := by rw [h01.resolve_left c_69] at hq; exact hq
              refine lv_iconst (v := 1) hx hb dL_of_72 (by decide) ?_
              refine lv_goto (tgt := 162) hx hb dL_of_73 (by decide) ?_
              refine vx_ret ?_
              exact kx_ri F hr hlocks hW hS (by first | exact Nat.le_of_ble_eq_true rfl | omega) (by first | exact Nat.le_of_ble_eq_true rfl | omega) (⟨_, rfl, Or.inl hq⟩) dL_of_162
        · exact absurd c_40 (by decide)
      · exact absurd c_27 (by decide)
    · exact absurd c_14 (by decide)
  · exact absurd c_1 (by decide)

set_option maxHeartbeats 2000000 in
set_option maxRecDepth 100000 in
theorem c_L_of_fine (l : Launch) (hlf : l.stackTraces = false) (G : kx_G) (z0 : Nat) (ad : kx_A) (nb : Nat) (sg : kx_S) (hC : tw_CI nb sg) (x : Int32) : kx_MX l yL_of wsL_of 18 487 1 6 G z0 ad nb sg [.ref (ad 0 0), .int 5, .int x] (fun r sg' => ∃ a : Int32, r = some (.int a) ∧ ho (cq_fine nb sg x) (cx_fine nb sg x) sg a sg') (fun _ => False) := by
  refine vx_ofWH (hh := [(0, 162, 163, 39)]) (cc := cL_of) (maxL := 4) (ret := (some .int)) (by decide) rfl ?_
  intro p e s m args below meth c s₁ B hml hv
  obtain ⟨rfl, hW, hV⟩ := hv
  have hts := atoms_spec (ws := wsL_of) B.pre
  have F : kx_F p s m c cL_of 4 RL _ wsL_of G z0 := ⟨B.exec, B.bytes, hml, findClass_of_methodNamed B.named, hts, hV⟩
  have htb : c.exceptionTable.toList = tableOf [(0, 162, 163, 39)] := vx_table (x := yL_of) B (hts (.codeWith yL_of cL_of 4 (some .int) [(0, 162, 163, 39)]) List.mem_cons_self)
  have hx := B.exec; have hb := B.bytes; have hr := B.returns; have hlocks := B.notSynchronized
  have hS : va_S (kx_Ad z0) s.heap s.heap [] := va_S.rf
  have hl := lv_entry ([.ref (ad 0 0), .int 5, .int x]) (n := 4) (Nat.le_of_ble_eq_true rfl)
  rw [lg_entry_eq]
  generalize (lg_sl ([.ref (ad 0 0), .int 5, .int x]) ++ List.replicate (4 - (lg_sl ([.ref (ad 0 0), .int 5, .int x])).length) Slot.unset).toArray = ls at hl ⊢
  have hl : lv_has ls 4 [(0, .ref (ad 0 0)), (1, .int 5), (2, .int x)] := hl
  refine lv_iload_n hx hb dL_of_0 rfl (lv_at hl 1 rfl) ?_
  refine lv_if_ne (tgt := 12) hx hb dL_of_1 (by decide) (fun c_1 => ?_) (fun c_1 => ?_)
  · refine lv_iload_n hx hb dL_of_12 rfl (lv_at hl 1 rfl) ?_
    refine lv_iconst (v := 1) hx hb dL_of_13 (by decide) ?_
    refine lv_icmp_ne (tgt := 25) hx hb dL_of_14 (by decide) (fun c_14 => ?_) (fun c_14 => ?_)
    · refine lv_iload_n hx hb dL_of_25 rfl (lv_at hl 1 rfl) ?_
      refine lv_iconst (v := 2) hx hb dL_of_26 (by decide) ?_
      refine lv_icmp_ne (tgt := 38) hx hb dL_of_27 (by decide) (fun c_27 => ?_) (fun c_27 => ?_)
      · refine lv_iload_n hx hb dL_of_38 rfl (lv_at hl 1 rfl) ?_
        refine lv_iconst (v := 3) hx hb dL_of_39 (by decide) ?_
        refine lv_icmp_ne (tgt := 59) hx hb dL_of_40 (by decide) (fun c_40 => ?_) (fun c_40 => ?_)
        · refine lv_iload_n hx hb dL_of_59 rfl (lv_at hl 1 rfl) ?_
          refine lv_iconst (v := 4) hx hb dL_of_60 (by decide) ?_
          refine lv_icmp_ne (tgt := 80) hx hb dL_of_61 (by decide) (fun c_61 => ?_) (fun c_61 => ?_)
          · refine lv_iload_n hx hb dL_of_80 rfl (lv_at hl 1 rfl) ?_
            refine lv_iconst (v := 5) hx hb dL_of_81 (by decide) ?_
            refine lv_icmp_ne (tgt := 93) hx hb dL_of_82 (by decide) (fun c_82 => ?_) (fun c_82 => ?_)
            · exact absurd c_82 (by decide)
            · refine lv_aload_n hx hb dL_of_85 rfl (lv_at hl 0 rfl) ?_
              refine lv_iload_n hx hb dL_of_86 rfl (lv_at hl 2 rfl) ?_
              refine kx_xV (na := 1) F (q := 0) (n := 0) (c_X3_fine l hlf G z0 ad nb sg hC x) gL_of_X3_fine rfl (by decide +kernel) ⟨Nat.le_of_ble_eq_true rfl, Nat.le_of_ble_eq_true rfl⟩ hW hS ⟨by decide, rfl⟩ rfl rfl (As := [.int x]) (rest := []) rfl hl.1 rfl (Nat.le_of_ble_eq_true rfl) dL_of_87 ⟨by first | exact Nat.le_of_ble_eq_true rfl | omega, by first | exact Nat.le_of_ble_eq_true rfl | omega⟩ (fun E9 ce9 q9 H locs hp9 hW hS h7 h8 h9 => ?_) (fun r9 sg9 H locs hq hW hS => ?_)
              · have hp9 : cx_fine nb sg x E9 := hp9
                obtain rfl := ce_fine hp9
                · refine kx_ct F htb [] ⟨0, 162, 163, 39⟩ [] rfl (by simp) (by decide) (by decide) (by decide +kernel) (by decide +kernel) h7 h8 h9 ?_
                  refine lv_astore_n (lv' := [(3, .ref q9), (0, .ref (ad 0 0)), (1, .int 5), (2, .int x)]) hx hb dL_of_163 rfl hl (by decide) rfl (fun ls hl => ?_)
                  refine lv_ldc (v := (-100005)) hx hb F.2.2.2.1 (hts (.constant RL 41 (-100005)) (by decide +kernel)) dL_of_164 ?_
                  refine vx_ret ?_
                  exact kx_ri F hr hlocks hW hS (by first | exact Nat.le_of_ble_eq_true rfl | omega) (by first | exact Nat.le_of_ble_eq_true rfl | omega) (⟨_, rfl, Or.inr ⟨rfl, rfl, _, hp9⟩⟩) dL_of_166
              have hq : cq_fine nb sg x r9 sg9 := hq
              obtain ⟨v9, hv9⟩ := ci_fine hq
              subst hv9
              have hW : kx_Wd G z0 ad nb (sg9) H := by first | exact hW | (simp only [kx_up_s, kx_up_up] at hW; exact hW) | (simp only [kx_up_s, kx_up_up, upd_s] at hW; exact hW)
              refine W.eq (g2 := F0 m 90 ls [.int v9]) rfl ?_
              refine lv_goto (tgt := 162) hx hb dL_of_90 (by decide) ?_
              refine vx_ret ?_
              exact kx_ri F hr hlocks hW hS (by first | exact Nat.le_of_ble_eq_true rfl | omega) (by first | exact Nat.le_of_ble_eq_true rfl | omega) (⟨_, rfl, Or.inl hq⟩) dL_of_162
          · exact absurd c_61 (by decide)
        · exact absurd c_40 (by decide)
      · exact absurd c_27 (by decide)
    · exact absurd c_14 (by decide)
  · exact absurd c_1 (by decide)

set_option maxHeartbeats 2000000 in
set_option maxRecDepth 100000 in
theorem c_L_of_isJammed (l : Launch) (hlf : l.stackTraces = false) (G : kx_G) (z0 : Nat) (ad : kx_A) (nb : Nat) (sg : kx_S) (hC : tw_CI nb sg) (x : Int32) : kx_MX l yL_of wsL_of 18 487 1 6 G z0 ad nb sg [.ref (ad 0 0), .int 6, .int x] (fun r sg' => ∃ a : Int32, r = some (.int a) ∧ ho (cq_isJammed nb sg x) (cx_isJammed nb sg x) sg a sg') (fun _ => False) := by
  refine vx_ofWH (hh := [(0, 162, 163, 39)]) (cc := cL_of) (maxL := 4) (ret := (some .int)) (by decide) rfl ?_
  intro p e s m args below meth c s₁ B hml hv
  obtain ⟨rfl, hW, hV⟩ := hv
  have hts := atoms_spec (ws := wsL_of) B.pre
  have F : kx_F p s m c cL_of 4 RL _ wsL_of G z0 := ⟨B.exec, B.bytes, hml, findClass_of_methodNamed B.named, hts, hV⟩
  have htb : c.exceptionTable.toList = tableOf [(0, 162, 163, 39)] := vx_table (x := yL_of) B (hts (.codeWith yL_of cL_of 4 (some .int) [(0, 162, 163, 39)]) List.mem_cons_self)
  have hx := B.exec; have hb := B.bytes; have hr := B.returns; have hlocks := B.notSynchronized
  have hS : va_S (kx_Ad z0) s.heap s.heap [] := va_S.rf
  have hl := lv_entry ([.ref (ad 0 0), .int 6, .int x]) (n := 4) (Nat.le_of_ble_eq_true rfl)
  rw [lg_entry_eq]
  generalize (lg_sl ([.ref (ad 0 0), .int 6, .int x]) ++ List.replicate (4 - (lg_sl ([.ref (ad 0 0), .int 6, .int x])).length) Slot.unset).toArray = ls at hl ⊢
  have hl : lv_has ls 4 [(0, .ref (ad 0 0)), (1, .int 6), (2, .int x)] := hl
  refine lv_iload_n hx hb dL_of_0 rfl (lv_at hl 1 rfl) ?_
  refine lv_if_ne (tgt := 12) hx hb dL_of_1 (by decide) (fun c_1 => ?_) (fun c_1 => ?_)
  · refine lv_iload_n hx hb dL_of_12 rfl (lv_at hl 1 rfl) ?_
    refine lv_iconst (v := 1) hx hb dL_of_13 (by decide) ?_
    refine lv_icmp_ne (tgt := 25) hx hb dL_of_14 (by decide) (fun c_14 => ?_) (fun c_14 => ?_)
    · refine lv_iload_n hx hb dL_of_25 rfl (lv_at hl 1 rfl) ?_
      refine lv_iconst (v := 2) hx hb dL_of_26 (by decide) ?_
      refine lv_icmp_ne (tgt := 38) hx hb dL_of_27 (by decide) (fun c_27 => ?_) (fun c_27 => ?_)
      · refine lv_iload_n hx hb dL_of_38 rfl (lv_at hl 1 rfl) ?_
        refine lv_iconst (v := 3) hx hb dL_of_39 (by decide) ?_
        refine lv_icmp_ne (tgt := 59) hx hb dL_of_40 (by decide) (fun c_40 => ?_) (fun c_40 => ?_)
        · refine lv_iload_n hx hb dL_of_59 rfl (lv_at hl 1 rfl) ?_
          refine lv_iconst (v := 4) hx hb dL_of_60 (by decide) ?_
          refine lv_icmp_ne (tgt := 80) hx hb dL_of_61 (by decide) (fun c_61 => ?_) (fun c_61 => ?_)
          · refine lv_iload_n hx hb dL_of_80 rfl (lv_at hl 1 rfl) ?_
            refine lv_iconst (v := 5) hx hb dL_of_81 (by decide) ?_
            refine lv_icmp_ne (tgt := 93) hx hb dL_of_82 (by decide) (fun c_82 => ?_) (fun c_82 => ?_)
            · refine lv_iload_n hx hb dL_of_93 rfl (lv_at hl 1 rfl) ?_
              refine lv_bipush (v := 6) hx hb dL_of_94 (by decide) ?_
              refine lv_icmp_ne (tgt := 115) hx hb dL_of_96 (by decide) (fun c_96 => ?_) (fun c_96 => ?_)
              · exact absurd c_96 (by decide)
              · refine lv_aload_n hx hb dL_of_99 rfl (lv_at hl 0 rfl) ?_
                refine lv_iload_n hx hb dL_of_100 rfl (lv_at hl 2 rfl) ?_
                refine kx_xV (na := 1) F (q := 0) (n := 0) (c_X3_isJammed l hlf G z0 ad nb sg hC x) gL_of_X3_isJammed rfl (by decide +kernel) ⟨Nat.le_of_ble_eq_true rfl, Nat.le_of_ble_eq_true rfl⟩ hW hS ⟨by decide, rfl⟩ rfl rfl (As := [.int x]) (rest := []) rfl hl.1 rfl (Nat.le_of_ble_eq_true rfl) dL_of_101 ⟨by first | exact Nat.le_of_ble_eq_true rfl | omega, by first | exact Nat.le_of_ble_eq_true rfl | omega⟩ (fun E9 ce9 q9 H locs hp9 hW hS h7 h8 h9 => ?_) (fun r9 sg9 H locs hq hW hS => ?_)
                · have hp9 : cx_isJammed nb sg x E9 := hp9
                  obtain rfl := ce_isJammed hp9
                  · refine kx_ct F htb [] ⟨0, 162, 163, 39⟩ [] rfl (by simp) (by decide) (by decide) (by decide +kernel) (by decide +kernel) h7 h8 h9 ?_
                    refine lv_astore_n (lv' := [(3, .ref q9), (0, .ref (ad 0 0)), (1, .int 6), (2, .int x)]) hx hb dL_of_163 rfl hl (by decide) rfl (fun ls hl => ?_)
                    refine lv_ldc (v := (-100005)) hx hb F.2.2.2.1 (hts (.constant RL 41 (-100005)) (by decide +kernel)) dL_of_164 ?_
                    refine vx_ret ?_
                    exact kx_ri F hr hlocks hW hS (by first | exact Nat.le_of_ble_eq_true rfl | omega) (by first | exact Nat.le_of_ble_eq_true rfl | omega) (⟨_, rfl, Or.inr ⟨rfl, rfl, _, hp9⟩⟩) dL_of_166
                have hq : cq_isJammed nb sg x r9 sg9 := hq
                obtain ⟨v9, hv9⟩ := ci_isJammed hq
                subst hv9
                have h01 := cb_isJammed hC hq
                have hW : kx_Wd G z0 ad nb (sg9) H := by first | exact hW | (simp only [kx_up_s, kx_up_up] at hW; exact hW) | (simp only [kx_up_s, kx_up_up, upd_s] at hW; exact hW)
                refine W.eq (g2 := F0 m 104 ls [.int v9]) rfl ?_
                refine lv_if_eq (tgt := 111) hx hb dL_of_104 (by decide) (fun c_104 => ?_) (fun c_104 => ?_)
                · have hq : cq_isJammed nb sg x (some (.int 0)) sg9 := by rw [c_104] at hq; exact hq
                  refine lv_iconst (v := 0) hx hb dL_of_111 (by decide) ?_
                  refine lv_goto (tgt := 162) hx hb dL_of_112 (by decide) ?_
                  refine vx_ret ?_
                  exact kx_ri F hr hlocks hW hS (by first | exact Nat.le_of_ble_eq_true rfl | omega) (by first | exact Nat.le_of_ble_eq_true rfl | omega) (⟨_, rfl, Or.inl hq⟩) dL_of_162
                · have hq : cq_isJammed nb sg x (some (.int 1)) sg9 := by rw [h01.resolve_left c_104] at hq; exact hq
                  refine lv_iconst (v := 1) hx hb dL_of_107 (by decide) ?_
                  refine lv_goto (tgt := 162) hx hb dL_of_108 (by decide) ?_
                  refine vx_ret ?_
                  exact kx_ri F hr hlocks hW hS (by first | exact Nat.le_of_ble_eq_true rfl | omega) (by first | exact Nat.le_of_ble_eq_true rfl | omega) (⟨_, rfl, Or.inl hq⟩) dL_of_162
            · exact absurd c_82 (by decide)
          · exact absurd c_61 (by decide)
        · exact absurd c_40 (by decide)
      · exact absurd c_27 (by decide)
    · exact absurd c_14 (by decide)
  · exact absurd c_1 (by decide)

set_option maxHeartbeats 2000000 in
set_option maxRecDepth 100000 in
theorem c_L_of_keptFor (l : Launch) (hlf : l.stackTraces = false) (G : kx_G) (z0 : Nat) (ad : kx_A) (nb : Nat) (sg : kx_S) (hC : tw_CI nb sg) (x : Int32) : kx_MX l yL_of wsL_of 18 487 1 6 G z0 ad nb sg [.ref (ad 0 0), .int 7, .int x] (fun r sg' => ∃ a : Int32, r = some (.int a) ∧ ho (cq_keptFor nb sg x) (cx_keptFor nb sg x) sg a sg') (fun _ => False) := by
  refine vx_ofWH (hh := [(0, 162, 163, 39)]) (cc := cL_of) (maxL := 4) (ret := (some .int)) (by decide) rfl ?_
  intro p e s m args below meth c s₁ B hml hv
  obtain ⟨rfl, hW, hV⟩ := hv
  have hts := atoms_spec (ws := wsL_of) B.pre
  have F : kx_F p s m c cL_of 4 RL _ wsL_of G z0 := ⟨B.exec, B.bytes, hml, findClass_of_methodNamed B.named, hts, hV⟩
  have htb : c.exceptionTable.toList = tableOf [(0, 162, 163, 39)] := vx_table (x := yL_of) B (hts (.codeWith yL_of cL_of 4 (some .int) [(0, 162, 163, 39)]) List.mem_cons_self)
  have hx := B.exec; have hb := B.bytes; have hr := B.returns; have hlocks := B.notSynchronized
  have hS : va_S (kx_Ad z0) s.heap s.heap [] := va_S.rf
  have hl := lv_entry ([.ref (ad 0 0), .int 7, .int x]) (n := 4) (Nat.le_of_ble_eq_true rfl)
  rw [lg_entry_eq]
  generalize (lg_sl ([.ref (ad 0 0), .int 7, .int x]) ++ List.replicate (4 - (lg_sl ([.ref (ad 0 0), .int 7, .int x])).length) Slot.unset).toArray = ls at hl ⊢
  have hl : lv_has ls 4 [(0, .ref (ad 0 0)), (1, .int 7), (2, .int x)] := hl
  refine lv_iload_n hx hb dL_of_0 rfl (lv_at hl 1 rfl) ?_
  refine lv_if_ne (tgt := 12) hx hb dL_of_1 (by decide) (fun c_1 => ?_) (fun c_1 => ?_)
  · refine lv_iload_n hx hb dL_of_12 rfl (lv_at hl 1 rfl) ?_
    refine lv_iconst (v := 1) hx hb dL_of_13 (by decide) ?_
    refine lv_icmp_ne (tgt := 25) hx hb dL_of_14 (by decide) (fun c_14 => ?_) (fun c_14 => ?_)
    · refine lv_iload_n hx hb dL_of_25 rfl (lv_at hl 1 rfl) ?_
      refine lv_iconst (v := 2) hx hb dL_of_26 (by decide) ?_
      refine lv_icmp_ne (tgt := 38) hx hb dL_of_27 (by decide) (fun c_27 => ?_) (fun c_27 => ?_)
      · refine lv_iload_n hx hb dL_of_38 rfl (lv_at hl 1 rfl) ?_
        refine lv_iconst (v := 3) hx hb dL_of_39 (by decide) ?_
        refine lv_icmp_ne (tgt := 59) hx hb dL_of_40 (by decide) (fun c_40 => ?_) (fun c_40 => ?_)
        · refine lv_iload_n hx hb dL_of_59 rfl (lv_at hl 1 rfl) ?_
          refine lv_iconst (v := 4) hx hb dL_of_60 (by decide) ?_
          refine lv_icmp_ne (tgt := 80) hx hb dL_of_61 (by decide) (fun c_61 => ?_) (fun c_61 => ?_)
          · refine lv_iload_n hx hb dL_of_80 rfl (lv_at hl 1 rfl) ?_
            refine lv_iconst (v := 5) hx hb dL_of_81 (by decide) ?_
            refine lv_icmp_ne (tgt := 93) hx hb dL_of_82 (by decide) (fun c_82 => ?_) (fun c_82 => ?_)
            · refine lv_iload_n hx hb dL_of_93 rfl (lv_at hl 1 rfl) ?_
              refine lv_bipush (v := 6) hx hb dL_of_94 (by decide) ?_
              refine lv_icmp_ne (tgt := 115) hx hb dL_of_96 (by decide) (fun c_96 => ?_) (fun c_96 => ?_)
              · refine lv_iload_n hx hb dL_of_115 rfl (lv_at hl 1 rfl) ?_
                refine lv_bipush (v := 7) hx hb dL_of_116 (by decide) ?_
                refine lv_icmp_ne (tgt := 129) hx hb dL_of_118 (by decide) (fun c_118 => ?_) (fun c_118 => ?_)
                · exact absurd c_118 (by decide)
                · refine lv_aload_n hx hb dL_of_121 rfl (lv_at hl 0 rfl) ?_
                  refine lv_iload_n hx hb dL_of_122 rfl (lv_at hl 2 rfl) ?_
                  refine kx_xV (na := 1) F (q := 0) (n := 0) (c_X3_keptFor l hlf G z0 ad nb sg hC x) gL_of_X3_keptFor rfl (by decide +kernel) ⟨Nat.le_of_ble_eq_true rfl, Nat.le_of_ble_eq_true rfl⟩ hW hS ⟨by decide, rfl⟩ rfl rfl (As := [.int x]) (rest := []) rfl hl.1 rfl (Nat.le_of_ble_eq_true rfl) dL_of_123 ⟨by first | exact Nat.le_of_ble_eq_true rfl | omega, by first | exact Nat.le_of_ble_eq_true rfl | omega⟩ (fun E9 ce9 q9 H locs hp9 hW hS h7 h8 h9 => ?_) (fun r9 sg9 H locs hq hW hS => ?_)
                  · have hp9 : cx_keptFor nb sg x E9 := hp9
                    obtain rfl := ce_keptFor hp9
                    · refine kx_ct F htb [] ⟨0, 162, 163, 39⟩ [] rfl (by simp) (by decide) (by decide) (by decide +kernel) (by decide +kernel) h7 h8 h9 ?_
                      refine lv_astore_n (lv' := [(3, .ref q9), (0, .ref (ad 0 0)), (1, .int 7), (2, .int x)]) hx hb dL_of_163 rfl hl (by decide) rfl (fun ls hl => ?_)
                      refine lv_ldc (v := (-100005)) hx hb F.2.2.2.1 (hts (.constant RL 41 (-100005)) (by decide +kernel)) dL_of_164 ?_
                      refine vx_ret ?_
                      exact kx_ri F hr hlocks hW hS (by first | exact Nat.le_of_ble_eq_true rfl | omega) (by first | exact Nat.le_of_ble_eq_true rfl | omega) (⟨_, rfl, Or.inr ⟨rfl, rfl, _, hp9⟩⟩) dL_of_166
                  have hq : cq_keptFor nb sg x r9 sg9 := hq
                  obtain ⟨v9, hv9⟩ := ci_keptFor hq
                  subst hv9
                  have hW : kx_Wd G z0 ad nb (sg9) H := by first | exact hW | (simp only [kx_up_s, kx_up_up] at hW; exact hW) | (simp only [kx_up_s, kx_up_up, upd_s] at hW; exact hW)
                  refine W.eq (g2 := F0 m 126 ls [.int v9]) rfl ?_
                  refine lv_goto (tgt := 162) hx hb dL_of_126 (by decide) ?_
                  refine vx_ret ?_
                  exact kx_ri F hr hlocks hW hS (by first | exact Nat.le_of_ble_eq_true rfl | omega) (by first | exact Nat.le_of_ble_eq_true rfl | omega) (⟨_, rfl, Or.inl hq⟩) dL_of_162
              · exact absurd c_96 (by decide)
            · exact absurd c_82 (by decide)
          · exact absurd c_61 (by decide)
        · exact absurd c_40 (by decide)
      · exact absurd c_27 (by decide)
    · exact absurd c_14 (by decide)
  · exact absurd c_1 (by decide)

set_option maxHeartbeats 2000000 in
set_option maxRecDepth 100000 in
theorem c_L_of_placeOf (l : Launch) (hlf : l.stackTraces = false) (G : kx_G) (z0 : Nat) (ad : kx_A) (nb : Nat) (sg : kx_S) (hC : tw_CI nb sg) (x : Int32) : kx_MX l yL_of wsL_of 18 487 1 6 G z0 ad nb sg [.ref (ad 0 0), .int 8, .int x] (fun r sg' => ∃ a : Int32, r = some (.int a) ∧ ho (cq_placeOf nb sg x) (cx_placeOf nb sg x) sg a sg') (fun _ => False) := by
  refine vx_ofWH (hh := [(0, 162, 163, 39)]) (cc := cL_of) (maxL := 4) (ret := (some .int)) (by decide) rfl ?_
  intro p e s m args below meth c s₁ B hml hv
  obtain ⟨rfl, hW, hV⟩ := hv
  have hts := atoms_spec (ws := wsL_of) B.pre
  have F : kx_F p s m c cL_of 4 RL _ wsL_of G z0 := ⟨B.exec, B.bytes, hml, findClass_of_methodNamed B.named, hts, hV⟩
  have htb : c.exceptionTable.toList = tableOf [(0, 162, 163, 39)] := vx_table (x := yL_of) B (hts (.codeWith yL_of cL_of 4 (some .int) [(0, 162, 163, 39)]) List.mem_cons_self)
  have hx := B.exec; have hb := B.bytes; have hr := B.returns; have hlocks := B.notSynchronized
  have hS : va_S (kx_Ad z0) s.heap s.heap [] := va_S.rf
  have hl := lv_entry ([.ref (ad 0 0), .int 8, .int x]) (n := 4) (Nat.le_of_ble_eq_true rfl)
  rw [lg_entry_eq]
  generalize (lg_sl ([.ref (ad 0 0), .int 8, .int x]) ++ List.replicate (4 - (lg_sl ([.ref (ad 0 0), .int 8, .int x])).length) Slot.unset).toArray = ls at hl ⊢
  have hl : lv_has ls 4 [(0, .ref (ad 0 0)), (1, .int 8), (2, .int x)] := hl
  refine lv_iload_n hx hb dL_of_0 rfl (lv_at hl 1 rfl) ?_
  refine lv_if_ne (tgt := 12) hx hb dL_of_1 (by decide) (fun c_1 => ?_) (fun c_1 => ?_)
  · refine lv_iload_n hx hb dL_of_12 rfl (lv_at hl 1 rfl) ?_
    refine lv_iconst (v := 1) hx hb dL_of_13 (by decide) ?_
    refine lv_icmp_ne (tgt := 25) hx hb dL_of_14 (by decide) (fun c_14 => ?_) (fun c_14 => ?_)
    · refine lv_iload_n hx hb dL_of_25 rfl (lv_at hl 1 rfl) ?_
      refine lv_iconst (v := 2) hx hb dL_of_26 (by decide) ?_
      refine lv_icmp_ne (tgt := 38) hx hb dL_of_27 (by decide) (fun c_27 => ?_) (fun c_27 => ?_)
      · refine lv_iload_n hx hb dL_of_38 rfl (lv_at hl 1 rfl) ?_
        refine lv_iconst (v := 3) hx hb dL_of_39 (by decide) ?_
        refine lv_icmp_ne (tgt := 59) hx hb dL_of_40 (by decide) (fun c_40 => ?_) (fun c_40 => ?_)
        · refine lv_iload_n hx hb dL_of_59 rfl (lv_at hl 1 rfl) ?_
          refine lv_iconst (v := 4) hx hb dL_of_60 (by decide) ?_
          refine lv_icmp_ne (tgt := 80) hx hb dL_of_61 (by decide) (fun c_61 => ?_) (fun c_61 => ?_)
          · refine lv_iload_n hx hb dL_of_80 rfl (lv_at hl 1 rfl) ?_
            refine lv_iconst (v := 5) hx hb dL_of_81 (by decide) ?_
            refine lv_icmp_ne (tgt := 93) hx hb dL_of_82 (by decide) (fun c_82 => ?_) (fun c_82 => ?_)
            · refine lv_iload_n hx hb dL_of_93 rfl (lv_at hl 1 rfl) ?_
              refine lv_bipush (v := 6) hx hb dL_of_94 (by decide) ?_
              refine lv_icmp_ne (tgt := 115) hx hb dL_of_96 (by decide) (fun c_96 => ?_) (fun c_96 => ?_)
              · refine lv_iload_n hx hb dL_of_115 rfl (lv_at hl 1 rfl) ?_
                refine lv_bipush (v := 7) hx hb dL_of_116 (by decide) ?_
                refine lv_icmp_ne (tgt := 129) hx hb dL_of_118 (by decide) (fun c_118 => ?_) (fun c_118 => ?_)
                · refine lv_iload_n hx hb dL_of_129 rfl (lv_at hl 1 rfl) ?_
                  refine lv_bipush (v := 8) hx hb dL_of_130 (by decide) ?_
                  refine lv_icmp_ne (tgt := 143) hx hb dL_of_132 (by decide) (fun c_132 => ?_) (fun c_132 => ?_)
                  · exact absurd c_132 (by decide)
                  · refine lv_aload_n hx hb dL_of_135 rfl (lv_at hl 0 rfl) ?_
                    refine lv_iload_n hx hb dL_of_136 rfl (lv_at hl 2 rfl) ?_
                    refine kx_xV (na := 1) F (q := 0) (n := 0) (c_X3_placeOf l hlf G z0 ad nb sg hC x) gL_of_X3_placeOf rfl (by decide +kernel) ⟨Nat.le_of_ble_eq_true rfl, Nat.le_of_ble_eq_true rfl⟩ hW hS ⟨by decide, rfl⟩ rfl rfl (As := [.int x]) (rest := []) rfl hl.1 rfl (Nat.le_of_ble_eq_true rfl) dL_of_137 ⟨by first | exact Nat.le_of_ble_eq_true rfl | omega, by first | exact Nat.le_of_ble_eq_true rfl | omega⟩ (fun E9 ce9 q9 H locs hp9 hW hS h7 h8 h9 => ?_) (fun r9 sg9 H locs hq hW hS => ?_)
                    · have hp9 : cx_placeOf nb sg x E9 := hp9
                      obtain rfl := ce_placeOf hp9
                      · refine kx_ct F htb [] ⟨0, 162, 163, 39⟩ [] rfl (by simp) (by decide) (by decide) (by decide +kernel) (by decide +kernel) h7 h8 h9 ?_
                        refine lv_astore_n (lv' := [(3, .ref q9), (0, .ref (ad 0 0)), (1, .int 8), (2, .int x)]) hx hb dL_of_163 rfl hl (by decide) rfl (fun ls hl => ?_)
                        refine lv_ldc (v := (-100005)) hx hb F.2.2.2.1 (hts (.constant RL 41 (-100005)) (by decide +kernel)) dL_of_164 ?_
                        refine vx_ret ?_
                        exact kx_ri F hr hlocks hW hS (by first | exact Nat.le_of_ble_eq_true rfl | omega) (by first | exact Nat.le_of_ble_eq_true rfl | omega) (⟨_, rfl, Or.inr ⟨rfl, rfl, _, hp9⟩⟩) dL_of_166
                    have hq : cq_placeOf nb sg x r9 sg9 := hq
                    obtain ⟨v9, hv9⟩ := ci_placeOf hq
                    subst hv9
                    have hW : kx_Wd G z0 ad nb (sg9) H := by first | exact hW | (simp only [kx_up_s, kx_up_up] at hW; exact hW) | (simp only [kx_up_s, kx_up_up, upd_s] at hW; exact hW)
                    refine W.eq (g2 := F0 m 140 ls [.int v9]) rfl ?_
                    refine lv_goto (tgt := 162) hx hb dL_of_140 (by decide) ?_
                    refine vx_ret ?_
                    exact kx_ri F hr hlocks hW hS (by first | exact Nat.le_of_ble_eq_true rfl | omega) (by first | exact Nat.le_of_ble_eq_true rfl | omega) (⟨_, rfl, Or.inl hq⟩) dL_of_162
                · exact absurd c_118 (by decide)
              · exact absurd c_96 (by decide)
            · exact absurd c_82 (by decide)
          · exact absurd c_61 (by decide)
        · exact absurd c_40 (by decide)
      · exact absurd c_27 (by decide)
    · exact absurd c_14 (by decide)
  · exact absurd c_1 (by decide)

set_option maxHeartbeats 2000000 in
set_option maxRecDepth 100000 in
theorem c_L_of_lies (l : Launch) (hlf : l.stackTraces = false) (G : kx_G) (z0 : Nat) (ad : kx_A) (nb : Nat) (sg : kx_S) (hC : tw_CI nb sg) (x : Int32) : kx_MX l yL_of wsL_of 18 487 1 6 G z0 ad nb sg [.ref (ad 0 0), .int 9, .int x] (fun r sg' => ∃ a : Int32, r = some (.int a) ∧ ho (cq_lies nb sg x) (cx_lies nb sg x) sg a sg') (fun _ => False) := by
  refine vx_ofWH (hh := [(0, 162, 163, 39)]) (cc := cL_of) (maxL := 4) (ret := (some .int)) (by decide) rfl ?_
  intro p e s m args below meth c s₁ B hml hv
  obtain ⟨rfl, hW, hV⟩ := hv
  have hts := atoms_spec (ws := wsL_of) B.pre
  have F : kx_F p s m c cL_of 4 RL _ wsL_of G z0 := ⟨B.exec, B.bytes, hml, findClass_of_methodNamed B.named, hts, hV⟩
  have htb : c.exceptionTable.toList = tableOf [(0, 162, 163, 39)] := vx_table (x := yL_of) B (hts (.codeWith yL_of cL_of 4 (some .int) [(0, 162, 163, 39)]) List.mem_cons_self)
  have hx := B.exec; have hb := B.bytes; have hr := B.returns; have hlocks := B.notSynchronized
  have hS : va_S (kx_Ad z0) s.heap s.heap [] := va_S.rf
  have hl := lv_entry ([.ref (ad 0 0), .int 9, .int x]) (n := 4) (Nat.le_of_ble_eq_true rfl)
  rw [lg_entry_eq]
  generalize (lg_sl ([.ref (ad 0 0), .int 9, .int x]) ++ List.replicate (4 - (lg_sl ([.ref (ad 0 0), .int 9, .int x])).length) Slot.unset).toArray = ls at hl ⊢
  have hl : lv_has ls 4 [(0, .ref (ad 0 0)), (1, .int 9), (2, .int x)] := hl
  refine lv_iload_n hx hb dL_of_0 rfl (lv_at hl 1 rfl) ?_
  refine lv_if_ne (tgt := 12) hx hb dL_of_1 (by decide) (fun c_1 => ?_) (fun c_1 => ?_)
  · refine lv_iload_n hx hb dL_of_12 rfl (lv_at hl 1 rfl) ?_
    refine lv_iconst (v := 1) hx hb dL_of_13 (by decide) ?_
    refine lv_icmp_ne (tgt := 25) hx hb dL_of_14 (by decide) (fun c_14 => ?_) (fun c_14 => ?_)
    · refine lv_iload_n hx hb dL_of_25 rfl (lv_at hl 1 rfl) ?_
      refine lv_iconst (v := 2) hx hb dL_of_26 (by decide) ?_
      refine lv_icmp_ne (tgt := 38) hx hb dL_of_27 (by decide) (fun c_27 => ?_) (fun c_27 => ?_)
      · refine lv_iload_n hx hb dL_of_38 rfl (lv_at hl 1 rfl) ?_
        refine lv_iconst (v := 3) hx hb dL_of_39 (by decide) ?_
        refine lv_icmp_ne (tgt := 59) hx hb dL_of_40 (by decide) (fun c_40 => ?_) (fun c_40 => ?_)
        · refine lv_iload_n hx hb dL_of_59 rfl (lv_at hl 1 rfl) ?_
          refine lv_iconst (v := 4) hx hb dL_of_60 (by decide) ?_
          refine lv_icmp_ne (tgt := 80) hx hb dL_of_61 (by decide) (fun c_61 => ?_) (fun c_61 => ?_)
          · refine lv_iload_n hx hb dL_of_80 rfl (lv_at hl 1 rfl) ?_
            refine lv_iconst (v := 5) hx hb dL_of_81 (by decide) ?_
            refine lv_icmp_ne (tgt := 93) hx hb dL_of_82 (by decide) (fun c_82 => ?_) (fun c_82 => ?_)
            · refine lv_iload_n hx hb dL_of_93 rfl (lv_at hl 1 rfl) ?_
              refine lv_bipush (v := 6) hx hb dL_of_94 (by decide) ?_
              refine lv_icmp_ne (tgt := 115) hx hb dL_of_96 (by decide) (fun c_96 => ?_) (fun c_96 => ?_)
              · refine lv_iload_n hx hb dL_of_115 rfl (lv_at hl 1 rfl) ?_
                refine lv_bipush (v := 7) hx hb dL_of_116 (by decide) ?_
                refine lv_icmp_ne (tgt := 129) hx hb dL_of_118 (by decide) (fun c_118 => ?_) (fun c_118 => ?_)
                · refine lv_iload_n hx hb dL_of_129 rfl (lv_at hl 1 rfl) ?_
                  refine lv_bipush (v := 8) hx hb dL_of_130 (by decide) ?_
                  refine lv_icmp_ne (tgt := 143) hx hb dL_of_132 (by decide) (fun c_132 => ?_) (fun c_132 => ?_)
                  · refine lv_iload_n hx hb dL_of_143 rfl (lv_at hl 1 rfl) ?_
                    refine lv_bipush (v := 9) hx hb dL_of_144 (by decide) ?_
                    refine lv_icmp_ne (tgt := 157) hx hb dL_of_146 (by decide) (fun c_146 => ?_) (fun c_146 => ?_)
                    · exact absurd c_146 (by decide)
                    · refine lv_aload_n hx hb dL_of_149 rfl (lv_at hl 0 rfl) ?_
                      refine lv_iload_n hx hb dL_of_150 rfl (lv_at hl 2 rfl) ?_
                      refine kx_xV (na := 1) F (q := 0) (n := 0) (c_X3_lies l hlf G z0 ad nb sg hC x) gL_of_X3_lies rfl (by decide +kernel) ⟨Nat.le_of_ble_eq_true rfl, Nat.le_of_ble_eq_true rfl⟩ hW hS ⟨by decide, rfl⟩ rfl rfl (As := [.int x]) (rest := []) rfl hl.1 rfl (Nat.le_of_ble_eq_true rfl) dL_of_151 ⟨by first | exact Nat.le_of_ble_eq_true rfl | omega, by first | exact Nat.le_of_ble_eq_true rfl | omega⟩ (fun E9 ce9 q9 H locs hp9 hW hS h7 h8 h9 => ?_) (fun r9 sg9 H locs hq hW hS => ?_)
                      · have hp9 : cx_lies nb sg x E9 := hp9
                        obtain rfl := ce_lies hp9
                        · refine kx_ct F htb [] ⟨0, 162, 163, 39⟩ [] rfl (by simp) (by decide) (by decide) (by decide +kernel) (by decide +kernel) h7 h8 h9 ?_
                          refine lv_astore_n (lv' := [(3, .ref q9), (0, .ref (ad 0 0)), (1, .int 9), (2, .int x)]) hx hb dL_of_163 rfl hl (by decide) rfl (fun ls hl => ?_)
                          refine lv_ldc (v := (-100005)) hx hb F.2.2.2.1 (hts (.constant RL 41 (-100005)) (by decide +kernel)) dL_of_164 ?_
                          refine vx_ret ?_
                          exact kx_ri F hr hlocks hW hS (by first | exact Nat.le_of_ble_eq_true rfl | omega) (by first | exact Nat.le_of_ble_eq_true rfl | omega) (⟨_, rfl, Or.inr ⟨rfl, rfl, _, hp9⟩⟩) dL_of_166
                      have hq : cq_lies nb sg x r9 sg9 := hq
                      obtain ⟨v9, hv9⟩ := ci_lies hq
                      subst hv9
                      have hW : kx_Wd G z0 ad nb (sg9) H := by first | exact hW | (simp only [kx_up_s, kx_up_up] at hW; exact hW) | (simp only [kx_up_s, kx_up_up, upd_s] at hW; exact hW)
                      refine W.eq (g2 := F0 m 154 ls [.int v9]) rfl ?_
                      refine lv_goto (tgt := 162) hx hb dL_of_154 (by decide) ?_
                      refine vx_ret ?_
                      exact kx_ri F hr hlocks hW hS (by first | exact Nat.le_of_ble_eq_true rfl | omega) (by first | exact Nat.le_of_ble_eq_true rfl | omega) (⟨_, rfl, Or.inl hq⟩) dL_of_162
                  · exact absurd c_132 (by decide)
                · exact absurd c_118 (by decide)
              · exact absurd c_96 (by decide)
            · exact absurd c_82 (by decide)
          · exact absurd c_61 (by decide)
        · exact absurd c_40 (by decide)
      · exact absurd c_27 (by decide)
    · exact absurd c_14 (by decide)
  · exact absurd c_1 (by decide)

set_option maxHeartbeats 2000000 in
set_option maxRecDepth 100000 in
theorem c_L_of_fees (l : Launch) (hlf : l.stackTraces = false) (G : kx_G) (z0 : Nat) (ad : kx_A) (nb : Nat) (sg : kx_S) (hC : tw_CI nb sg) (x : Int32) : kx_MX l yL_of wsL_of 18 487 1 6 G z0 ad nb sg [.ref (ad 0 0), .int 10, .int x] (fun r sg' => ∃ a : Int32, r = some (.int a) ∧ ho (cq_fees nb sg x) (cx_fees nb sg x) sg a sg') (fun _ => False) := by
  refine vx_ofWH (hh := [(0, 162, 163, 39)]) (cc := cL_of) (maxL := 4) (ret := (some .int)) (by decide) rfl ?_
  intro p e s m args below meth c s₁ B hml hv
  obtain ⟨rfl, hW, hV⟩ := hv
  have hts := atoms_spec (ws := wsL_of) B.pre
  have F : kx_F p s m c cL_of 4 RL _ wsL_of G z0 := ⟨B.exec, B.bytes, hml, findClass_of_methodNamed B.named, hts, hV⟩
  have htb : c.exceptionTable.toList = tableOf [(0, 162, 163, 39)] := vx_table (x := yL_of) B (hts (.codeWith yL_of cL_of 4 (some .int) [(0, 162, 163, 39)]) List.mem_cons_self)
  have hx := B.exec; have hb := B.bytes; have hr := B.returns; have hlocks := B.notSynchronized
  have hS : va_S (kx_Ad z0) s.heap s.heap [] := va_S.rf
  have hl := lv_entry ([.ref (ad 0 0), .int 10, .int x]) (n := 4) (Nat.le_of_ble_eq_true rfl)
  rw [lg_entry_eq]
  generalize (lg_sl ([.ref (ad 0 0), .int 10, .int x]) ++ List.replicate (4 - (lg_sl ([.ref (ad 0 0), .int 10, .int x])).length) Slot.unset).toArray = ls at hl ⊢
  have hl : lv_has ls 4 [(0, .ref (ad 0 0)), (1, .int 10), (2, .int x)] := hl
  refine lv_iload_n hx hb dL_of_0 rfl (lv_at hl 1 rfl) ?_
  refine lv_if_ne (tgt := 12) hx hb dL_of_1 (by decide) (fun c_1 => ?_) (fun c_1 => ?_)
  · refine lv_iload_n hx hb dL_of_12 rfl (lv_at hl 1 rfl) ?_
    refine lv_iconst (v := 1) hx hb dL_of_13 (by decide) ?_
    refine lv_icmp_ne (tgt := 25) hx hb dL_of_14 (by decide) (fun c_14 => ?_) (fun c_14 => ?_)
    · refine lv_iload_n hx hb dL_of_25 rfl (lv_at hl 1 rfl) ?_
      refine lv_iconst (v := 2) hx hb dL_of_26 (by decide) ?_
      refine lv_icmp_ne (tgt := 38) hx hb dL_of_27 (by decide) (fun c_27 => ?_) (fun c_27 => ?_)
      · refine lv_iload_n hx hb dL_of_38 rfl (lv_at hl 1 rfl) ?_
        refine lv_iconst (v := 3) hx hb dL_of_39 (by decide) ?_
        refine lv_icmp_ne (tgt := 59) hx hb dL_of_40 (by decide) (fun c_40 => ?_) (fun c_40 => ?_)
        · refine lv_iload_n hx hb dL_of_59 rfl (lv_at hl 1 rfl) ?_
          refine lv_iconst (v := 4) hx hb dL_of_60 (by decide) ?_
          refine lv_icmp_ne (tgt := 80) hx hb dL_of_61 (by decide) (fun c_61 => ?_) (fun c_61 => ?_)
          · refine lv_iload_n hx hb dL_of_80 rfl (lv_at hl 1 rfl) ?_
            refine lv_iconst (v := 5) hx hb dL_of_81 (by decide) ?_
            refine lv_icmp_ne (tgt := 93) hx hb dL_of_82 (by decide) (fun c_82 => ?_) (fun c_82 => ?_)
            · refine lv_iload_n hx hb dL_of_93 rfl (lv_at hl 1 rfl) ?_
              refine lv_bipush (v := 6) hx hb dL_of_94 (by decide) ?_
              refine lv_icmp_ne (tgt := 115) hx hb dL_of_96 (by decide) (fun c_96 => ?_) (fun c_96 => ?_)
              · refine lv_iload_n hx hb dL_of_115 rfl (lv_at hl 1 rfl) ?_
                refine lv_bipush (v := 7) hx hb dL_of_116 (by decide) ?_
                refine lv_icmp_ne (tgt := 129) hx hb dL_of_118 (by decide) (fun c_118 => ?_) (fun c_118 => ?_)
                · refine lv_iload_n hx hb dL_of_129 rfl (lv_at hl 1 rfl) ?_
                  refine lv_bipush (v := 8) hx hb dL_of_130 (by decide) ?_
                  refine lv_icmp_ne (tgt := 143) hx hb dL_of_132 (by decide) (fun c_132 => ?_) (fun c_132 => ?_)
                  · refine lv_iload_n hx hb dL_of_143 rfl (lv_at hl 1 rfl) ?_
                    refine lv_bipush (v := 9) hx hb dL_of_144 (by decide) ?_
                    refine lv_icmp_ne (tgt := 157) hx hb dL_of_146 (by decide) (fun c_146 => ?_) (fun c_146 => ?_)
                    · refine lv_aload_n hx hb dL_of_157 rfl (lv_at hl 0 rfl) ?_
                      refine lv_iload_n hx hb dL_of_158 rfl (lv_at hl 2 rfl) ?_
                      refine kx_xV (na := 1) F (q := 0) (n := 0) (c_X3_fees l hlf G z0 ad nb sg hC x) gL_of_X3_fees rfl (by decide +kernel) ⟨Nat.le_of_ble_eq_true rfl, Nat.le_of_ble_eq_true rfl⟩ hW hS ⟨by decide, rfl⟩ rfl rfl (As := [.int x]) (rest := []) rfl hl.1 rfl (Nat.le_of_ble_eq_true rfl) dL_of_159 ⟨by first | exact Nat.le_of_ble_eq_true rfl | omega, by first | exact Nat.le_of_ble_eq_true rfl | omega⟩ (fun E9 ce9 q9 H locs hp9 hW hS h7 h8 h9 => ?_) (fun r9 sg9 H locs hq hW hS => ?_)
                      · have hp9 : cx_fees nb sg x E9 := hp9
                        obtain rfl := ce_fees hp9
                        · refine kx_ct F htb [] ⟨0, 162, 163, 39⟩ [] rfl (by simp) (by decide) (by decide) (by decide +kernel) (by decide +kernel) h7 h8 h9 ?_
                          refine lv_astore_n (lv' := [(3, .ref q9), (0, .ref (ad 0 0)), (1, .int 10), (2, .int x)]) hx hb dL_of_163 rfl hl (by decide) rfl (fun ls hl => ?_)
                          refine lv_ldc (v := (-100005)) hx hb F.2.2.2.1 (hts (.constant RL 41 (-100005)) (by decide +kernel)) dL_of_164 ?_
                          refine vx_ret ?_
                          exact kx_ri F hr hlocks hW hS (by first | exact Nat.le_of_ble_eq_true rfl | omega) (by first | exact Nat.le_of_ble_eq_true rfl | omega) (⟨_, rfl, Or.inr ⟨rfl, rfl, _, hp9⟩⟩) dL_of_166
                      have hq : cq_fees nb sg x r9 sg9 := hq
                      obtain ⟨v9, hv9⟩ := ci_fees hq
                      subst hv9
                      have hW : kx_Wd G z0 ad nb (sg9) H := by first | exact hW | (simp only [kx_up_s, kx_up_up] at hW; exact hW) | (simp only [kx_up_s, kx_up_up, upd_s] at hW; exact hW)
                      refine W.eq (g2 := F0 m 162 ls [.int v9]) rfl ?_
                      refine vx_ret ?_
                      exact kx_ri F hr hlocks hW hS (by first | exact Nat.le_of_ble_eq_true rfl | omega) (by first | exact Nat.le_of_ble_eq_true rfl | omega) (⟨_, rfl, Or.inl hq⟩) dL_of_162
                    · exact absurd c_146 (by decide)
                  · exact absurd c_132 (by decide)
                · exact absurd c_118 (by decide)
              · exact absurd c_96 (by decide)
            · exact absurd c_82 (by decide)
          · exact absurd c_61 (by decide)
        · exact absurd c_40 (by decide)
      · exact absurd c_27 (by decide)
    · exact absurd c_14 (by decide)
  · exact absurd c_1 (by decide)

set_option maxHeartbeats 4000000 in
set_option maxRecDepth 100000 in
theorem c_L_does_box (l : Launch) (hlf : l.stackTraces = false) (G : kx_G) (z0 : Nat) (ad : kx_A) (nb : Nat) (sg : kx_S) (hC : tw_CI nb sg) (x y : Int32) : kx_MXg l yL_does wsL_does 8 161 5 59 G z0 ad nb sg [.ref (ad 0 0), .int 0, .int x, .int y] (fun r ad' nb' sg' => ∃ a : Int32, r = some (.int a) ∧ ((nb' = nb + 1 ∧ (∀ k n, ¬ (9 ≤ k ∧ k ≤ 13 ∧ n = nb) → ad' k n = ad k n) ∧ cn_box nb sg x y a sg') ∨ (a = -100005 ∧ nb' = nb ∧ ad' = ad ∧ sg' = sg ∧ ∃ E, cx_box nb x y E))) (fun _ => False) := by
  refine vx_ofWH (hh := [(0, 117, 118, 39), (0, 117, 123, 42), (0, 117, 128, 44)]) (cc := cL_does) (maxL := 5) (ret := (some .int)) (by decide) rfl ?_
  intro p e s m args below meth c s₁ B hml hv
  obtain ⟨rfl, hW, hV⟩ := hv
  have hts := atoms_spec (ws := wsL_does) B.pre
  have F : kx_F p s m c cL_does 5 RL _ wsL_does G z0 := ⟨B.exec, B.bytes, hml, findClass_of_methodNamed B.named, hts, hV⟩
  have htb : c.exceptionTable.toList = tableOf [(0, 117, 118, 39), (0, 117, 123, 42), (0, 117, 128, 44)] := vx_table (x := yL_does) B (hts (.codeWith yL_does cL_does 5 (some .int) [(0, 117, 118, 39), (0, 117, 123, 42), (0, 117, 128, 44)]) List.mem_cons_self)
  have hx := B.exec; have hb := B.bytes; have hr := B.returns; have hlocks := B.notSynchronized
  have hS : va_S (kx_Ad z0) s.heap s.heap [] := va_S.rf
  have hl := lv_entry ([.ref (ad 0 0), .int 0, .int x, .int y]) (n := 5) (Nat.le_of_ble_eq_true rfl)
  rw [lg_entry_eq]
  generalize (lg_sl ([.ref (ad 0 0), .int 0, .int x, .int y]) ++ List.replicate (5 - (lg_sl ([.ref (ad 0 0), .int 0, .int x, .int y])).length) Slot.unset).toArray = ls at hl ⊢
  have hl : lv_has ls 5 [(0, .ref (ad 0 0)), (1, .int 0), (2, .int x), (3, .int y)] := hl
  refine lv_iload_n hx hb dL_does_0 rfl (lv_at hl 1 rfl) ?_
  refine lv_if_ne (tgt := 13) hx hb dL_does_1 (by decide) (fun c_1 => absurd c_1 (by decide)) (fun c_1 => ?_)
  refine lv_aload_n hx hb dL_does_4 rfl (lv_at hl 0 rfl) ?_
  refine lv_iload_n hx hb dL_does_5 rfl (lv_at hl 2 rfl) ?_
  refine lv_iload_n hx hb dL_does_6 rfl (lv_at hl 3 rfl) ?_
  refine kx_xVg (na := 2) F (q := 0) (n := 0) (c_X3_box l hlf G z0 ad nb sg hC x y) gL_does_X3_box rfl (by decide +kernel) ⟨Nat.le_of_ble_eq_true rfl, Nat.le_of_ble_eq_true rfl⟩ hW hS ⟨by decide, rfl⟩ rfl rfl (As := [.int x, .int y]) (rest := []) rfl hl.1 rfl (Nat.le_of_ble_eq_true rfl) dL_does_7 ⟨Nat.le_of_ble_eq_true rfl, Nat.le_of_ble_eq_true rfl⟩ (fun E9 ce9 q9 H locs hp9 hW hS h7 h8 h9 => ?_) (fun r9 ad9 nb9 sg9 H locs hq hW hS => ?_)
  · have hp9 : cx_box nb x y E9 := hp9
    have he9 : E9 = kx_iae ∨ E9 = kx_ise := hp9.imp (fun z => z.1) (fun z => z.1)
    rcases he9 with rfl | rfl
    · refine kx_ct F htb [⟨0, 117, 118, 39⟩] ⟨0, 117, 123, 42⟩ [⟨0, 117, 128, 44⟩] rfl (by intro z hz; simp only [List.mem_cons, List.not_mem_nil, or_false] at hz; subst hz; exact ⟨by decide, "java/lang/IndexOutOfBoundsException", by decide +kernel, by decide +kernel⟩) (by decide) (by decide) (by decide +kernel) (by decide +kernel) h7 h8 h9 ?_
      refine lv_astore (lv' := [(4, .ref q9), (0, .ref (ad 0 0)), (1, .int 0), (2, .int x), (3, .int y)]) hx hb dL_does_123 hl (by decide) rfl (fun ls hl => ?_)
      refine lv_ldc (v := (-100005)) hx hb F.2.2.2.1 (hts (.constant RL 41 (-100005)) (by decide +kernel)) dL_does_125 ?_
      refine vx_ret ?_
      exact kx_rig F hr hlocks hW hS (Nat.le_of_ble_eq_true rfl) (Nat.le_of_ble_eq_true rfl) ⟨_, rfl, Or.inr ⟨rfl, rfl, rfl, rfl, _, hp9⟩⟩ dL_does_127
    · refine kx_ct F htb [⟨0, 117, 118, 39⟩, ⟨0, 117, 123, 42⟩] ⟨0, 117, 128, 44⟩ [] rfl (by intro z hz; simp only [List.mem_cons, List.not_mem_nil, or_false] at hz; rcases hz with rfl | rfl; exact ⟨by decide, "java/lang/IndexOutOfBoundsException", by decide +kernel, by decide +kernel⟩; exact ⟨by decide, "java/lang/IllegalArgumentException", by decide +kernel, by decide +kernel⟩) (by decide) (by decide) (by decide +kernel) (by decide +kernel) h7 h8 h9 ?_
      refine lv_astore (lv' := [(4, .ref q9), (0, .ref (ad 0 0)), (1, .int 0), (2, .int x), (3, .int y)]) hx hb dL_does_128 hl (by decide) rfl (fun ls hl => ?_)
      refine lv_ldc (v := (-100005)) hx hb F.2.2.2.1 (hts (.constant RL 41 (-100005)) (by decide +kernel)) dL_does_130 ?_
      refine vx_ret ?_
      exact kx_rig F hr hlocks hW hS (Nat.le_of_ble_eq_true rfl) (Nat.le_of_ble_eq_true rfl) ⟨_, rfl, Or.inr ⟨rfl, rfl, rfl, rfl, _, hp9⟩⟩ dL_does_132
  obtain ⟨v9, rfl, rfl, had, hq⟩ := hq
  refine W.eq (g2 := F0 m 10 ls [.int v9]) rfl ?_
  refine lv_goto (tgt := 117) hx hb dL_does_10 (by decide) ?_
  refine vx_ret ?_
  exact kx_rig F hr hlocks hW hS (Nat.le_of_ble_eq_true rfl) (Nat.le_of_ble_eq_true rfl) ⟨v9, rfl, Or.inl ⟨rfl, had, hq⟩⟩ dL_does_117

