theorem ci_setTrust {nb : Nat} {s s1 : kx_S} {x y : Int32} {r : Option Value} (h : cq_setTrust nb s x y r s1) : ∃ a : Int32, r = some (.int a) := by
  unfold cq_setTrust at h
  grind

theorem ce_setTrust {nb : Nat} {s : kx_S} {x y : Int32} {E : String} (h : cx_setTrust nb s x y E) : E = kx_ioe ∨ E = kx_iae := by
  unfold cx_setTrust at h
  grind

set_option maxHeartbeats 1000000 in
set_option maxRecDepth 100000 in
theorem c_L_setTrust (l : Launch) (hlf : l.stackTraces = false) (G : kx_G) (z0 : Nat) (ad : kx_A) (nb : Nat) (sg : kx_S) (hC : tw_CI nb sg) (x y : Int32) : kx_MX l yL_setTrust wsL_setTrust 8 134 2 12 G z0 ad nb sg [.ref (ad 0 0), .int x, .int y, .ref (ad 32 0)] (fun r sg' => (∃ (a : Int32) (sgc : kx_S), r = some (.int 0) ∧ cq_setTrust nb sg x y (some (.int a)) sgc ∧ sg' = kx_up sgc 32 0 (upd (sgc 32 0) 0 a)) ∨ (∃ (k : Int32) (E : String), r = some (.int k) ∧ sg' = sg ∧ cx_setTrust nb sg x y E ∧ ((E = kx_ioe ∧ k = 1) ∨ (E = kx_iae ∧ k = 2)))) (fun _ => False) := by
  refine vx_ofWH (hh := [(0, 10, 13, 20), (0, 10, 17, 13)]) (cc := cL_setTrust) (maxL := 5) (ret := (some .int)) (by decide) rfl ?_
  intro p e s m args below meth c s₁ B hml hv
  obtain ⟨rfl, hW, hV⟩ := hv
  have hts := atoms_spec (ws := wsL_setTrust) B.pre
  have F : kx_F p s m c cL_setTrust 5 RL _ wsL_setTrust G z0 := ⟨B.exec, B.bytes, hml, findClass_of_methodNamed B.named, hts, hV⟩
  have htb : c.exceptionTable.toList = tableOf [(0, 10, 13, 20), (0, 10, 17, 13)] := vx_table (x := yL_setTrust) B (hts (.codeWith yL_setTrust cL_setTrust 5 (some .int) [(0, 10, 13, 20), (0, 10, 17, 13)]) List.mem_cons_self)
  have hx := B.exec; have hb := B.bytes; have hr := B.returns; have hlocks := B.notSynchronized
  have hS : va_S (kx_Ad z0) s.heap s.heap [] := va_S.rf
  have hl := lv_entry ([.ref (ad 0 0), .int x, .int y, .ref (ad 32 0)]) (n := 5) (Nat.le_of_ble_eq_true rfl)
  rw [lg_entry_eq]
  generalize (lg_sl ([.ref (ad 0 0), .int x, .int y, .ref (ad 32 0)]) ++ List.replicate (5 - (lg_sl ([.ref (ad 0 0), .int x, .int y, .ref (ad 32 0)])).length) Slot.unset).toArray = ls at hl ⊢
  have hl : lv_has ls 5 [(0, .ref (ad 0 0)), (1, .int x), (2, .int y), (3, .ref (ad 32 0))] := hl
  refine lv_aload_n hx hb dL_setTrust_0 rfl (lv_at hl 3 rfl) ?_
  refine lv_iconst (v := 0) hx hb dL_setTrust_1 (by decide) ?_
  refine lv_aload_n hx hb dL_setTrust_2 rfl (lv_at hl 0 rfl) ?_
  refine lv_iload_n hx hb dL_setTrust_3 rfl (lv_at hl 1 rfl) ?_
  refine lv_iload_n hx hb dL_setTrust_4 rfl (lv_at hl 2 rfl) ?_
  refine kx_xV (na := 2) F (q := 0) (n := 0) (c_X3_setTrust l hlf G z0 ad nb sg hC x y) gL_setTrust_X3_setTrust rfl (by decide +kernel) ⟨Nat.le_of_ble_eq_true rfl, Nat.le_of_ble_eq_true rfl⟩ hW hS ⟨by decide, rfl⟩ rfl rfl (As := [.int x, .int y]) (rest := [.int 0, .ref (ad 32 0)]) rfl hl.1 rfl (Nat.le_of_ble_eq_true rfl) dL_setTrust_5 ⟨by first | exact Nat.le_of_ble_eq_true rfl | omega, by first | exact Nat.le_of_ble_eq_true rfl | omega⟩ (fun E9 ce9 q9 H locs hp9 hW hS h7 h8 h9 => ?_) (fun r9 sg9 H locs hq hW hS => ?_)
  · have hp9 : cx_setTrust nb sg x y E9 := hp9
    rcases ce_setTrust hp9 with rfl | rfl
    · refine kx_ct F htb [] ⟨0, 10, 13, 20⟩ [⟨0, 10, 17, 13⟩] rfl (by simp) (by decide) (by decide) (by decide +kernel) (by decide +kernel) h7 h8 h9 ?_
      refine lv_astore (lv' := [(4, .ref q9), (0, .ref (ad 0 0)), (1, .int x), (2, .int y), (3, .ref (ad 32 0))]) hx hb dL_setTrust_13 hl (by decide) rfl (fun ls hl => ?_)
      refine lv_iconst (v := 1) hx hb dL_setTrust_15 (by decide) ?_
      refine vx_ret ?_
      exact kx_ri F hr hlocks hW hS (by first | exact Nat.le_of_ble_eq_true rfl | omega) (by first | exact Nat.le_of_ble_eq_true rfl | omega) (Or.inr ⟨1, _, rfl, rfl, hp9, Or.inl ⟨rfl, rfl⟩⟩) dL_setTrust_16
    · refine kx_ct F htb [⟨0, 10, 13, 20⟩] ⟨0, 10, 17, 13⟩ [] rfl (by intro z hz; simp only [List.mem_cons, List.not_mem_nil, or_false] at hz; subst hz; exact ⟨by decide, "java/lang/IndexOutOfBoundsException", by decide +kernel, by decide +kernel⟩) (by decide) (by decide) (by decide +kernel) (by decide +kernel) h7 h8 h9 ?_
      refine lv_astore (lv' := [(4, .ref q9), (0, .ref (ad 0 0)), (1, .int x), (2, .int y), (3, .ref (ad 32 0))]) hx hb dL_setTrust_17 hl (by decide) rfl (fun ls hl => ?_)
      refine lv_iconst (v := 2) hx hb dL_setTrust_19 (by decide) ?_
      refine vx_ret ?_
      exact kx_ri F hr hlocks hW hS (by first | exact Nat.le_of_ble_eq_true rfl | omega) (by first | exact Nat.le_of_ble_eq_true rfl | omega) (Or.inr ⟨2, _, rfl, rfl, hp9, Or.inr (⟨rfl, rfl⟩)⟩) dL_setTrust_20
  have hq : cq_setTrust nb sg x y r9 sg9 := hq
  obtain ⟨v9, hv9⟩ := ci_setTrust hq
  subst hv9
  have hW : kx_Wd G z0 ad nb (sg9) H := by first | exact hW | (simp only [kx_up_s, kx_up_up] at hW; exact hW) | (simp only [kx_up_s, kx_up_up, upd_s] at hW; exact hW)
  refine W.eq (g2 := F0 m 8 ls [.int v9, .int 0, .ref (ad 32 0)]) rfl ?_
  refine lv_i2l (v := Int32.toInt64 v9) hx hb dL_setTrust_8 rfl ?_
  refine kx_last F hW hS (x := v9) rfl dL_setTrust_9 (fun H locs hW hS => ?_)
  have hW : kx_Wd G z0 ad nb (kx_up sg9 32 0 (upd (sg9 32 0) 0 v9)) H := by first | exact hW | (simp only [kx_up_s, kx_up_up] at hW; exact hW) | (simp only [kx_up_s, kx_up_up, upd_s] at hW; exact hW)
  refine lv_goto (tgt := 21) hx hb dL_setTrust_10 (by decide) ?_
  refine lv_iconst (v := 0) hx hb dL_setTrust_21 (by decide) ?_
  refine vx_ret ?_
  exact kx_ri F hr hlocks hW hS (by first | exact Nat.le_of_ble_eq_true rfl | omega) (by first | exact Nat.le_of_ble_eq_true rfl | omega) (Or.inl ⟨v9, sg9, rfl, hq, rfl⟩) dL_setTrust_22

theorem ci_pass {nb : Nat} {s s1 : kx_S} {x : Int32} {r : Option Value} (h : cq_pass nb s x r s1) : ∃ a : Int32, r = some (.int a) := by
  unfold cq_pass at h
  grind

theorem ce_pass {nb : Nat} {s : kx_S} {x : Int32} {E : String} (h : cx_pass nb s x E) : E = kx_iae ∨ E = kx_ise := by
  unfold cx_pass at h
  grind

set_option maxHeartbeats 1000000 in
set_option maxRecDepth 100000 in
theorem c_L_pass (l : Launch) (hlf : l.stackTraces = false) (G : kx_G) (z0 : Nat) (ad : kx_A) (nb : Nat) (sg : kx_S) (hC : tw_CI nb sg) (x : Int32) : kx_MX l yL_pass wsL_pass 7 111 1 6 G z0 ad nb sg [.ref (ad 0 0), .int x, .ref (ad 32 0)] (fun r sg' => (∃ (a : Int32) (sgc : kx_S), r = some (.int 0) ∧ cq_pass nb sg x (some (.int a)) sgc ∧ sg' = kx_up sgc 32 0 (upd (sgc 32 0) 0 a)) ∨ (∃ (k : Int32) (E : String), r = some (.int k) ∧ sg' = sg ∧ cx_pass nb sg x E ∧ ((E = kx_iae ∧ k = 1) ∨ (E = kx_ise ∧ k = 2)))) (fun _ => False) := by
  refine vx_ofWH (hh := [(0, 9, 12, 13), (0, 9, 15, 15)]) (cc := cL_pass) (maxL := 4) (ret := (some .int)) (by decide) rfl ?_
  intro p e s m args below meth c s₁ B hml hv
  obtain ⟨rfl, hW, hV⟩ := hv
  have hts := atoms_spec (ws := wsL_pass) B.pre
  have F : kx_F p s m c cL_pass 4 RL _ wsL_pass G z0 := ⟨B.exec, B.bytes, hml, findClass_of_methodNamed B.named, hts, hV⟩
  have htb : c.exceptionTable.toList = tableOf [(0, 9, 12, 13), (0, 9, 15, 15)] := vx_table (x := yL_pass) B (hts (.codeWith yL_pass cL_pass 4 (some .int) [(0, 9, 12, 13), (0, 9, 15, 15)]) List.mem_cons_self)
  have hx := B.exec; have hb := B.bytes; have hr := B.returns; have hlocks := B.notSynchronized
  have hS : va_S (kx_Ad z0) s.heap s.heap [] := va_S.rf
  have hl := lv_entry ([.ref (ad 0 0), .int x, .ref (ad 32 0)]) (n := 4) (Nat.le_of_ble_eq_true rfl)
  rw [lg_entry_eq]
  generalize (lg_sl ([.ref (ad 0 0), .int x, .ref (ad 32 0)]) ++ List.replicate (4 - (lg_sl ([.ref (ad 0 0), .int x, .ref (ad 32 0)])).length) Slot.unset).toArray = ls at hl ⊢
  have hl : lv_has ls 4 [(0, .ref (ad 0 0)), (1, .int x), (2, .ref (ad 32 0))] := hl
  refine lv_aload_n hx hb dL_pass_0 rfl (lv_at hl 2 rfl) ?_
  refine lv_iconst (v := 0) hx hb dL_pass_1 (by decide) ?_
  refine lv_aload_n hx hb dL_pass_2 rfl (lv_at hl 0 rfl) ?_
  refine lv_iload_n hx hb dL_pass_3 rfl (lv_at hl 1 rfl) ?_
  refine kx_xV (na := 1) F (q := 0) (n := 0) (c_X3_pass l hlf G z0 ad nb sg x) gL_pass_X3_pass rfl (by decide +kernel) ⟨Nat.le_of_ble_eq_true rfl, Nat.le_of_ble_eq_true rfl⟩ hW hS ⟨by decide, rfl⟩ rfl rfl (As := [.int x]) (rest := [.int 0, .ref (ad 32 0)]) rfl hl.1 rfl (Nat.le_of_ble_eq_true rfl) dL_pass_4 ⟨by first | exact Nat.le_of_ble_eq_true rfl | omega, by first | exact Nat.le_of_ble_eq_true rfl | omega⟩ (fun E9 ce9 q9 H locs hp9 hW hS h7 h8 h9 => ?_) (fun r9 sg9 H locs hq hW hS => ?_)
  · have hp9 : cx_pass nb sg x E9 := hp9
    rcases ce_pass hp9 with rfl | rfl
    · refine kx_ct F htb [] ⟨0, 9, 12, 13⟩ [⟨0, 9, 15, 15⟩] rfl (by simp) (by decide) (by decide) (by decide +kernel) (by decide +kernel) h7 h8 h9 ?_
      refine lv_astore_n (lv' := [(3, .ref q9), (0, .ref (ad 0 0)), (1, .int x), (2, .ref (ad 32 0))]) hx hb dL_pass_12 rfl hl (by decide) rfl (fun ls hl => ?_)
      refine lv_iconst (v := 1) hx hb dL_pass_13 (by decide) ?_
      refine vx_ret ?_
      exact kx_ri F hr hlocks hW hS (by first | exact Nat.le_of_ble_eq_true rfl | omega) (by first | exact Nat.le_of_ble_eq_true rfl | omega) (Or.inr ⟨1, _, rfl, rfl, hp9, Or.inl ⟨rfl, rfl⟩⟩) dL_pass_14
    · refine kx_ct F htb [⟨0, 9, 12, 13⟩] ⟨0, 9, 15, 15⟩ [] rfl (by intro z hz; simp only [List.mem_cons, List.not_mem_nil, or_false] at hz; subst hz; exact ⟨by decide, "java/lang/IllegalArgumentException", by decide +kernel, by decide +kernel⟩) (by decide) (by decide) (by decide +kernel) (by decide +kernel) h7 h8 h9 ?_
      refine lv_astore_n (lv' := [(3, .ref q9), (0, .ref (ad 0 0)), (1, .int x), (2, .ref (ad 32 0))]) hx hb dL_pass_15 rfl hl (by decide) rfl (fun ls hl => ?_)
      refine lv_iconst (v := 2) hx hb dL_pass_16 (by decide) ?_
      refine vx_ret ?_
      exact kx_ri F hr hlocks hW hS (by first | exact Nat.le_of_ble_eq_true rfl | omega) (by first | exact Nat.le_of_ble_eq_true rfl | omega) (Or.inr ⟨2, _, rfl, rfl, hp9, Or.inr (⟨rfl, rfl⟩)⟩) dL_pass_17
  have hq : cq_pass nb sg x r9 sg9 := hq
  obtain ⟨v9, hv9⟩ := ci_pass hq
  subst hv9
  have hW : kx_Wd G z0 ad nb (sg9) H := by first | exact hW | (simp only [kx_up_s, kx_up_up] at hW; exact hW) | (simp only [kx_up_s, kx_up_up, upd_s] at hW; exact hW)
  refine W.eq (g2 := F0 m 7 ls [.int v9, .int 0, .ref (ad 32 0)]) rfl ?_
  refine lv_i2l (v := Int32.toInt64 v9) hx hb dL_pass_7 rfl ?_
  refine kx_last F hW hS (x := v9) rfl dL_pass_8 (fun H locs hW hS => ?_)
  have hW : kx_Wd G z0 ad nb (kx_up sg9 32 0 (upd (sg9 32 0) 0 v9)) H := by first | exact hW | (simp only [kx_up_s, kx_up_up] at hW; exact hW) | (simp only [kx_up_s, kx_up_up, upd_s] at hW; exact hW)
  refine lv_goto (tgt := 18) hx hb dL_pass_9 (by decide) ?_
  refine lv_iconst (v := 0) hx hb dL_pass_18 (by decide) ?_
  refine vx_ret ?_
  exact kx_ri F hr hlocks hW hS (by first | exact Nat.le_of_ble_eq_true rfl | omega) (by first | exact Nat.le_of_ble_eq_true rfl | omega) (Or.inl ⟨v9, sg9, rfl, hq, rfl⟩) dL_pass_19

theorem ci_scan {nb : Nat} {s s1 : kx_S} {x y z : Int32} {r : Option Value} (h : cq_scan nb s x y z r s1) : ∃ a : Int32, r = some (.int a) := by
  unfold cq_scan at h
  grind

theorem ce_scan {nb : Nat} {s : kx_S} {x y z : Int32} {E : String} (h : cx_scan nb s x y z E) : E = kx_ioe ∨ E = kx_iae ∨ E = kx_ise := by
  unfold cx_scan at h
  grind

set_option maxHeartbeats 1000000 in
set_option maxRecDepth 100000 in
theorem c_L_scan (l : Launch) (hlf : l.stackTraces = false) (G : kx_G) (z0 : Nat) (ad : kx_A) (nb : Nat) (sg : kx_S) (hC : tw_CI nb sg) (x y z : Int32) : kx_MX l yL_scan wsL_scan 8 161 4 24 G z0 ad nb sg [.ref (ad 0 0), .int x, .int y, .int z, .ref (ad 32 0)] (fun r sg' => (∃ (a : Int32) (sgc : kx_S), r = some (.int 0) ∧ cq_scan nb sg x y z (some (.int a)) sgc ∧ sg' = kx_up sgc 32 0 (upd (sgc 32 0) 0 a)) ∨ (∃ (k : Int32) (E : String), r = some (.int k) ∧ sg' = sg ∧ cx_scan nb sg x y z E ∧ ((E = kx_ioe ∧ k = 1) ∨ (E = kx_iae ∧ k = 2) ∨ (E = kx_ise ∧ k = 3)))) (fun _ => False) := by
  refine vx_ofWH (hh := [(0, 12, 15, 20), (0, 12, 19, 13), (0, 12, 23, 15)]) (cc := cL_scan) (maxL := 6) (ret := (some .int)) (by decide) rfl ?_
  intro p e s m args below meth c s₁ B hml hv
  obtain ⟨rfl, hW, hV⟩ := hv
  have hts := atoms_spec (ws := wsL_scan) B.pre
  have F : kx_F p s m c cL_scan 6 RL _ wsL_scan G z0 := ⟨B.exec, B.bytes, hml, findClass_of_methodNamed B.named, hts, hV⟩
  have htb : c.exceptionTable.toList = tableOf [(0, 12, 15, 20), (0, 12, 19, 13), (0, 12, 23, 15)] := vx_table (x := yL_scan) B (hts (.codeWith yL_scan cL_scan 6 (some .int) [(0, 12, 15, 20), (0, 12, 19, 13), (0, 12, 23, 15)]) List.mem_cons_self)
  have hx := B.exec; have hb := B.bytes; have hr := B.returns; have hlocks := B.notSynchronized
  have hS : va_S (kx_Ad z0) s.heap s.heap [] := va_S.rf
  have hl := lv_entry ([.ref (ad 0 0), .int x, .int y, .int z, .ref (ad 32 0)]) (n := 6) (Nat.le_of_ble_eq_true rfl)
  rw [lg_entry_eq]
  generalize (lg_sl ([.ref (ad 0 0), .int x, .int y, .int z, .ref (ad 32 0)]) ++ List.replicate (6 - (lg_sl ([.ref (ad 0 0), .int x, .int y, .int z, .ref (ad 32 0)])).length) Slot.unset).toArray = ls at hl ⊢
  have hl : lv_has ls 6 [(0, .ref (ad 0 0)), (1, .int x), (2, .int y), (3, .int z), (4, .ref (ad 32 0))] := hl
  refine lv_aload hx hb dL_scan_0 (lv_at hl 4 rfl) ?_
  refine lv_iconst (v := 0) hx hb dL_scan_2 (by decide) ?_
  refine lv_aload_n hx hb dL_scan_3 rfl (lv_at hl 0 rfl) ?_
  refine lv_iload_n hx hb dL_scan_4 rfl (lv_at hl 1 rfl) ?_
  refine lv_iload_n hx hb dL_scan_5 rfl (lv_at hl 2 rfl) ?_
  refine lv_iload_n hx hb dL_scan_6 rfl (lv_at hl 3 rfl) ?_
  refine kx_xV (na := 3) F (q := 0) (n := 0) (c_X3_scan l hlf G z0 ad nb sg hC x y z) gL_scan_X3_scan rfl (by decide +kernel) ⟨Nat.le_of_ble_eq_true rfl, Nat.le_of_ble_eq_true rfl⟩ hW hS ⟨by decide, rfl⟩ rfl rfl (As := [.int x, .int y, .int z]) (rest := [.int 0, .ref (ad 32 0)]) rfl hl.1 rfl (Nat.le_of_ble_eq_true rfl) dL_scan_7 ⟨by first | exact Nat.le_of_ble_eq_true rfl | omega, by first | exact Nat.le_of_ble_eq_true rfl | omega⟩ (fun E9 ce9 q9 H locs hp9 hW hS h7 h8 h9 => ?_) (fun r9 sg9 H locs hq hW hS => ?_)
  · have hp9 : cx_scan nb sg x y z E9 := hp9
    rcases ce_scan hp9 with rfl | rfl | rfl
    · refine kx_ct F htb [] ⟨0, 12, 15, 20⟩ [⟨0, 12, 19, 13⟩, ⟨0, 12, 23, 15⟩] rfl (by simp) (by decide) (by decide) (by decide +kernel) (by decide +kernel) h7 h8 h9 ?_
      refine lv_astore (lv' := [(5, .ref q9), (0, .ref (ad 0 0)), (1, .int x), (2, .int y), (3, .int z), (4, .ref (ad 32 0))]) hx hb dL_scan_15 hl (by decide) rfl (fun ls hl => ?_)
      refine lv_iconst (v := 1) hx hb dL_scan_17 (by decide) ?_
      refine vx_ret ?_
      exact kx_ri F hr hlocks hW hS (by first | exact Nat.le_of_ble_eq_true rfl | omega) (by first | exact Nat.le_of_ble_eq_true rfl | omega) (Or.inr ⟨1, _, rfl, rfl, hp9, Or.inl ⟨rfl, rfl⟩⟩) dL_scan_18
    · refine kx_ct F htb [⟨0, 12, 15, 20⟩] ⟨0, 12, 19, 13⟩ [⟨0, 12, 23, 15⟩] rfl (by intro z hz; simp only [List.mem_cons, List.not_mem_nil, or_false] at hz; subst hz; exact ⟨by decide, "java/lang/IndexOutOfBoundsException", by decide +kernel, by decide +kernel⟩) (by decide) (by decide) (by decide +kernel) (by decide +kernel) h7 h8 h9 ?_
      refine lv_astore (lv' := [(5, .ref q9), (0, .ref (ad 0 0)), (1, .int x), (2, .int y), (3, .int z), (4, .ref (ad 32 0))]) hx hb dL_scan_19 hl (by decide) rfl (fun ls hl => ?_)
      refine lv_iconst (v := 2) hx hb dL_scan_21 (by decide) ?_
      refine vx_ret ?_
      exact kx_ri F hr hlocks hW hS (by first | exact Nat.le_of_ble_eq_true rfl | omega) (by first | exact Nat.le_of_ble_eq_true rfl | omega) (Or.inr ⟨2, _, rfl, rfl, hp9, Or.inr (Or.inl ⟨rfl, rfl⟩)⟩) dL_scan_22
    · refine kx_ct F htb [⟨0, 12, 15, 20⟩, ⟨0, 12, 19, 13⟩] ⟨0, 12, 23, 15⟩ [] rfl (by intro z hz; simp only [List.mem_cons, List.not_mem_nil, or_false] at hz; rcases hz with rfl | rfl; exact ⟨by decide, "java/lang/IndexOutOfBoundsException", by decide +kernel, by decide +kernel⟩; exact ⟨by decide, "java/lang/IllegalArgumentException", by decide +kernel, by decide +kernel⟩) (by decide) (by decide) (by decide +kernel) (by decide +kernel) h7 h8 h9 ?_
      refine lv_astore (lv' := [(5, .ref q9), (0, .ref (ad 0 0)), (1, .int x), (2, .int y), (3, .int z), (4, .ref (ad 32 0))]) hx hb dL_scan_23 hl (by decide) rfl (fun ls hl => ?_)
      refine lv_iconst (v := 3) hx hb dL_scan_25 (by decide) ?_
      refine vx_ret ?_
      exact kx_ri F hr hlocks hW hS (by first | exact Nat.le_of_ble_eq_true rfl | omega) (by first | exact Nat.le_of_ble_eq_true rfl | omega) (Or.inr ⟨3, _, rfl, rfl, hp9, Or.inr (Or.inr (⟨rfl, rfl⟩))⟩) dL_scan_26
  have hq : cq_scan nb sg x y z r9 sg9 := hq
  obtain ⟨v9, hv9⟩ := ci_scan hq
  subst hv9
  have hW : kx_Wd G z0 ad nb (sg9) H := by first | exact hW | (simp only [kx_up_s, kx_up_up] at hW; exact hW) | (simp only [kx_up_s, kx_up_up, upd_s] at hW; exact hW)
  refine W.eq (g2 := F0 m 10 ls [.int v9, .int 0, .ref (ad 32 0)]) rfl ?_
  refine lv_i2l (v := Int32.toInt64 v9) hx hb dL_scan_10 rfl ?_
  refine kx_last F hW hS (x := v9) rfl dL_scan_11 (fun H locs hW hS => ?_)
  have hW : kx_Wd G z0 ad nb (kx_up sg9 32 0 (upd (sg9 32 0) 0 v9)) H := by first | exact hW | (simp only [kx_up_s, kx_up_up] at hW; exact hW) | (simp only [kx_up_s, kx_up_up, upd_s] at hW; exact hW)
  refine lv_goto (tgt := 27) hx hb dL_scan_12 (by decide) ?_
  refine lv_iconst (v := 0) hx hb dL_scan_27 (by decide) ?_
  refine vx_ret ?_
  exact kx_ri F hr hlocks hW hS (by first | exact Nat.le_of_ble_eq_true rfl | omega) (by first | exact Nat.le_of_ble_eq_true rfl | omega) (Or.inl ⟨v9, sg9, rfl, hq, rfl⟩) dL_scan_28

theorem ci_lay {nb : Nat} {s s1 : kx_S} {x y : Int32} {r : Option Value} (h : cq_lay nb s x y r s1) : ∃ a : Int32, r = some (.int a) := by
  unfold cq_lay at h
  grind

theorem ce_lay {nb : Nat} {s : kx_S} {x y : Int32} {E : String} (h : cx_lay nb s x y E) : E = kx_ioe ∨ E = kx_ise := by
  unfold cx_lay at h
  grind

set_option maxHeartbeats 1000000 in
set_option maxRecDepth 100000 in
theorem c_L_lay (l : Launch) (hlf : l.stackTraces = false) (G : kx_G) (z0 : Nat) (ad : kx_A) (nb : Nat) (sg : kx_S) (hC : tw_CI nb sg) (x y : Int32) : kx_MX l yL_lay wsL_lay 8 161 4 24 G z0 ad nb sg [.ref (ad 0 0), .int x, .int y, .ref (ad 32 0)] (fun r sg' => (∃ (a : Int32) (sgc : kx_S), r = some (.int 0) ∧ cq_lay nb sg x y (some (.int a)) sgc ∧ sg' = kx_up sgc 32 0 (upd (sgc 32 0) 0 a)) ∨ (∃ (k : Int32) (E : String), r = some (.int k) ∧ sg' = sg ∧ cx_lay nb sg x y E ∧ ((E = kx_ioe ∧ k = 1) ∨ (E = kx_ise ∧ k = 2)))) (fun _ => False) := by
  refine vx_ofWH (hh := [(0, 10, 13, 20), (0, 10, 17, 15)]) (cc := cL_lay) (maxL := 5) (ret := (some .int)) (by decide) rfl ?_
  intro p e s m args below meth c s₁ B hml hv
  obtain ⟨rfl, hW, hV⟩ := hv
  have hts := atoms_spec (ws := wsL_lay) B.pre
  have F : kx_F p s m c cL_lay 5 RL _ wsL_lay G z0 := ⟨B.exec, B.bytes, hml, findClass_of_methodNamed B.named, hts, hV⟩
  have htb : c.exceptionTable.toList = tableOf [(0, 10, 13, 20), (0, 10, 17, 15)] := vx_table (x := yL_lay) B (hts (.codeWith yL_lay cL_lay 5 (some .int) [(0, 10, 13, 20), (0, 10, 17, 15)]) List.mem_cons_self)
  have hx := B.exec; have hb := B.bytes; have hr := B.returns; have hlocks := B.notSynchronized
  have hS : va_S (kx_Ad z0) s.heap s.heap [] := va_S.rf
  have hl := lv_entry ([.ref (ad 0 0), .int x, .int y, .ref (ad 32 0)]) (n := 5) (Nat.le_of_ble_eq_true rfl)
  rw [lg_entry_eq]
  generalize (lg_sl ([.ref (ad 0 0), .int x, .int y, .ref (ad 32 0)]) ++ List.replicate (5 - (lg_sl ([.ref (ad 0 0), .int x, .int y, .ref (ad 32 0)])).length) Slot.unset).toArray = ls at hl ⊢
  have hl : lv_has ls 5 [(0, .ref (ad 0 0)), (1, .int x), (2, .int y), (3, .ref (ad 32 0))] := hl
  refine lv_aload_n hx hb dL_lay_0 rfl (lv_at hl 3 rfl) ?_
  refine lv_iconst (v := 0) hx hb dL_lay_1 (by decide) ?_
  refine lv_aload_n hx hb dL_lay_2 rfl (lv_at hl 0 rfl) ?_
  refine lv_iload_n hx hb dL_lay_3 rfl (lv_at hl 1 rfl) ?_
  refine lv_iload_n hx hb dL_lay_4 rfl (lv_at hl 2 rfl) ?_
  refine kx_xV (na := 2) F (q := 0) (n := 0) (c_X3_lay l hlf G z0 ad nb sg hC x y) gL_lay_X3_lay rfl (by decide +kernel) ⟨Nat.le_of_ble_eq_true rfl, Nat.le_of_ble_eq_true rfl⟩ hW hS ⟨by decide, rfl⟩ rfl rfl (As := [.int x, .int y]) (rest := [.int 0, .ref (ad 32 0)]) rfl hl.1 rfl (Nat.le_of_ble_eq_true rfl) dL_lay_5 ⟨by first | exact Nat.le_of_ble_eq_true rfl | omega, by first | exact Nat.le_of_ble_eq_true rfl | omega⟩ (fun E9 ce9 q9 H locs hp9 hW hS h7 h8 h9 => ?_) (fun r9 sg9 H locs hq hW hS => ?_)
  · have hp9 : cx_lay nb sg x y E9 := hp9
    rcases ce_lay hp9 with rfl | rfl
    · refine kx_ct F htb [] ⟨0, 10, 13, 20⟩ [⟨0, 10, 17, 15⟩] rfl (by simp) (by decide) (by decide) (by decide +kernel) (by decide +kernel) h7 h8 h9 ?_
      refine lv_astore (lv' := [(4, .ref q9), (0, .ref (ad 0 0)), (1, .int x), (2, .int y), (3, .ref (ad 32 0))]) hx hb dL_lay_13 hl (by decide) rfl (fun ls hl => ?_)
      refine lv_iconst (v := 1) hx hb dL_lay_15 (by decide) ?_
      refine vx_ret ?_
      exact kx_ri F hr hlocks hW hS (by first | exact Nat.le_of_ble_eq_true rfl | omega) (by first | exact Nat.le_of_ble_eq_true rfl | omega) (Or.inr ⟨1, _, rfl, rfl, hp9, Or.inl ⟨rfl, rfl⟩⟩) dL_lay_16
    · refine kx_ct F htb [⟨0, 10, 13, 20⟩] ⟨0, 10, 17, 15⟩ [] rfl (by intro z hz; simp only [List.mem_cons, List.not_mem_nil, or_false] at hz; subst hz; exact ⟨by decide, "java/lang/IndexOutOfBoundsException", by decide +kernel, by decide +kernel⟩) (by decide) (by decide) (by decide +kernel) (by decide +kernel) h7 h8 h9 ?_
      refine lv_astore (lv' := [(4, .ref q9), (0, .ref (ad 0 0)), (1, .int x), (2, .int y), (3, .ref (ad 32 0))]) hx hb dL_lay_17 hl (by decide) rfl (fun ls hl => ?_)
      refine lv_iconst (v := 2) hx hb dL_lay_19 (by decide) ?_
      refine vx_ret ?_
      exact kx_ri F hr hlocks hW hS (by first | exact Nat.le_of_ble_eq_true rfl | omega) (by first | exact Nat.le_of_ble_eq_true rfl | omega) (Or.inr ⟨2, _, rfl, rfl, hp9, Or.inr (⟨rfl, rfl⟩)⟩) dL_lay_20
  have hq : cq_lay nb sg x y r9 sg9 := hq
  obtain ⟨v9, hv9⟩ := ci_lay hq
  subst hv9
  have hW : kx_Wd G z0 ad nb (sg9) H := by first | exact hW | (simp only [kx_up_s, kx_up_up] at hW; exact hW) | (simp only [kx_up_s, kx_up_up, upd_s] at hW; exact hW)
  refine W.eq (g2 := F0 m 8 ls [.int v9, .int 0, .ref (ad 32 0)]) rfl ?_
  refine lv_i2l (v := Int32.toInt64 v9) hx hb dL_lay_8 rfl ?_
  refine kx_last F hW hS (x := v9) rfl dL_lay_9 (fun H locs hW hS => ?_)
  have hW : kx_Wd G z0 ad nb (kx_up sg9 32 0 (upd (sg9 32 0) 0 v9)) H := by first | exact hW | (simp only [kx_up_s, kx_up_up] at hW; exact hW) | (simp only [kx_up_s, kx_up_up, upd_s] at hW; exact hW)
  refine lv_goto (tgt := 21) hx hb dL_lay_10 (by decide) ?_
  refine lv_iconst (v := 0) hx hb dL_lay_21 (by decide) ?_
  refine vx_ret ?_
  exact kx_ri F hr hlocks hW hS (by first | exact Nat.le_of_ble_eq_true rfl | omega) (by first | exact Nat.le_of_ble_eq_true rfl | omega) (Or.inl ⟨v9, sg9, rfl, hq, rfl⟩) dL_lay_22

theorem ci_find {nb : Nat} {s s1 : kx_S} {x y : Int32} {r : Option Value} (h : cq_find nb s x y r s1) : ∃ a : Int32, r = some (.int a) := by
  unfold cq_find at h
  grind

theorem ce_find {nb : Nat} {s : kx_S} {x y : Int32} {E : String} (h : cx_find nb s x y E) : E = kx_ioe ∨ E = kx_ise := by
  unfold cx_find at h
  grind

set_option maxHeartbeats 1000000 in
set_option maxRecDepth 100000 in
theorem c_L_find (l : Launch) (hlf : l.stackTraces = false) (G : kx_G) (z0 : Nat) (ad : kx_A) (nb : Nat) (sg : kx_S) (hC : tw_CI nb sg) (x y : Int32) : kx_MX l yL_find wsL_find 8 160 3 18 G z0 ad nb sg [.ref (ad 0 0), .int x, .int y, .ref (ad 32 0)] (fun r sg' => (∃ (a : Int32) (sgc : kx_S), r = some (.int 0) ∧ cq_find nb sg x y (some (.int a)) sgc ∧ sg' = kx_up sgc 32 0 (upd (sgc 32 0) 0 a)) ∨ (∃ (k : Int32) (E : String), r = some (.int k) ∧ sg' = sg ∧ cx_find nb sg x y E ∧ ((E = kx_ioe ∧ k = 1) ∨ (E = kx_ise ∧ k = 2)))) (fun _ => False) := by
  refine vx_ofWH (hh := [(0, 10, 13, 20), (0, 10, 17, 15)]) (cc := cL_find) (maxL := 5) (ret := (some .int)) (by decide) rfl ?_
  intro p e s m args below meth c s₁ B hml hv
  obtain ⟨rfl, hW, hV⟩ := hv
  have hts := atoms_spec (ws := wsL_find) B.pre
  have F : kx_F p s m c cL_find 5 RL _ wsL_find G z0 := ⟨B.exec, B.bytes, hml, findClass_of_methodNamed B.named, hts, hV⟩
  have htb : c.exceptionTable.toList = tableOf [(0, 10, 13, 20), (0, 10, 17, 15)] := vx_table (x := yL_find) B (hts (.codeWith yL_find cL_find 5 (some .int) [(0, 10, 13, 20), (0, 10, 17, 15)]) List.mem_cons_self)
  have hx := B.exec; have hb := B.bytes; have hr := B.returns; have hlocks := B.notSynchronized
  have hS : va_S (kx_Ad z0) s.heap s.heap [] := va_S.rf
  have hl := lv_entry ([.ref (ad 0 0), .int x, .int y, .ref (ad 32 0)]) (n := 5) (Nat.le_of_ble_eq_true rfl)
  rw [lg_entry_eq]
  generalize (lg_sl ([.ref (ad 0 0), .int x, .int y, .ref (ad 32 0)]) ++ List.replicate (5 - (lg_sl ([.ref (ad 0 0), .int x, .int y, .ref (ad 32 0)])).length) Slot.unset).toArray = ls at hl ⊢
  have hl : lv_has ls 5 [(0, .ref (ad 0 0)), (1, .int x), (2, .int y), (3, .ref (ad 32 0))] := hl
  refine lv_aload_n hx hb dL_find_0 rfl (lv_at hl 3 rfl) ?_
  refine lv_iconst (v := 0) hx hb dL_find_1 (by decide) ?_
  refine lv_aload_n hx hb dL_find_2 rfl (lv_at hl 0 rfl) ?_
  refine lv_iload_n hx hb dL_find_3 rfl (lv_at hl 1 rfl) ?_
  refine lv_iload_n hx hb dL_find_4 rfl (lv_at hl 2 rfl) ?_
  refine kx_xV (na := 2) F (q := 0) (n := 0) (c_X3_find l hlf G z0 ad nb sg hC x y) gL_find_X3_find rfl (by decide +kernel) ⟨Nat.le_of_ble_eq_true rfl, Nat.le_of_ble_eq_true rfl⟩ hW hS ⟨by decide, rfl⟩ rfl rfl (As := [.int x, .int y]) (rest := [.int 0, .ref (ad 32 0)]) rfl hl.1 rfl (Nat.le_of_ble_eq_true rfl) dL_find_5 ⟨by first | exact Nat.le_of_ble_eq_true rfl | omega, by first | exact Nat.le_of_ble_eq_true rfl | omega⟩ (fun E9 ce9 q9 H locs hp9 hW hS h7 h8 h9 => ?_) (fun r9 sg9 H locs hq hW hS => ?_)
  · have hp9 : cx_find nb sg x y E9 := hp9
    rcases ce_find hp9 with rfl | rfl
    · refine kx_ct F htb [] ⟨0, 10, 13, 20⟩ [⟨0, 10, 17, 15⟩] rfl (by simp) (by decide) (by decide) (by decide +kernel) (by decide +kernel) h7 h8 h9 ?_
      refine lv_astore (lv' := [(4, .ref q9), (0, .ref (ad 0 0)), (1, .int x), (2, .int y), (3, .ref (ad 32 0))]) hx hb dL_find_13 hl (by decide) rfl (fun ls hl => ?_)
      refine lv_iconst (v := 1) hx hb dL_find_15 (by decide) ?_
      refine vx_ret ?_
      exact kx_ri F hr hlocks hW hS (by first | exact Nat.le_of_ble_eq_true rfl | omega) (by first | exact Nat.le_of_ble_eq_true rfl | omega) (Or.inr ⟨1, _, rfl, rfl, hp9, Or.inl ⟨rfl, rfl⟩⟩) dL_find_16
    · refine kx_ct F htb [⟨0, 10, 13, 20⟩] ⟨0, 10, 17, 15⟩ [] rfl (by intro z hz; simp only [List.mem_cons, List.not_mem_nil, or_false] at hz; subst hz; exact ⟨by decide, "java/lang/IndexOutOfBoundsException", by decide +kernel, by decide +kernel⟩) (by decide) (by decide) (by decide +kernel) (by decide +kernel) h7 h8 h9 ?_
      refine lv_astore (lv' := [(4, .ref q9), (0, .ref (ad 0 0)), (1, .int x), (2, .int y), (3, .ref (ad 32 0))]) hx hb dL_find_17 hl (by decide) rfl (fun ls hl => ?_)
      refine lv_iconst (v := 2) hx hb dL_find_19 (by decide) ?_
      refine vx_ret ?_
      exact kx_ri F hr hlocks hW hS (by first | exact Nat.le_of_ble_eq_true rfl | omega) (by first | exact Nat.le_of_ble_eq_true rfl | omega) (Or.inr ⟨2, _, rfl, rfl, hp9, Or.inr (⟨rfl, rfl⟩)⟩) dL_find_20
  have hq : cq_find nb sg x y r9 sg9 := hq
  obtain ⟨v9, hv9⟩ := ci_find hq
  subst hv9
  have hW : kx_Wd G z0 ad nb (sg9) H := by first | exact hW | (simp only [kx_up_s, kx_up_up] at hW; exact hW) | (simp only [kx_up_s, kx_up_up, upd_s] at hW; exact hW)
  refine W.eq (g2 := F0 m 8 ls [.int v9, .int 0, .ref (ad 32 0)]) rfl ?_
  refine lv_i2l (v := Int32.toInt64 v9) hx hb dL_find_8 rfl ?_
  refine kx_last F hW hS (x := v9) rfl dL_find_9 (fun H locs hW hS => ?_)
  have hW : kx_Wd G z0 ad nb (kx_up sg9 32 0 (upd (sg9 32 0) 0 v9)) H := by first | exact hW | (simp only [kx_up_s, kx_up_up] at hW; exact hW) | (simp only [kx_up_s, kx_up_up, upd_s] at hW; exact hW)
  refine lv_goto (tgt := 21) hx hb dL_find_10 (by decide) ?_
  refine lv_iconst (v := 0) hx hb dL_find_21 (by decide) ?_
  refine vx_ret ?_
  exact kx_ri F hr hlocks hW hS (by first | exact Nat.le_of_ble_eq_true rfl | omega) (by first | exact Nat.le_of_ble_eq_true rfl | omega) (Or.inl ⟨v9, sg9, rfl, hq, rfl⟩) dL_find_22

theorem ci_setDoor {nb : Nat} {s s1 : kx_S} {x y : Int32} {r : Option Value} (h : cq_setDoor nb s x y r s1) : ∃ a : Int32, r = some (.int a) := by
  unfold cq_setDoor at h
  grind

theorem ce_setDoor {nb : Nat} {s : kx_S} {x y : Int32} {E : String} (h : cx_setDoor nb s x y E) : E = kx_ioe ∨ E = kx_iae ∨ E = kx_ise := by
  unfold cx_setDoor at h
  grind

set_option maxHeartbeats 1000000 in
set_option maxRecDepth 100000 in
theorem c_L_setDoor (l : Launch) (hlf : l.stackTraces = false) (G : kx_G) (z0 : Nat) (ad : kx_A) (nb : Nat) (sg : kx_S) (hC : tw_CI nb sg) (x y : Int32) : kx_MX l yL_setDoor wsL_setDoor 8 135 2 12 G z0 ad nb sg [.ref (ad 0 0), .int x, .int y, .ref (ad 32 0)] (fun r sg' => (∃ (a : Int32) (sgc : kx_S), r = some (.int 0) ∧ cq_setDoor nb sg x y (some (.int a)) sgc ∧ sg' = kx_up sgc 32 0 (upd (sgc 32 0) 0 a)) ∨ (∃ (k : Int32) (E : String), r = some (.int k) ∧ sg' = sg ∧ cx_setDoor nb sg x y E ∧ ((E = kx_ioe ∧ k = 1) ∨ (E = kx_iae ∧ k = 2) ∨ (E = kx_ise ∧ k = 3)))) (fun _ => False) := by
  refine vx_ofWH (hh := [(0, 10, 13, 20), (0, 10, 17, 13), (0, 10, 21, 15)]) (cc := cL_setDoor) (maxL := 5) (ret := (some .int)) (by decide) rfl ?_
  intro p e s m args below meth c s₁ B hml hv
  obtain ⟨rfl, hW, hV⟩ := hv
  have hts := atoms_spec (ws := wsL_setDoor) B.pre
  have F : kx_F p s m c cL_setDoor 5 RL _ wsL_setDoor G z0 := ⟨B.exec, B.bytes, hml, findClass_of_methodNamed B.named, hts, hV⟩
  have htb : c.exceptionTable.toList = tableOf [(0, 10, 13, 20), (0, 10, 17, 13), (0, 10, 21, 15)] := vx_table (x := yL_setDoor) B (hts (.codeWith yL_setDoor cL_setDoor 5 (some .int) [(0, 10, 13, 20), (0, 10, 17, 13), (0, 10, 21, 15)]) List.mem_cons_self)
  have hx := B.exec; have hb := B.bytes; have hr := B.returns; have hlocks := B.notSynchronized
  have hS : va_S (kx_Ad z0) s.heap s.heap [] := va_S.rf
  have hl := lv_entry ([.ref (ad 0 0), .int x, .int y, .ref (ad 32 0)]) (n := 5) (Nat.le_of_ble_eq_true rfl)
  rw [lg_entry_eq]
  generalize (lg_sl ([.ref (ad 0 0), .int x, .int y, .ref (ad 32 0)]) ++ List.replicate (5 - (lg_sl ([.ref (ad 0 0), .int x, .int y, .ref (ad 32 0)])).length) Slot.unset).toArray = ls at hl ⊢
  have hl : lv_has ls 5 [(0, .ref (ad 0 0)), (1, .int x), (2, .int y), (3, .ref (ad 32 0))] := hl
  refine lv_aload_n hx hb dL_setDoor_0 rfl (lv_at hl 3 rfl) ?_
  refine lv_iconst (v := 0) hx hb dL_setDoor_1 (by decide) ?_
  refine lv_aload_n hx hb dL_setDoor_2 rfl (lv_at hl 0 rfl) ?_
  refine lv_iload_n hx hb dL_setDoor_3 rfl (lv_at hl 1 rfl) ?_
  refine lv_iload_n hx hb dL_setDoor_4 rfl (lv_at hl 2 rfl) ?_
  refine kx_xV (na := 2) F (q := 0) (n := 0) (c_X3_setDoor l hlf G z0 ad nb sg hC x y) gL_setDoor_X3_setDoor rfl (by decide +kernel) ⟨Nat.le_of_ble_eq_true rfl, Nat.le_of_ble_eq_true rfl⟩ hW hS ⟨by decide, rfl⟩ rfl rfl (As := [.int x, .int y]) (rest := [.int 0, .ref (ad 32 0)]) rfl hl.1 rfl (Nat.le_of_ble_eq_true rfl) dL_setDoor_5 ⟨by first | exact Nat.le_of_ble_eq_true rfl | omega, by first | exact Nat.le_of_ble_eq_true rfl | omega⟩ (fun E9 ce9 q9 H locs hp9 hW hS h7 h8 h9 => ?_) (fun r9 sg9 H locs hq hW hS => ?_)
  · have hp9 : cx_setDoor nb sg x y E9 := hp9
    rcases ce_setDoor hp9 with rfl | rfl | rfl
    · refine kx_ct F htb [] ⟨0, 10, 13, 20⟩ [⟨0, 10, 17, 13⟩, ⟨0, 10, 21, 15⟩] rfl (by simp) (by decide) (by decide) (by decide +kernel) (by decide +kernel) h7 h8 h9 ?_
      refine lv_astore (lv' := [(4, .ref q9), (0, .ref (ad 0 0)), (1, .int x), (2, .int y), (3, .ref (ad 32 0))]) hx hb dL_setDoor_13 hl (by decide) rfl (fun ls hl => ?_)
      refine lv_iconst (v := 1) hx hb dL_setDoor_15 (by decide) ?_
      refine vx_ret ?_
      exact kx_ri F hr hlocks hW hS (by first | exact Nat.le_of_ble_eq_true rfl | omega) (by first | exact Nat.le_of_ble_eq_true rfl | omega) (Or.inr ⟨1, _, rfl, rfl, hp9, Or.inl ⟨rfl, rfl⟩⟩) dL_setDoor_16
    · refine kx_ct F htb [⟨0, 10, 13, 20⟩] ⟨0, 10, 17, 13⟩ [⟨0, 10, 21, 15⟩] rfl (by intro z hz; simp only [List.mem_cons, List.not_mem_nil, or_false] at hz; subst hz; exact ⟨by decide, "java/lang/IndexOutOfBoundsException", by decide +kernel, by decide +kernel⟩) (by decide) (by decide) (by decide +kernel) (by decide +kernel) h7 h8 h9 ?_
      refine lv_astore (lv' := [(4, .ref q9), (0, .ref (ad 0 0)), (1, .int x), (2, .int y), (3, .ref (ad 32 0))]) hx hb dL_setDoor_17 hl (by decide) rfl (fun ls hl => ?_)
      refine lv_iconst (v := 2) hx hb dL_setDoor_19 (by decide) ?_
      refine vx_ret ?_
      exact kx_ri F hr hlocks hW hS (by first | exact Nat.le_of_ble_eq_true rfl | omega) (by first | exact Nat.le_of_ble_eq_true rfl | omega) (Or.inr ⟨2, _, rfl, rfl, hp9, Or.inr (Or.inl ⟨rfl, rfl⟩)⟩) dL_setDoor_20
    · refine kx_ct F htb [⟨0, 10, 13, 20⟩, ⟨0, 10, 17, 13⟩] ⟨0, 10, 21, 15⟩ [] rfl (by intro z hz; simp only [List.mem_cons, List.not_mem_nil, or_false] at hz; rcases hz with rfl | rfl; exact ⟨by decide, "java/lang/IndexOutOfBoundsException", by decide +kernel, by decide +kernel⟩; exact ⟨by decide, "java/lang/IllegalArgumentException", by decide +kernel, by decide +kernel⟩) (by decide) (by decide) (by decide +kernel) (by decide +kernel) h7 h8 h9 ?_
      refine lv_astore (lv' := [(4, .ref q9), (0, .ref (ad 0 0)), (1, .int x), (2, .int y), (3, .ref (ad 32 0))]) hx hb dL_setDoor_21 hl (by decide) rfl (fun ls hl => ?_)
      refine lv_iconst (v := 3) hx hb dL_setDoor_23 (by decide) ?_
      refine vx_ret ?_
      exact kx_ri F hr hlocks hW hS (by first | exact Nat.le_of_ble_eq_true rfl | omega) (by first | exact Nat.le_of_ble_eq_true rfl | omega) (Or.inr ⟨3, _, rfl, rfl, hp9, Or.inr (Or.inr (⟨rfl, rfl⟩))⟩) dL_setDoor_24
  have hq : cq_setDoor nb sg x y r9 sg9 := hq
  obtain ⟨v9, hv9⟩ := ci_setDoor hq
  subst hv9
  have hW : kx_Wd G z0 ad nb (sg9) H := by first | exact hW | (simp only [kx_up_s, kx_up_up] at hW; exact hW) | (simp only [kx_up_s, kx_up_up, upd_s] at hW; exact hW)
  refine W.eq (g2 := F0 m 8 ls [.int v9, .int 0, .ref (ad 32 0)]) rfl ?_
  refine lv_i2l (v := Int32.toInt64 v9) hx hb dL_setDoor_8 rfl ?_
  refine kx_last F hW hS (x := v9) rfl dL_setDoor_9 (fun H locs hW hS => ?_)
  have hW : kx_Wd G z0 ad nb (kx_up sg9 32 0 (upd (sg9 32 0) 0 v9)) H := by first | exact hW | (simp only [kx_up_s, kx_up_up] at hW; exact hW) | (simp only [kx_up_s, kx_up_up, upd_s] at hW; exact hW)
  refine lv_goto (tgt := 25) hx hb dL_setDoor_10 (by decide) ?_
  refine lv_iconst (v := 0) hx hb dL_setDoor_25 (by decide) ?_
  refine vx_ret ?_
  exact kx_ri F hr hlocks hW hS (by first | exact Nat.le_of_ble_eq_true rfl | omega) (by first | exact Nat.le_of_ble_eq_true rfl | omega) (Or.inl ⟨v9, sg9, rfl, hq, rfl⟩) dL_setDoor_26

theorem ci_keep {nb : Nat} {s s1 : kx_S} {x y : Int32} {r : Option Value} (h : cq_keep nb s x y r s1) : ∃ a : Int32, r = some (.int a) := by
  unfold cq_keep at h
  grind

theorem ce_keep {nb : Nat} {s : kx_S} {x y : Int32} {E : String} (h : cx_keep nb s x y E) : E = kx_ioe ∨ E = kx_ise := by
  unfold cx_keep at h
  grind

set_option maxHeartbeats 1000000 in
set_option maxRecDepth 100000 in
theorem c_L_keep (l : Launch) (hlf : l.stackTraces = false) (G : kx_G) (z0 : Nat) (ad : kx_A) (nb : Nat) (sg : kx_S) (hC : tw_CI nb sg) (x y : Int32) : kx_MX l yL_keep wsL_keep 8 135 3 18 G z0 ad nb sg [.ref (ad 0 0), .int x, .int y, .ref (ad 32 0)] (fun r sg' => (∃ (a : Int32) (sgc : kx_S), r = some (.int 0) ∧ cq_keep nb sg x y (some (.int a)) sgc ∧ sg' = kx_up sgc 32 0 (upd (sgc 32 0) 0 a)) ∨ (∃ (k : Int32) (E : String), r = some (.int k) ∧ sg' = sg ∧ cx_keep nb sg x y E ∧ ((E = kx_ioe ∧ k = 1) ∨ (E = kx_ise ∧ k = 2)))) (fun _ => False) := by
  refine vx_ofWH (hh := [(0, 10, 13, 20), (0, 10, 17, 15)]) (cc := cL_keep) (maxL := 5) (ret := (some .int)) (by decide) rfl ?_
  intro p e s m args below meth c s₁ B hml hv
  obtain ⟨rfl, hW, hV⟩ := hv
  have hts := atoms_spec (ws := wsL_keep) B.pre
  have F : kx_F p s m c cL_keep 5 RL _ wsL_keep G z0 := ⟨B.exec, B.bytes, hml, findClass_of_methodNamed B.named, hts, hV⟩
  have htb : c.exceptionTable.toList = tableOf [(0, 10, 13, 20), (0, 10, 17, 15)] := vx_table (x := yL_keep) B (hts (.codeWith yL_keep cL_keep 5 (some .int) [(0, 10, 13, 20), (0, 10, 17, 15)]) List.mem_cons_self)
  have hx := B.exec; have hb := B.bytes; have hr := B.returns; have hlocks := B.notSynchronized
  have hS : va_S (kx_Ad z0) s.heap s.heap [] := va_S.rf
  have hl := lv_entry ([.ref (ad 0 0), .int x, .int y, .ref (ad 32 0)]) (n := 5) (Nat.le_of_ble_eq_true rfl)
  rw [lg_entry_eq]
  generalize (lg_sl ([.ref (ad 0 0), .int x, .int y, .ref (ad 32 0)]) ++ List.replicate (5 - (lg_sl ([.ref (ad 0 0), .int x, .int y, .ref (ad 32 0)])).length) Slot.unset).toArray = ls at hl ⊢
  have hl : lv_has ls 5 [(0, .ref (ad 0 0)), (1, .int x), (2, .int y), (3, .ref (ad 32 0))] := hl
  refine lv_aload_n hx hb dL_keep_0 rfl (lv_at hl 3 rfl) ?_
  refine lv_iconst (v := 0) hx hb dL_keep_1 (by decide) ?_
  refine lv_aload_n hx hb dL_keep_2 rfl (lv_at hl 0 rfl) ?_
  refine lv_iload_n hx hb dL_keep_3 rfl (lv_at hl 1 rfl) ?_
  refine lv_iload_n hx hb dL_keep_4 rfl (lv_at hl 2 rfl) ?_
  refine kx_xV (na := 2) F (q := 0) (n := 0) (c_X3_keep l hlf G z0 ad nb sg hC x y) gL_keep_X3_keep rfl (by decide +kernel) ⟨Nat.le_of_ble_eq_true rfl, Nat.le_of_ble_eq_true rfl⟩ hW hS ⟨by decide, rfl⟩ rfl rfl (As := [.int x, .int y]) (rest := [.int 0, .ref (ad 32 0)]) rfl hl.1 rfl (Nat.le_of_ble_eq_true rfl) dL_keep_5 ⟨by first | exact Nat.le_of_ble_eq_true rfl | omega, by first | exact Nat.le_of_ble_eq_true rfl | omega⟩ (fun E9 ce9 q9 H locs hp9 hW hS h7 h8 h9 => ?_) (fun r9 sg9 H locs hq hW hS => ?_)
  · have hp9 : cx_keep nb sg x y E9 := hp9
    rcases ce_keep hp9 with rfl | rfl
    · refine kx_ct F htb [] ⟨0, 10, 13, 20⟩ [⟨0, 10, 17, 15⟩] rfl (by simp) (by decide) (by decide) (by decide +kernel) (by decide +kernel) h7 h8 h9 ?_
      refine lv_astore (lv' := [(4, .ref q9), (0, .ref (ad 0 0)), (1, .int x), (2, .int y), (3, .ref (ad 32 0))]) hx hb dL_keep_13 hl (by decide) rfl (fun ls hl => ?_)
      refine lv_iconst (v := 1) hx hb dL_keep_15 (by decide) ?_
      refine vx_ret ?_
      exact kx_ri F hr hlocks hW hS (by first | exact Nat.le_of_ble_eq_true rfl | omega) (by first | exact Nat.le_of_ble_eq_true rfl | omega) (Or.inr ⟨1, _, rfl, rfl, hp9, Or.inl ⟨rfl, rfl⟩⟩) dL_keep_16
    · refine kx_ct F htb [⟨0, 10, 13, 20⟩] ⟨0, 10, 17, 15⟩ [] rfl (by intro z hz; simp only [List.mem_cons, List.not_mem_nil, or_false] at hz; subst hz; exact ⟨by decide, "java/lang/IndexOutOfBoundsException", by decide +kernel, by decide +kernel⟩) (by decide) (by decide) (by decide +kernel) (by decide +kernel) h7 h8 h9 ?_
      refine lv_astore (lv' := [(4, .ref q9), (0, .ref (ad 0 0)), (1, .int x), (2, .int y), (3, .ref (ad 32 0))]) hx hb dL_keep_17 hl (by decide) rfl (fun ls hl => ?_)
      refine lv_iconst (v := 2) hx hb dL_keep_19 (by decide) ?_
      refine vx_ret ?_
      exact kx_ri F hr hlocks hW hS (by first | exact Nat.le_of_ble_eq_true rfl | omega) (by first | exact Nat.le_of_ble_eq_true rfl | omega) (Or.inr ⟨2, _, rfl, rfl, hp9, Or.inr (⟨rfl, rfl⟩)⟩) dL_keep_20
  have hq : cq_keep nb sg x y r9 sg9 := hq
  obtain ⟨v9, hv9⟩ := ci_keep hq
  subst hv9
  have hW : kx_Wd G z0 ad nb (sg9) H := by first | exact hW | (simp only [kx_up_s, kx_up_up] at hW; exact hW) | (simp only [kx_up_s, kx_up_up, upd_s] at hW; exact hW)
  refine W.eq (g2 := F0 m 8 ls [.int v9, .int 0, .ref (ad 32 0)]) rfl ?_
  refine lv_i2l (v := Int32.toInt64 v9) hx hb dL_keep_8 rfl ?_
  refine kx_last F hW hS (x := v9) rfl dL_keep_9 (fun H locs hW hS => ?_)
  have hW : kx_Wd G z0 ad nb (kx_up sg9 32 0 (upd (sg9 32 0) 0 v9)) H := by first | exact hW | (simp only [kx_up_s, kx_up_up] at hW; exact hW) | (simp only [kx_up_s, kx_up_up, upd_s] at hW; exact hW)
  refine lv_goto (tgt := 21) hx hb dL_keep_10 (by decide) ?_
  refine lv_iconst (v := 0) hx hb dL_keep_21 (by decide) ?_
  refine vx_ret ?_
  exact kx_ri F hr hlocks hW hS (by first | exact Nat.le_of_ble_eq_true rfl | omega) (by first | exact Nat.le_of_ble_eq_true rfl | omega) (Or.inl ⟨v9, sg9, rfl, hq, rfl⟩) dL_keep_22

theorem ci_open {nb : Nat} {s s1 : kx_S} {x y : Int32} {r : Option Value} (h : cq_open nb s x y r s1) : ∃ a : Int32, r = some (.int a) := by
  unfold cq_open at h
  grind

theorem ce_open {nb : Nat} {s : kx_S} {x y : Int32} {E : String} (h : cx_open nb s x y E) : E = kx_ioe ∨ E = kx_iae ∨ E = kx_ise := by
  unfold cx_open at h
  grind

set_option maxHeartbeats 1000000 in
set_option maxRecDepth 100000 in
theorem c_L_open (l : Launch) (hlf : l.stackTraces = false) (G : kx_G) (z0 : Nat) (ad : kx_A) (nb : Nat) (sg : kx_S) (hC : tw_CI nb sg) (x y : Int32) : kx_MX l yL_open wsL_open 8 161 3 18 G z0 ad nb sg [.ref (ad 0 0), .int x, .int y, .ref (ad 32 0)] (fun r sg' => (∃ (a : Int32) (sgc : kx_S), r = some (.int 0) ∧ cq_open nb sg x y (some (.int a)) sgc ∧ sg' = kx_up sgc 32 0 (upd (sgc 32 0) 0 a)) ∨ (∃ (k : Int32) (E : String), r = some (.int k) ∧ sg' = sg ∧ cx_open nb sg x y E ∧ ((E = kx_ioe ∧ k = 1) ∨ (E = kx_iae ∧ k = 2) ∨ (E = kx_ise ∧ k = 3)))) (fun _ => False) := by
  refine vx_ofWH (hh := [(0, 10, 13, 20), (0, 10, 17, 13), (0, 10, 21, 15)]) (cc := cL_open) (maxL := 5) (ret := (some .int)) (by decide) rfl ?_
  intro p e s m args below meth c s₁ B hml hv
  obtain ⟨rfl, hW, hV⟩ := hv
  have hts := atoms_spec (ws := wsL_open) B.pre
  have F : kx_F p s m c cL_open 5 RL _ wsL_open G z0 := ⟨B.exec, B.bytes, hml, findClass_of_methodNamed B.named, hts, hV⟩
  have htb : c.exceptionTable.toList = tableOf [(0, 10, 13, 20), (0, 10, 17, 13), (0, 10, 21, 15)] := vx_table (x := yL_open) B (hts (.codeWith yL_open cL_open 5 (some .int) [(0, 10, 13, 20), (0, 10, 17, 13), (0, 10, 21, 15)]) List.mem_cons_self)
  have hx := B.exec; have hb := B.bytes; have hr := B.returns; have hlocks := B.notSynchronized
  have hS : va_S (kx_Ad z0) s.heap s.heap [] := va_S.rf
  have hl := lv_entry ([.ref (ad 0 0), .int x, .int y, .ref (ad 32 0)]) (n := 5) (Nat.le_of_ble_eq_true rfl)
  rw [lg_entry_eq]
  generalize (lg_sl ([.ref (ad 0 0), .int x, .int y, .ref (ad 32 0)]) ++ List.replicate (5 - (lg_sl ([.ref (ad 0 0), .int x, .int y, .ref (ad 32 0)])).length) Slot.unset).toArray = ls at hl ⊢
  have hl : lv_has ls 5 [(0, .ref (ad 0 0)), (1, .int x), (2, .int y), (3, .ref (ad 32 0))] := hl
  refine lv_aload_n hx hb dL_open_0 rfl (lv_at hl 3 rfl) ?_
  refine lv_iconst (v := 0) hx hb dL_open_1 (by decide) ?_
  refine lv_aload_n hx hb dL_open_2 rfl (lv_at hl 0 rfl) ?_
  refine lv_iload_n hx hb dL_open_3 rfl (lv_at hl 1 rfl) ?_
  refine lv_iload_n hx hb dL_open_4 rfl (lv_at hl 2 rfl) ?_
  refine kx_xV (na := 2) F (q := 0) (n := 0) (c_X3_open l hlf G z0 ad nb sg hC x y) gL_open_X3_open rfl (by decide +kernel) ⟨Nat.le_of_ble_eq_true rfl, Nat.le_of_ble_eq_true rfl⟩ hW hS ⟨by decide, rfl⟩ rfl rfl (As := [.int x, .int y]) (rest := [.int 0, .ref (ad 32 0)]) rfl hl.1 rfl (Nat.le_of_ble_eq_true rfl) dL_open_5 ⟨by first | exact Nat.le_of_ble_eq_true rfl | omega, by first | exact Nat.le_of_ble_eq_true rfl | omega⟩ (fun E9 ce9 q9 H locs hp9 hW hS h7 h8 h9 => ?_) (fun r9 sg9 H locs hq hW hS => ?_)
  · have hp9 : cx_open nb sg x y E9 := hp9
    rcases ce_open hp9 with rfl | rfl | rfl
    · refine kx_ct F htb [] ⟨0, 10, 13, 20⟩ [⟨0, 10, 17, 13⟩, ⟨0, 10, 21, 15⟩] rfl (by simp) (by decide) (by decide) (by decide +kernel) (by decide +kernel) h7 h8 h9 ?_
      refine lv_astore (lv' := [(4, .ref q9), (0, .ref (ad 0 0)), (1, .int x), (2, .int y), (3, .ref (ad 32 0))]) hx hb dL_open_13 hl (by decide) rfl (fun ls hl => ?_)
      refine lv_iconst (v := 1) hx hb dL_open_15 (by decide) ?_
      refine vx_ret ?_
      exact kx_ri F hr hlocks hW hS (by first | exact Nat.le_of_ble_eq_true rfl | omega) (by first | exact Nat.le_of_ble_eq_true rfl | omega) (Or.inr ⟨1, _, rfl, rfl, hp9, Or.inl ⟨rfl, rfl⟩⟩) dL_open_16
    · refine kx_ct F htb [⟨0, 10, 13, 20⟩] ⟨0, 10, 17, 13⟩ [⟨0, 10, 21, 15⟩] rfl (by intro z hz; simp only [List.mem_cons, List.not_mem_nil, or_false] at hz; subst hz; exact ⟨by decide, "java/lang/IndexOutOfBoundsException", by decide +kernel, by decide +kernel⟩) (by decide) (by decide) (by decide +kernel) (by decide +kernel) h7 h8 h9 ?_
      refine lv_astore (lv' := [(4, .ref q9), (0, .ref (ad 0 0)), (1, .int x), (2, .int y), (3, .ref (ad 32 0))]) hx hb dL_open_17 hl (by decide) rfl (fun ls hl => ?_)
      refine lv_iconst (v := 2) hx hb dL_open_19 (by decide) ?_
      refine vx_ret ?_
      exact kx_ri F hr hlocks hW hS (by first | exact Nat.le_of_ble_eq_true rfl | omega) (by first | exact Nat.le_of_ble_eq_true rfl | omega) (Or.inr ⟨2, _, rfl, rfl, hp9, Or.inr (Or.inl ⟨rfl, rfl⟩)⟩) dL_open_20
    · refine kx_ct F htb [⟨0, 10, 13, 20⟩, ⟨0, 10, 17, 13⟩] ⟨0, 10, 21, 15⟩ [] rfl (by intro z hz; simp only [List.mem_cons, List.not_mem_nil, or_false] at hz; rcases hz with rfl | rfl; exact ⟨by decide, "java/lang/IndexOutOfBoundsException", by decide +kernel, by decide +kernel⟩; exact ⟨by decide, "java/lang/IllegalArgumentException", by decide +kernel, by decide +kernel⟩) (by decide) (by decide) (by decide +kernel) (by decide +kernel) h7 h8 h9 ?_
      refine lv_astore (lv' := [(4, .ref q9), (0, .ref (ad 0 0)), (1, .int x), (2, .int y), (3, .ref (ad 32 0))]) hx hb dL_open_21 hl (by decide) rfl (fun ls hl => ?_)
      refine lv_iconst (v := 3) hx hb dL_open_23 (by decide) ?_
      refine vx_ret ?_
      exact kx_ri F hr hlocks hW hS (by first | exact Nat.le_of_ble_eq_true rfl | omega) (by first | exact Nat.le_of_ble_eq_true rfl | omega) (Or.inr ⟨3, _, rfl, rfl, hp9, Or.inr (Or.inr (⟨rfl, rfl⟩))⟩) dL_open_24
  have hq : cq_open nb sg x y r9 sg9 := hq
  obtain ⟨v9, hv9⟩ := ci_open hq
  subst hv9
  have hW : kx_Wd G z0 ad nb (sg9) H := by first | exact hW | (simp only [kx_up_s, kx_up_up] at hW; exact hW) | (simp only [kx_up_s, kx_up_up, upd_s] at hW; exact hW)
  refine W.eq (g2 := F0 m 8 ls [.int v9, .int 0, .ref (ad 32 0)]) rfl ?_
  refine lv_i2l (v := Int32.toInt64 v9) hx hb dL_open_8 rfl ?_
  refine kx_last F hW hS (x := v9) rfl dL_open_9 (fun H locs hW hS => ?_)
  have hW : kx_Wd G z0 ad nb (kx_up sg9 32 0 (upd (sg9 32 0) 0 v9)) H := by first | exact hW | (simp only [kx_up_s, kx_up_up] at hW; exact hW) | (simp only [kx_up_s, kx_up_up, upd_s] at hW; exact hW)
  refine lv_goto (tgt := 25) hx hb dL_open_10 (by decide) ?_
  refine lv_iconst (v := 0) hx hb dL_open_25 (by decide) ?_
  refine vx_ret ?_
  exact kx_ri F hr hlocks hW hS (by first | exact Nat.le_of_ble_eq_true rfl | omega) (by first | exact Nat.le_of_ble_eq_true rfl | omega) (Or.inl ⟨v9, sg9, rfl, hq, rfl⟩) dL_open_26

theorem ci_jam {nb : Nat} {s s1 : kx_S} {x z : Int32} {r : Option Value} (h : cq_jam nb s x z r s1) : ∃ a : Int32, r = some (.int a) := by
  unfold cq_jam at h
  grind

theorem ce_jam {nb : Nat} {s : kx_S} {x z : Int32} {E : String} (h : cx_jam nb s x z E) : E = kx_ioe := by
  unfold cx_jam at h
  grind

theorem cb_jam {nb : Nat} {s s1 : kx_S} {x z a : Int32} (hC : tw_CI nb s) (h : cq_jam nb s x z (some (.int a)) s1) : tw_01 a := by
  obtain ⟨-, -, h1, h2, -⟩ := hC
  unfold cq_jam at h
  grind

set_option maxHeartbeats 1000000 in
set_option maxRecDepth 100000 in
theorem c_L_jam (l : Launch) (hlf : l.stackTraces = false) (G : kx_G) (z0 : Nat) (ad : kx_A) (nb : Nat) (sg : kx_S) (hC : tw_CI nb sg) (x z : Int32) (hz : tw_01 z) : kx_MX l yL_jam wsL_jam 8 135 1 6 G z0 ad nb sg [.ref (ad 0 0), .int x, .int z, .ref (ad 32 0)] (fun r sg' => (∃ (a : Int32) (sgc : kx_S), r = some (.int 0) ∧ cq_jam nb sg x z (some (.int a)) sgc ∧ sg' = kx_up sgc 32 0 (upd (sgc 32 0) 0 a)) ∨ (∃ (k : Int32) (E : String), r = some (.int k) ∧ sg' = sg ∧ cx_jam nb sg x z E ∧ ((E = kx_ioe ∧ k = 1)))) (fun _ => False) := by
  refine vx_ofWH (hh := [(0, 17, 20, 20)]) (cc := cL_jam) (maxL := 5) (ret := (some .int)) (by decide) rfl ?_
  intro p e s m args below meth c s₁ B hml hv
  obtain ⟨rfl, hW, hV⟩ := hv
  have hts := atoms_spec (ws := wsL_jam) B.pre
  have F : kx_F p s m c cL_jam 5 RL _ wsL_jam G z0 := ⟨B.exec, B.bytes, hml, findClass_of_methodNamed B.named, hts, hV⟩
  have htb : c.exceptionTable.toList = tableOf [(0, 17, 20, 20)] := vx_table (x := yL_jam) B (hts (.codeWith yL_jam cL_jam 5 (some .int) [(0, 17, 20, 20)]) List.mem_cons_self)
  have hx := B.exec; have hb := B.bytes; have hr := B.returns; have hlocks := B.notSynchronized
  have hS : va_S (kx_Ad z0) s.heap s.heap [] := va_S.rf
  have hl := lv_entry ([.ref (ad 0 0), .int x, .int z, .ref (ad 32 0)]) (n := 5) (Nat.le_of_ble_eq_true rfl)
  rw [lg_entry_eq]
  generalize (lg_sl ([.ref (ad 0 0), .int x, .int z, .ref (ad 32 0)]) ++ List.replicate (5 - (lg_sl ([.ref (ad 0 0), .int x, .int z, .ref (ad 32 0)])).length) Slot.unset).toArray = ls at hl ⊢
  have hl : lv_has ls 5 [(0, .ref (ad 0 0)), (1, .int x), (2, .int z), (3, .ref (ad 32 0))] := hl
  refine lv_aload_n hx hb dL_jam_0 rfl (lv_at hl 3 rfl) ?_
  refine lv_iconst (v := 0) hx hb dL_jam_1 (by decide) ?_
  refine lv_aload_n hx hb dL_jam_2 rfl (lv_at hl 0 rfl) ?_
  refine lv_iload_n hx hb dL_jam_3 rfl (lv_at hl 1 rfl) ?_
  refine lv_iload_n hx hb dL_jam_4 rfl (lv_at hl 2 rfl) ?_
  refine kx_xV (na := 2) F (q := 0) (n := 0) (c_X3_jam l hlf G z0 ad nb sg hC x z hz) gL_jam_X3_jam rfl (by decide +kernel) ⟨Nat.le_of_ble_eq_true rfl, Nat.le_of_ble_eq_true rfl⟩ hW hS ⟨by decide, rfl⟩ rfl rfl (As := [.int x, .int z]) (rest := [.int 0, .ref (ad 32 0)]) rfl hl.1 rfl (Nat.le_of_ble_eq_true rfl) dL_jam_5 ⟨by first | exact Nat.le_of_ble_eq_true rfl | omega, by first | exact Nat.le_of_ble_eq_true rfl | omega⟩ (fun E9 ce9 q9 H locs hp9 hW hS h7 h8 h9 => ?_) (fun r9 sg9 H locs hq hW hS => ?_)
  · have hp9 : cx_jam nb sg x z E9 := hp9
    obtain rfl := ce_jam hp9
    · refine kx_ct F htb [] ⟨0, 17, 20, 20⟩ [] rfl (by simp) (by decide) (by decide) (by decide +kernel) (by decide +kernel) h7 h8 h9 ?_
      refine lv_astore (lv' := [(4, .ref q9), (0, .ref (ad 0 0)), (1, .int x), (2, .int z), (3, .ref (ad 32 0))]) hx hb dL_jam_20 hl (by decide) rfl (fun ls hl => ?_)
      refine lv_iconst (v := 1) hx hb dL_jam_22 (by decide) ?_
      refine vx_ret ?_
      exact kx_ri F hr hlocks hW hS (by first | exact Nat.le_of_ble_eq_true rfl | omega) (by first | exact Nat.le_of_ble_eq_true rfl | omega) (Or.inr ⟨1, _, rfl, rfl, hp9, ⟨rfl, rfl⟩⟩) dL_jam_23
  have hq : cq_jam nb sg x z r9 sg9 := hq
  obtain ⟨v9, hv9⟩ := ci_jam hq
  subst hv9
  have h01 := cb_jam hC hq
  have hW : kx_Wd G z0 ad nb (sg9) H := by first | exact hW | (simp only [kx_up_s, kx_up_up] at hW; exact hW) | (simp only [kx_up_s, kx_up_up, upd_s] at hW; exact hW)
  refine W.eq (g2 := F0 m 8 ls [.int v9, .int 0, .ref (ad 32 0)]) rfl ?_
  refine lv_if_eq (tgt := 15) hx hb dL_jam_8 (by decide) (fun c_8 => ?_) (fun c_8 => ?_)
  · refine lv_lconst (v := 0) hx hb dL_jam_15 (by decide) ?_
    refine kx_last F hW hS (x := v9) (by rw [c_8]; rfl) dL_jam_16 (fun H locs hW hS => ?_)
    have hW : kx_Wd G z0 ad nb (kx_up sg9 32 0 (upd (sg9 32 0) 0 v9)) H := by first | exact hW | (simp only [kx_up_s, kx_up_up] at hW; exact hW) | (simp only [kx_up_s, kx_up_up, upd_s] at hW; exact hW)
    refine lv_goto (tgt := 24) hx hb dL_jam_17 (by decide) ?_
    refine lv_iconst (v := 0) hx hb dL_jam_24 (by decide) ?_
    refine vx_ret ?_
    exact kx_ri F hr hlocks hW hS (by first | exact Nat.le_of_ble_eq_true rfl | omega) (by first | exact Nat.le_of_ble_eq_true rfl | omega) (Or.inl ⟨v9, sg9, rfl, hq, rfl⟩) dL_jam_25
  · refine lv_lconst (v := 1) hx hb dL_jam_11 (by decide) ?_
    refine lv_goto (tgt := 16) hx hb dL_jam_12 (by decide) ?_
    refine kx_last F hW hS (x := v9) (by rw [tw_ins (f := 0) h01 c_8]; rfl) dL_jam_16 (fun H locs hW hS => ?_)
    have hW : kx_Wd G z0 ad nb (kx_up sg9 32 0 (upd (sg9 32 0) 0 v9)) H := by first | exact hW | (simp only [kx_up_s, kx_up_up] at hW; exact hW) | (simp only [kx_up_s, kx_up_up, upd_s] at hW; exact hW)
    refine lv_goto (tgt := 24) hx hb dL_jam_17 (by decide) ?_
    refine lv_iconst (v := 0) hx hb dL_jam_24 (by decide) ?_
    refine vx_ret ?_
    exact kx_ri F hr hlocks hW hS (by first | exact Nat.le_of_ble_eq_true rfl | omega) (by first | exact Nat.le_of_ble_eq_true rfl | omega) (Or.inl ⟨v9, sg9, rfl, hq, rfl⟩) dL_jam_25

theorem ci_claim {nb : Nat} {s s1 : kx_S} {x : Int32} {r : Option Value} (h : cq_claim nb s x r s1) : ∃ a : Int32, r = some (.int a) := by
  unfold cq_claim at h
  grind

theorem ce_claim {nb : Nat} {s : kx_S} {x : Int32} {E : String} (h : cx_claim nb s x E) : E = kx_ioe ∨ E = kx_ise := by
  unfold cx_claim at h
  grind

set_option maxHeartbeats 1000000 in
set_option maxRecDepth 100000 in
theorem c_L_claim (l : Launch) (hlf : l.stackTraces = false) (G : kx_G) (z0 : Nat) (ad : kx_A) (nb : Nat) (sg : kx_S) (hC : tw_CI nb sg) (x : Int32) : kx_MX l yL_claim wsL_claim 8 133 2 12 G z0 ad nb sg [.ref (ad 0 0), .int x, .ref (ad 32 0)] (fun r sg' => (∃ (a : Int32) (sgc : kx_S), r = some (.int 0) ∧ cq_claim nb sg x (some (.int a)) sgc ∧ sg' = kx_up sgc 32 0 (upd (sgc 32 0) 0 a)) ∨ (∃ (k : Int32) (E : String), r = some (.int k) ∧ sg' = sg ∧ cx_claim nb sg x E ∧ ((E = kx_ioe ∧ k = 1) ∨ (E = kx_ise ∧ k = 2)))) (fun _ => False) := by
  refine vx_ofWH (hh := [(0, 9, 12, 20), (0, 9, 15, 15)]) (cc := cL_claim) (maxL := 4) (ret := (some .int)) (by decide) rfl ?_
  intro p e s m args below meth c s₁ B hml hv
  obtain ⟨rfl, hW, hV⟩ := hv
  have hts := atoms_spec (ws := wsL_claim) B.pre
  have F : kx_F p s m c cL_claim 4 RL _ wsL_claim G z0 := ⟨B.exec, B.bytes, hml, findClass_of_methodNamed B.named, hts, hV⟩
  have htb : c.exceptionTable.toList = tableOf [(0, 9, 12, 20), (0, 9, 15, 15)] := vx_table (x := yL_claim) B (hts (.codeWith yL_claim cL_claim 4 (some .int) [(0, 9, 12, 20), (0, 9, 15, 15)]) List.mem_cons_self)
  have hx := B.exec; have hb := B.bytes; have hr := B.returns; have hlocks := B.notSynchronized
  have hS : va_S (kx_Ad z0) s.heap s.heap [] := va_S.rf
  have hl := lv_entry ([.ref (ad 0 0), .int x, .ref (ad 32 0)]) (n := 4) (Nat.le_of_ble_eq_true rfl)
  rw [lg_entry_eq]
  generalize (lg_sl ([.ref (ad 0 0), .int x, .ref (ad 32 0)]) ++ List.replicate (4 - (lg_sl ([.ref (ad 0 0), .int x, .ref (ad 32 0)])).length) Slot.unset).toArray = ls at hl ⊢
  have hl : lv_has ls 4 [(0, .ref (ad 0 0)), (1, .int x), (2, .ref (ad 32 0))] := hl
  refine lv_aload_n hx hb dL_claim_0 rfl (lv_at hl 2 rfl) ?_
  refine lv_iconst (v := 0) hx hb dL_claim_1 (by decide) ?_
  refine lv_aload_n hx hb dL_claim_2 rfl (lv_at hl 0 rfl) ?_
  refine lv_iload_n hx hb dL_claim_3 rfl (lv_at hl 1 rfl) ?_
  refine kx_xV (na := 1) F (q := 0) (n := 0) (c_X3_claim l hlf G z0 ad nb sg hC x) gL_claim_X3_claim rfl (by decide +kernel) ⟨Nat.le_of_ble_eq_true rfl, Nat.le_of_ble_eq_true rfl⟩ hW hS ⟨by decide, rfl⟩ rfl rfl (As := [.int x]) (rest := [.int 0, .ref (ad 32 0)]) rfl hl.1 rfl (Nat.le_of_ble_eq_true rfl) dL_claim_4 ⟨by first | exact Nat.le_of_ble_eq_true rfl | omega, by first | exact Nat.le_of_ble_eq_true rfl | omega⟩ (fun E9 ce9 q9 H locs hp9 hW hS h7 h8 h9 => ?_) (fun r9 sg9 H locs hq hW hS => ?_)
  · have hp9 : cx_claim nb sg x E9 := hp9
    rcases ce_claim hp9 with rfl | rfl
    · refine kx_ct F htb [] ⟨0, 9, 12, 20⟩ [⟨0, 9, 15, 15⟩] rfl (by simp) (by decide) (by decide) (by decide +kernel) (by decide +kernel) h7 h8 h9 ?_
      refine lv_astore_n (lv' := [(3, .ref q9), (0, .ref (ad 0 0)), (1, .int x), (2, .ref (ad 32 0))]) hx hb dL_claim_12 rfl hl (by decide) rfl (fun ls hl => ?_)
      refine lv_iconst (v := 1) hx hb dL_claim_13 (by decide) ?_
      refine vx_ret ?_
      exact kx_ri F hr hlocks hW hS (by first | exact Nat.le_of_ble_eq_true rfl | omega) (by first | exact Nat.le_of_ble_eq_true rfl | omega) (Or.inr ⟨1, _, rfl, rfl, hp9, Or.inl ⟨rfl, rfl⟩⟩) dL_claim_14
    · refine kx_ct F htb [⟨0, 9, 12, 20⟩] ⟨0, 9, 15, 15⟩ [] rfl (by intro z hz; simp only [List.mem_cons, List.not_mem_nil, or_false] at hz; subst hz; exact ⟨by decide, "java/lang/IndexOutOfBoundsException", by decide +kernel, by decide +kernel⟩) (by decide) (by decide) (by decide +kernel) (by decide +kernel) h7 h8 h9 ?_
      refine lv_astore_n (lv' := [(3, .ref q9), (0, .ref (ad 0 0)), (1, .int x), (2, .ref (ad 32 0))]) hx hb dL_claim_15 rfl hl (by decide) rfl (fun ls hl => ?_)
      refine lv_iconst (v := 2) hx hb dL_claim_16 (by decide) ?_
      refine vx_ret ?_
      exact kx_ri F hr hlocks hW hS (by first | exact Nat.le_of_ble_eq_true rfl | omega) (by first | exact Nat.le_of_ble_eq_true rfl | omega) (Or.inr ⟨2, _, rfl, rfl, hp9, Or.inr (⟨rfl, rfl⟩)⟩) dL_claim_17
  have hq : cq_claim nb sg x r9 sg9 := hq
  obtain ⟨v9, hv9⟩ := ci_claim hq
  subst hv9
  have hW : kx_Wd G z0 ad nb (sg9) H := by first | exact hW | (simp only [kx_up_s, kx_up_up] at hW; exact hW) | (simp only [kx_up_s, kx_up_up, upd_s] at hW; exact hW)
  refine W.eq (g2 := F0 m 7 ls [.int v9, .int 0, .ref (ad 32 0)]) rfl ?_
  refine lv_i2l (v := Int32.toInt64 v9) hx hb dL_claim_7 rfl ?_
  refine kx_last F hW hS (x := v9) rfl dL_claim_8 (fun H locs hW hS => ?_)
  have hW : kx_Wd G z0 ad nb (kx_up sg9 32 0 (upd (sg9 32 0) 0 v9)) H := by first | exact hW | (simp only [kx_up_s, kx_up_up] at hW; exact hW) | (simp only [kx_up_s, kx_up_up, upd_s] at hW; exact hW)
  refine lv_goto (tgt := 18) hx hb dL_claim_9 (by decide) ?_
  refine lv_iconst (v := 0) hx hb dL_claim_18 (by decide) ?_
  refine vx_ret ?_
  exact kx_ri F hr hlocks hW hS (by first | exact Nat.le_of_ble_eq_true rfl | omega) (by first | exact Nat.le_of_ble_eq_true rfl | omega) (Or.inl ⟨v9, sg9, rfl, hq, rfl⟩) dL_claim_19

theorem ci_scans {nb : Nat} {s s1 : kx_S} {x : Int32} {r : Option Value} (h : cq_scans nb s x r s1) : ∃ a : Int32, r = some (.int a) := by
  unfold cq_scans at h
  grind

theorem ce_scans {nb : Nat} {s : kx_S} {x : Int32} {E : String} (h : cx_scans nb s x E) : E = kx_ioe := by
  unfold cx_scans at h
  grind

set_option maxHeartbeats 1000000 in
set_option maxRecDepth 100000 in
theorem c_L_scans (l : Launch) (hlf : l.stackTraces = false) (G : kx_G) (z0 : Nat) (ad : kx_A) (nb : Nat) (sg : kx_S) (hC : tw_CI nb sg) (x : Int32) : kx_MX l yL_scans wsL_scans 8 132 1 6 G z0 ad nb sg [.ref (ad 0 0), .int x, .ref (ad 32 0)] (fun r sg' => (∃ (a : Int32) (sgc : kx_S), r = some (.int 0) ∧ cq_scans nb sg x (some (.int a)) sgc ∧ sg' = kx_up sgc 32 0 (upd (sgc 32 0) 0 a)) ∨ (∃ (k : Int32) (E : String), r = some (.int k) ∧ sg' = sg ∧ cx_scans nb sg x E ∧ ((E = kx_ioe ∧ k = 1)))) (fun _ => False) := by
  refine vx_ofWH (hh := [(0, 9, 12, 20)]) (cc := cL_scans) (maxL := 4) (ret := (some .int)) (by decide) rfl ?_
  intro p e s m args below meth c s₁ B hml hv
  obtain ⟨rfl, hW, hV⟩ := hv
  have hts := atoms_spec (ws := wsL_scans) B.pre
  have F : kx_F p s m c cL_scans 4 RL _ wsL_scans G z0 := ⟨B.exec, B.bytes, hml, findClass_of_methodNamed B.named, hts, hV⟩
  have htb : c.exceptionTable.toList = tableOf [(0, 9, 12, 20)] := vx_table (x := yL_scans) B (hts (.codeWith yL_scans cL_scans 4 (some .int) [(0, 9, 12, 20)]) List.mem_cons_self)
  have hx := B.exec; have hb := B.bytes; have hr := B.returns; have hlocks := B.notSynchronized
  have hS : va_S (kx_Ad z0) s.heap s.heap [] := va_S.rf
  have hl := lv_entry ([.ref (ad 0 0), .int x, .ref (ad 32 0)]) (n := 4) (Nat.le_of_ble_eq_true rfl)
  rw [lg_entry_eq]
  generalize (lg_sl ([.ref (ad 0 0), .int x, .ref (ad 32 0)]) ++ List.replicate (4 - (lg_sl ([.ref (ad 0 0), .int x, .ref (ad 32 0)])).length) Slot.unset).toArray = ls at hl ⊢
  have hl : lv_has ls 4 [(0, .ref (ad 0 0)), (1, .int x), (2, .ref (ad 32 0))] := hl
  refine lv_aload_n hx hb dL_scans_0 rfl (lv_at hl 2 rfl) ?_
  refine lv_iconst (v := 0) hx hb dL_scans_1 (by decide) ?_
  refine lv_aload_n hx hb dL_scans_2 rfl (lv_at hl 0 rfl) ?_
  refine lv_iload_n hx hb dL_scans_3 rfl (lv_at hl 1 rfl) ?_
  refine kx_xV (na := 1) F (q := 0) (n := 0) (c_X3_scans l hlf G z0 ad nb sg hC x) gL_scans_X3_scans rfl (by decide +kernel) ⟨Nat.le_of_ble_eq_true rfl, Nat.le_of_ble_eq_true rfl⟩ hW hS ⟨by decide, rfl⟩ rfl rfl (As := [.int x]) (rest := [.int 0, .ref (ad 32 0)]) rfl hl.1 rfl (Nat.le_of_ble_eq_true rfl) dL_scans_4 ⟨by first | exact Nat.le_of_ble_eq_true rfl | omega, by first | exact Nat.le_of_ble_eq_true rfl | omega⟩ (fun E9 ce9 q9 H locs hp9 hW hS h7 h8 h9 => ?_) (fun r9 sg9 H locs hq hW hS => ?_)
  · have hp9 : cx_scans nb sg x E9 := hp9
    obtain rfl := ce_scans hp9
    · refine kx_ct F htb [] ⟨0, 9, 12, 20⟩ [] rfl (by simp) (by decide) (by decide) (by decide +kernel) (by decide +kernel) h7 h8 h9 ?_
      refine lv_astore_n (lv' := [(3, .ref q9), (0, .ref (ad 0 0)), (1, .int x), (2, .ref (ad 32 0))]) hx hb dL_scans_12 rfl hl (by decide) rfl (fun ls hl => ?_)
      refine lv_iconst (v := 1) hx hb dL_scans_13 (by decide) ?_
      refine vx_ret ?_
      exact kx_ri F hr hlocks hW hS (by first | exact Nat.le_of_ble_eq_true rfl | omega) (by first | exact Nat.le_of_ble_eq_true rfl | omega) (Or.inr ⟨1, _, rfl, rfl, hp9, ⟨rfl, rfl⟩⟩) dL_scans_14
  have hq : cq_scans nb sg x r9 sg9 := hq
  obtain ⟨v9, hv9⟩ := ci_scans hq
  subst hv9
  have hW : kx_Wd G z0 ad nb (sg9) H := by first | exact hW | (simp only [kx_up_s, kx_up_up] at hW; exact hW) | (simp only [kx_up_s, kx_up_up, upd_s] at hW; exact hW)
  refine W.eq (g2 := F0 m 7 ls [.int v9, .int 0, .ref (ad 32 0)]) rfl ?_
  refine lv_i2l (v := Int32.toInt64 v9) hx hb dL_scans_7 rfl ?_
  refine kx_last F hW hS (x := v9) rfl dL_scans_8 (fun H locs hW hS => ?_)
  have hW : kx_Wd G z0 ad nb (kx_up sg9 32 0 (upd (sg9 32 0) 0 v9)) H := by first | exact hW | (simp only [kx_up_s, kx_up_up] at hW; exact hW) | (simp only [kx_up_s, kx_up_up, upd_s] at hW; exact hW)
  refine lv_goto (tgt := 15) hx hb dL_scans_9 (by decide) ?_
  refine lv_iconst (v := 0) hx hb dL_scans_15 (by decide) ?_
  refine vx_ret ?_
  exact kx_ri F hr hlocks hW hS (by first | exact Nat.le_of_ble_eq_true rfl | omega) (by first | exact Nat.le_of_ble_eq_true rfl | omega) (Or.inl ⟨v9, sg9, rfl, hq, rfl⟩) dL_scans_16

theorem ci_story {nb : Nat} {s s1 : kx_S} {x : Int32} {r : Option Value} (h : cq_story nb s x r s1) : ∃ a : Int32, r = some (.int a) := by
  unfold cq_story at h
  grind

theorem ce_story {nb : Nat} {s : kx_S} {x : Int32} {E : String} (h : cx_story nb s x E) : E = kx_ioe := by
  unfold cx_story at h
  grind

set_option maxHeartbeats 1000000 in
set_option maxRecDepth 100000 in
theorem c_L_story (l : Launch) (hlf : l.stackTraces = false) (G : kx_G) (z0 : Nat) (ad : kx_A) (nb : Nat) (sg : kx_S) (hC : tw_CI nb sg) (x : Int32) : kx_MX l yL_story wsL_story 8 132 1 6 G z0 ad nb sg [.ref (ad 0 0), .int x, .ref (ad 32 0)] (fun r sg' => (∃ (a : Int32) (sgc : kx_S), r = some (.int 0) ∧ cq_story nb sg x (some (.int a)) sgc ∧ sg' = kx_up sgc 32 0 (upd (sgc 32 0) 0 a)) ∨ (∃ (k : Int32) (E : String), r = some (.int k) ∧ sg' = sg ∧ cx_story nb sg x E ∧ ((E = kx_ioe ∧ k = 1)))) (fun _ => False) := by
  refine vx_ofWH (hh := [(0, 9, 12, 20)]) (cc := cL_story) (maxL := 4) (ret := (some .int)) (by decide) rfl ?_
  intro p e s m args below meth c s₁ B hml hv
  obtain ⟨rfl, hW, hV⟩ := hv
  have hts := atoms_spec (ws := wsL_story) B.pre
  have F : kx_F p s m c cL_story 4 RL _ wsL_story G z0 := ⟨B.exec, B.bytes, hml, findClass_of_methodNamed B.named, hts, hV⟩
  have htb : c.exceptionTable.toList = tableOf [(0, 9, 12, 20)] := vx_table (x := yL_story) B (hts (.codeWith yL_story cL_story 4 (some .int) [(0, 9, 12, 20)]) List.mem_cons_self)
  have hx := B.exec; have hb := B.bytes; have hr := B.returns; have hlocks := B.notSynchronized
  have hS : va_S (kx_Ad z0) s.heap s.heap [] := va_S.rf
  have hl := lv_entry ([.ref (ad 0 0), .int x, .ref (ad 32 0)]) (n := 4) (Nat.le_of_ble_eq_true rfl)
  rw [lg_entry_eq]
  generalize (lg_sl ([.ref (ad 0 0), .int x, .ref (ad 32 0)]) ++ List.replicate (4 - (lg_sl ([.ref (ad 0 0), .int x, .ref (ad 32 0)])).length) Slot.unset).toArray = ls at hl ⊢
  have hl : lv_has ls 4 [(0, .ref (ad 0 0)), (1, .int x), (2, .ref (ad 32 0))] := hl
  refine lv_aload_n hx hb dL_story_0 rfl (lv_at hl 2 rfl) ?_
  refine lv_iconst (v := 0) hx hb dL_story_1 (by decide) ?_
  refine lv_aload_n hx hb dL_story_2 rfl (lv_at hl 0 rfl) ?_
  refine lv_iload_n hx hb dL_story_3 rfl (lv_at hl 1 rfl) ?_
  refine kx_xV (na := 1) F (q := 0) (n := 0) (c_X3_story l hlf G z0 ad nb sg hC x) gL_story_X3_story rfl (by decide +kernel) ⟨Nat.le_of_ble_eq_true rfl, Nat.le_of_ble_eq_true rfl⟩ hW hS ⟨by decide, rfl⟩ rfl rfl (As := [.int x]) (rest := [.int 0, .ref (ad 32 0)]) rfl hl.1 rfl (Nat.le_of_ble_eq_true rfl) dL_story_4 ⟨by first | exact Nat.le_of_ble_eq_true rfl | omega, by first | exact Nat.le_of_ble_eq_true rfl | omega⟩ (fun E9 ce9 q9 H locs hp9 hW hS h7 h8 h9 => ?_) (fun r9 sg9 H locs hq hW hS => ?_)
  · have hp9 : cx_story nb sg x E9 := hp9
    obtain rfl := ce_story hp9
    · refine kx_ct F htb [] ⟨0, 9, 12, 20⟩ [] rfl (by simp) (by decide) (by decide) (by decide +kernel) (by decide +kernel) h7 h8 h9 ?_
      refine lv_astore_n (lv' := [(3, .ref q9), (0, .ref (ad 0 0)), (1, .int x), (2, .ref (ad 32 0))]) hx hb dL_story_12 rfl hl (by decide) rfl (fun ls hl => ?_)
      refine lv_iconst (v := 1) hx hb dL_story_13 (by decide) ?_
      refine vx_ret ?_
      exact kx_ri F hr hlocks hW hS (by first | exact Nat.le_of_ble_eq_true rfl | omega) (by first | exact Nat.le_of_ble_eq_true rfl | omega) (Or.inr ⟨1, _, rfl, rfl, hp9, ⟨rfl, rfl⟩⟩) dL_story_14
  have hq : cq_story nb sg x r9 sg9 := hq
  obtain ⟨v9, hv9⟩ := ci_story hq
  subst hv9
  have hW : kx_Wd G z0 ad nb (sg9) H := by first | exact hW | (simp only [kx_up_s, kx_up_up] at hW; exact hW) | (simp only [kx_up_s, kx_up_up, upd_s] at hW; exact hW)
  refine W.eq (g2 := F0 m 7 ls [.int v9, .int 0, .ref (ad 32 0)]) rfl ?_
  refine lv_i2l (v := Int32.toInt64 v9) hx hb dL_story_7 rfl ?_
  refine kx_last F hW hS (x := v9) rfl dL_story_8 (fun H locs hW hS => ?_)
  have hW : kx_Wd G z0 ad nb (kx_up sg9 32 0 (upd (sg9 32 0) 0 v9)) H := by first | exact hW | (simp only [kx_up_s, kx_up_up] at hW; exact hW) | (simp only [kx_up_s, kx_up_up, upd_s] at hW; exact hW)
  refine lv_goto (tgt := 15) hx hb dL_story_9 (by decide) ?_
  refine lv_iconst (v := 0) hx hb dL_story_15 (by decide) ?_
  refine vx_ret ?_
  exact kx_ri F hr hlocks hW hS (by first | exact Nat.le_of_ble_eq_true rfl | omega) (by first | exact Nat.le_of_ble_eq_true rfl | omega) (Or.inl ⟨v9, sg9, rfl, hq, rfl⟩) dL_story_16

theorem ci_storyOfAll {nb : Nat} {s s1 : kx_S} {x : Int32} {r : Option Value} (h : cq_storyOfAll nb s x r s1) : ∃ a : Int32, r = some (.int a) := by
  unfold cq_storyOfAll at h
  grind

theorem ce_storyOfAll {nb : Nat} {s : kx_S} {x : Int32} {E : String} (h : cx_storyOfAll nb s x E) : E = kx_ioe := by
  unfold cx_storyOfAll at h
  grind

set_option maxHeartbeats 1000000 in
set_option maxRecDepth 100000 in
theorem c_L_storyOfAll (l : Launch) (hlf : l.stackTraces = false) (G : kx_G) (z0 : Nat) (ad : kx_A) (nb : Nat) (sg : kx_S) (hC : tw_CI nb sg) (x : Int32) : kx_MX l yL_storyOfAll wsL_storyOfAll 18 487 1 6 G z0 ad nb sg [.ref (ad 0 0), .int x, .ref (ad 32 0)] (fun r sg' => (∃ (a : Int32) (sgc : kx_S), r = some (.int 0) ∧ cq_storyOfAll nb sg x (some (.int a)) sgc ∧ sg' = kx_up sgc 32 0 (upd (sgc 32 0) 0 a)) ∨ (∃ (k : Int32) (E : String), r = some (.int k) ∧ sg' = sg ∧ cx_storyOfAll nb sg x E ∧ ((E = kx_ioe ∧ k = 1)))) (fun _ => False) := by
  refine vx_ofWH (hh := [(0, 9, 12, 20)]) (cc := cL_storyOfAll) (maxL := 4) (ret := (some .int)) (by decide) rfl ?_
  intro p e s m args below meth c s₁ B hml hv
  obtain ⟨rfl, hW, hV⟩ := hv
  have hts := atoms_spec (ws := wsL_storyOfAll) B.pre
  have F : kx_F p s m c cL_storyOfAll 4 RL _ wsL_storyOfAll G z0 := ⟨B.exec, B.bytes, hml, findClass_of_methodNamed B.named, hts, hV⟩
  have htb : c.exceptionTable.toList = tableOf [(0, 9, 12, 20)] := vx_table (x := yL_storyOfAll) B (hts (.codeWith yL_storyOfAll cL_storyOfAll 4 (some .int) [(0, 9, 12, 20)]) List.mem_cons_self)
  have hx := B.exec; have hb := B.bytes; have hr := B.returns; have hlocks := B.notSynchronized
  have hS : va_S (kx_Ad z0) s.heap s.heap [] := va_S.rf
  have hl := lv_entry ([.ref (ad 0 0), .int x, .ref (ad 32 0)]) (n := 4) (Nat.le_of_ble_eq_true rfl)
  rw [lg_entry_eq]
  generalize (lg_sl ([.ref (ad 0 0), .int x, .ref (ad 32 0)]) ++ List.replicate (4 - (lg_sl ([.ref (ad 0 0), .int x, .ref (ad 32 0)])).length) Slot.unset).toArray = ls at hl ⊢
  have hl : lv_has ls 4 [(0, .ref (ad 0 0)), (1, .int x), (2, .ref (ad 32 0))] := hl
  refine lv_aload_n hx hb dL_storyOfAll_0 rfl (lv_at hl 2 rfl) ?_
  refine lv_iconst (v := 0) hx hb dL_storyOfAll_1 (by decide) ?_
  refine lv_aload_n hx hb dL_storyOfAll_2 rfl (lv_at hl 0 rfl) ?_
  refine lv_iload_n hx hb dL_storyOfAll_3 rfl (lv_at hl 1 rfl) ?_
  refine kx_xV (na := 1) F (q := 0) (n := 0) (c_X3_storyOfAll l hlf G z0 ad nb sg hC x) gL_storyOfAll_X3_storyOfAll rfl (by decide +kernel) ⟨Nat.le_of_ble_eq_true rfl, Nat.le_of_ble_eq_true rfl⟩ hW hS ⟨by decide, rfl⟩ rfl rfl (As := [.int x]) (rest := [.int 0, .ref (ad 32 0)]) rfl hl.1 rfl (Nat.le_of_ble_eq_true rfl) dL_storyOfAll_4 ⟨by first | exact Nat.le_of_ble_eq_true rfl | omega, by first | exact Nat.le_of_ble_eq_true rfl | omega⟩ (fun E9 ce9 q9 H locs hp9 hW hS h7 h8 h9 => ?_) (fun r9 sg9 H locs hq hW hS => ?_)
  · have hp9 : cx_storyOfAll nb sg x E9 := hp9
    obtain rfl := ce_storyOfAll hp9
    · refine kx_ct F htb [] ⟨0, 9, 12, 20⟩ [] rfl (by simp) (by decide) (by decide) (by decide +kernel) (by decide +kernel) h7 h8 h9 ?_
      refine lv_astore_n (lv' := [(3, .ref q9), (0, .ref (ad 0 0)), (1, .int x), (2, .ref (ad 32 0))]) hx hb dL_storyOfAll_12 rfl hl (by decide) rfl (fun ls hl => ?_)
      refine lv_iconst (v := 1) hx hb dL_storyOfAll_13 (by decide) ?_
      refine vx_ret ?_
      exact kx_ri F hr hlocks hW hS (by first | exact Nat.le_of_ble_eq_true rfl | omega) (by first | exact Nat.le_of_ble_eq_true rfl | omega) (Or.inr ⟨1, _, rfl, rfl, hp9, ⟨rfl, rfl⟩⟩) dL_storyOfAll_14
  have hq : cq_storyOfAll nb sg x r9 sg9 := hq
  obtain ⟨v9, hv9⟩ := ci_storyOfAll hq
  subst hv9
  have hW : kx_Wd G z0 ad nb (sg9) H := by first | exact hW | (simp only [kx_up_s, kx_up_up] at hW; exact hW) | (simp only [kx_up_s, kx_up_up, upd_s] at hW; exact hW)
  refine W.eq (g2 := F0 m 7 ls [.int v9, .int 0, .ref (ad 32 0)]) rfl ?_
  refine lv_i2l (v := Int32.toInt64 v9) hx hb dL_storyOfAll_7 rfl ?_
  refine kx_last F hW hS (x := v9) rfl dL_storyOfAll_8 (fun H locs hW hS => ?_)
  have hW : kx_Wd G z0 ad nb (kx_up sg9 32 0 (upd (sg9 32 0) 0 v9)) H := by first | exact hW | (simp only [kx_up_s, kx_up_up] at hW; exact hW) | (simp only [kx_up_s, kx_up_up, upd_s] at hW; exact hW)
  refine lv_goto (tgt := 15) hx hb dL_storyOfAll_9 (by decide) ?_
  refine lv_iconst (v := 0) hx hb dL_storyOfAll_15 (by decide) ?_
  refine vx_ret ?_
  exact kx_ri F hr hlocks hW hS (by first | exact Nat.le_of_ble_eq_true rfl | omega) (by first | exact Nat.le_of_ble_eq_true rfl | omega) (Or.inl ⟨v9, sg9, rfl, hq, rfl⟩) dL_storyOfAll_16

theorem ci_placeOf {nb : Nat} {s s1 : kx_S} {x : Int32} {r : Option Value} (h : cq_placeOf nb s x r s1) : ∃ a : Int32, r = some (.int a) := by
  unfold cq_placeOf at h
  grind

theorem ce_placeOf {nb : Nat} {s : kx_S} {x : Int32} {E : String} (h : cx_placeOf nb s x E) : E = kx_ioe := by
  unfold cx_placeOf at h
  grind

set_option maxHeartbeats 1000000 in
set_option maxRecDepth 100000 in
theorem c_L_placeOf (l : Launch) (hlf : l.stackTraces = false) (G : kx_G) (z0 : Nat) (ad : kx_A) (nb : Nat) (sg : kx_S) (hC : tw_CI nb sg) (x : Int32) : kx_MX l yL_placeOf wsL_placeOf 8 132 1 6 G z0 ad nb sg [.ref (ad 0 0), .int x, .ref (ad 32 0)] (fun r sg' => (∃ (a : Int32) (sgc : kx_S), r = some (.int 0) ∧ cq_placeOf nb sg x (some (.int a)) sgc ∧ sg' = kx_up sgc 32 0 (upd (sgc 32 0) 0 a)) ∨ (∃ (k : Int32) (E : String), r = some (.int k) ∧ sg' = sg ∧ cx_placeOf nb sg x E ∧ ((E = kx_ioe ∧ k = 1)))) (fun _ => False) := by
  refine vx_ofWH (hh := [(0, 9, 12, 20)]) (cc := cL_placeOf) (maxL := 4) (ret := (some .int)) (by decide) rfl ?_
  intro p e s m args below meth c s₁ B hml hv
  obtain ⟨rfl, hW, hV⟩ := hv
  have hts := atoms_spec (ws := wsL_placeOf) B.pre
  have F : kx_F p s m c cL_placeOf 4 RL _ wsL_placeOf G z0 := ⟨B.exec, B.bytes, hml, findClass_of_methodNamed B.named, hts, hV⟩
  have htb : c.exceptionTable.toList = tableOf [(0, 9, 12, 20)] := vx_table (x := yL_placeOf) B (hts (.codeWith yL_placeOf cL_placeOf 4 (some .int) [(0, 9, 12, 20)]) List.mem_cons_self)
  have hx := B.exec; have hb := B.bytes; have hr := B.returns; have hlocks := B.notSynchronized
  have hS : va_S (kx_Ad z0) s.heap s.heap [] := va_S.rf
  have hl := lv_entry ([.ref (ad 0 0), .int x, .ref (ad 32 0)]) (n := 4) (Nat.le_of_ble_eq_true rfl)
  rw [lg_entry_eq]
  generalize (lg_sl ([.ref (ad 0 0), .int x, .ref (ad 32 0)]) ++ List.replicate (4 - (lg_sl ([.ref (ad 0 0), .int x, .ref (ad 32 0)])).length) Slot.unset).toArray = ls at hl ⊢
  have hl : lv_has ls 4 [(0, .ref (ad 0 0)), (1, .int x), (2, .ref (ad 32 0))] := hl
  refine lv_aload_n hx hb dL_placeOf_0 rfl (lv_at hl 2 rfl) ?_
  refine lv_iconst (v := 0) hx hb dL_placeOf_1 (by decide) ?_
  refine lv_aload_n hx hb dL_placeOf_2 rfl (lv_at hl 0 rfl) ?_
  refine lv_iload_n hx hb dL_placeOf_3 rfl (lv_at hl 1 rfl) ?_
  refine kx_xV (na := 1) F (q := 0) (n := 0) (c_X3_placeOf l hlf G z0 ad nb sg hC x) gL_placeOf_X3_placeOf rfl (by decide +kernel) ⟨Nat.le_of_ble_eq_true rfl, Nat.le_of_ble_eq_true rfl⟩ hW hS ⟨by decide, rfl⟩ rfl rfl (As := [.int x]) (rest := [.int 0, .ref (ad 32 0)]) rfl hl.1 rfl (Nat.le_of_ble_eq_true rfl) dL_placeOf_4 ⟨by first | exact Nat.le_of_ble_eq_true rfl | omega, by first | exact Nat.le_of_ble_eq_true rfl | omega⟩ (fun E9 ce9 q9 H locs hp9 hW hS h7 h8 h9 => ?_) (fun r9 sg9 H locs hq hW hS => ?_)
  · have hp9 : cx_placeOf nb sg x E9 := hp9
    obtain rfl := ce_placeOf hp9
    · refine kx_ct F htb [] ⟨0, 9, 12, 20⟩ [] rfl (by simp) (by decide) (by decide) (by decide +kernel) (by decide +kernel) h7 h8 h9 ?_
      refine lv_astore_n (lv' := [(3, .ref q9), (0, .ref (ad 0 0)), (1, .int x), (2, .ref (ad 32 0))]) hx hb dL_placeOf_12 rfl hl (by decide) rfl (fun ls hl => ?_)
      refine lv_iconst (v := 1) hx hb dL_placeOf_13 (by decide) ?_
      refine vx_ret ?_
      exact kx_ri F hr hlocks hW hS (by first | exact Nat.le_of_ble_eq_true rfl | omega) (by first | exact Nat.le_of_ble_eq_true rfl | omega) (Or.inr ⟨1, _, rfl, rfl, hp9, ⟨rfl, rfl⟩⟩) dL_placeOf_14
  have hq : cq_placeOf nb sg x r9 sg9 := hq
  obtain ⟨v9, hv9⟩ := ci_placeOf hq
  subst hv9
  have hW : kx_Wd G z0 ad nb (sg9) H := by first | exact hW | (simp only [kx_up_s, kx_up_up] at hW; exact hW) | (simp only [kx_up_s, kx_up_up, upd_s] at hW; exact hW)
  refine W.eq (g2 := F0 m 7 ls [.int v9, .int 0, .ref (ad 32 0)]) rfl ?_
  refine lv_i2l (v := Int32.toInt64 v9) hx hb dL_placeOf_7 rfl ?_
  refine kx_last F hW hS (x := v9) rfl dL_placeOf_8 (fun H locs hW hS => ?_)
  have hW : kx_Wd G z0 ad nb (kx_up sg9 32 0 (upd (sg9 32 0) 0 v9)) H := by first | exact hW | (simp only [kx_up_s, kx_up_up] at hW; exact hW) | (simp only [kx_up_s, kx_up_up, upd_s] at hW; exact hW)
  refine lv_goto (tgt := 15) hx hb dL_placeOf_9 (by decide) ?_
  refine lv_iconst (v := 0) hx hb dL_placeOf_15 (by decide) ?_
  refine vx_ret ?_
  exact kx_ri F hr hlocks hW hS (by first | exact Nat.le_of_ble_eq_true rfl | omega) (by first | exact Nat.le_of_ble_eq_true rfl | omega) (Or.inl ⟨v9, sg9, rfl, hq, rfl⟩) dL_placeOf_16

theorem ci_lies {nb : Nat} {s s1 : kx_S} {x : Int32} {r : Option Value} (h : cq_lies nb s x r s1) : ∃ a : Int32, r = some (.int a) := by
  unfold cq_lies at h
  grind

theorem ce_lies {nb : Nat} {s : kx_S} {x : Int32} {E : String} (h : cx_lies nb s x E) : E = kx_ioe := by
  unfold cx_lies at h
  grind

set_option maxHeartbeats 1000000 in
set_option maxRecDepth 100000 in
theorem c_L_lies (l : Launch) (hlf : l.stackTraces = false) (G : kx_G) (z0 : Nat) (ad : kx_A) (nb : Nat) (sg : kx_S) (hC : tw_CI nb sg) (x : Int32) : kx_MX l yL_lies wsL_lies 8 136 1 6 G z0 ad nb sg [.ref (ad 0 0), .int x, .ref (ad 32 0)] (fun r sg' => (∃ (a : Int32) (sgc : kx_S), r = some (.int 0) ∧ cq_lies nb sg x (some (.int a)) sgc ∧ sg' = kx_up sgc 32 0 (upd (sgc 32 0) 0 a)) ∨ (∃ (k : Int32) (E : String), r = some (.int k) ∧ sg' = sg ∧ cx_lies nb sg x E ∧ ((E = kx_ioe ∧ k = 1)))) (fun _ => False) := by
  refine vx_ofWH (hh := [(0, 9, 12, 20)]) (cc := cL_lies) (maxL := 4) (ret := (some .int)) (by decide) rfl ?_
  intro p e s m args below meth c s₁ B hml hv
  obtain ⟨rfl, hW, hV⟩ := hv
  have hts := atoms_spec (ws := wsL_lies) B.pre
  have F : kx_F p s m c cL_lies 4 RL _ wsL_lies G z0 := ⟨B.exec, B.bytes, hml, findClass_of_methodNamed B.named, hts, hV⟩
  have htb : c.exceptionTable.toList = tableOf [(0, 9, 12, 20)] := vx_table (x := yL_lies) B (hts (.codeWith yL_lies cL_lies 4 (some .int) [(0, 9, 12, 20)]) List.mem_cons_self)
  have hx := B.exec; have hb := B.bytes; have hr := B.returns; have hlocks := B.notSynchronized
  have hS : va_S (kx_Ad z0) s.heap s.heap [] := va_S.rf
  have hl := lv_entry ([.ref (ad 0 0), .int x, .ref (ad 32 0)]) (n := 4) (Nat.le_of_ble_eq_true rfl)
  rw [lg_entry_eq]
  generalize (lg_sl ([.ref (ad 0 0), .int x, .ref (ad 32 0)]) ++ List.replicate (4 - (lg_sl ([.ref (ad 0 0), .int x, .ref (ad 32 0)])).length) Slot.unset).toArray = ls at hl ⊢
  have hl : lv_has ls 4 [(0, .ref (ad 0 0)), (1, .int x), (2, .ref (ad 32 0))] := hl
  refine lv_aload_n hx hb dL_lies_0 rfl (lv_at hl 2 rfl) ?_
  refine lv_iconst (v := 0) hx hb dL_lies_1 (by decide) ?_
  refine lv_aload_n hx hb dL_lies_2 rfl (lv_at hl 0 rfl) ?_
  refine lv_iload_n hx hb dL_lies_3 rfl (lv_at hl 1 rfl) ?_
  refine kx_xV (na := 1) F (q := 0) (n := 0) (c_X3_lies l hlf G z0 ad nb sg hC x) gL_lies_X3_lies rfl (by decide +kernel) ⟨Nat.le_of_ble_eq_true rfl, Nat.le_of_ble_eq_true rfl⟩ hW hS ⟨by decide, rfl⟩ rfl rfl (As := [.int x]) (rest := [.int 0, .ref (ad 32 0)]) rfl hl.1 rfl (Nat.le_of_ble_eq_true rfl) dL_lies_4 ⟨by first | exact Nat.le_of_ble_eq_true rfl | omega, by first | exact Nat.le_of_ble_eq_true rfl | omega⟩ (fun E9 ce9 q9 H locs hp9 hW hS h7 h8 h9 => ?_) (fun r9 sg9 H locs hq hW hS => ?_)
  · have hp9 : cx_lies nb sg x E9 := hp9
    obtain rfl := ce_lies hp9
    · refine kx_ct F htb [] ⟨0, 9, 12, 20⟩ [] rfl (by simp) (by decide) (by decide) (by decide +kernel) (by decide +kernel) h7 h8 h9 ?_
      refine lv_astore_n (lv' := [(3, .ref q9), (0, .ref (ad 0 0)), (1, .int x), (2, .ref (ad 32 0))]) hx hb dL_lies_12 rfl hl (by decide) rfl (fun ls hl => ?_)
      refine lv_iconst (v := 1) hx hb dL_lies_13 (by decide) ?_
      refine vx_ret ?_
      exact kx_ri F hr hlocks hW hS (by first | exact Nat.le_of_ble_eq_true rfl | omega) (by first | exact Nat.le_of_ble_eq_true rfl | omega) (Or.inr ⟨1, _, rfl, rfl, hp9, ⟨rfl, rfl⟩⟩) dL_lies_14
  have hq : cq_lies nb sg x r9 sg9 := hq
  obtain ⟨v9, hv9⟩ := ci_lies hq
  subst hv9
  have hW : kx_Wd G z0 ad nb (sg9) H := by first | exact hW | (simp only [kx_up_s, kx_up_up] at hW; exact hW) | (simp only [kx_up_s, kx_up_up, upd_s] at hW; exact hW)
  refine W.eq (g2 := F0 m 7 ls [.int v9, .int 0, .ref (ad 32 0)]) rfl ?_
  refine lv_i2l (v := Int32.toInt64 v9) hx hb dL_lies_7 rfl ?_
  refine kx_last F hW hS (x := v9) rfl dL_lies_8 (fun H locs hW hS => ?_)
  have hW : kx_Wd G z0 ad nb (kx_up sg9 32 0 (upd (sg9 32 0) 0 v9)) H := by first | exact hW | (simp only [kx_up_s, kx_up_up] at hW; exact hW) | (simp only [kx_up_s, kx_up_up, upd_s] at hW; exact hW)
  refine lv_goto (tgt := 15) hx hb dL_lies_9 (by decide) ?_
  refine lv_iconst (v := 0) hx hb dL_lies_15 (by decide) ?_
  refine vx_ret ?_
  exact kx_ri F hr hlocks hW hS (by first | exact Nat.le_of_ble_eq_true rfl | omega) (by first | exact Nat.le_of_ble_eq_true rfl | omega) (Or.inl ⟨v9, sg9, rfl, hq, rfl⟩) dL_lies_16

theorem ci_hasFee {nb : Nat} {s s1 : kx_S} {x : Int32} {r : Option Value} (h : cq_hasFee nb s x r s1) : ∃ a : Int32, r = some (.int a) := by
  unfold cq_hasFee at h
  grind

theorem ce_hasFee {nb : Nat} {s : kx_S} {x : Int32} {E : String} (h : cx_hasFee nb s x E) : E = kx_ioe := by
  unfold cx_hasFee at h
  grind

theorem cb_hasFee {nb : Nat} {s s1 : kx_S} {x a : Int32} (hC : tw_CI nb s) (h : cq_hasFee nb s x (some (.int a)) s1) : tw_01 a := by
  obtain ⟨-, -, h1, h2, -⟩ := hC
  unfold cq_hasFee at h
  grind

set_option maxHeartbeats 1000000 in
set_option maxRecDepth 100000 in
theorem c_L_hasFee (l : Launch) (hlf : l.stackTraces = false) (G : kx_G) (z0 : Nat) (ad : kx_A) (nb : Nat) (sg : kx_S) (hC : tw_CI nb sg) (x : Int32) : kx_MX l yL_hasFee wsL_hasFee 8 132 1 6 G z0 ad nb sg [.ref (ad 0 0), .int x, .ref (ad 32 0)] (fun r sg' => (∃ (a : Int32) (sgc : kx_S), r = some (.int 0) ∧ cq_hasFee nb sg x (some (.int a)) sgc ∧ sg' = kx_up sgc 32 0 (upd (sgc 32 0) 0 a)) ∨ (∃ (k : Int32) (E : String), r = some (.int k) ∧ sg' = sg ∧ cx_hasFee nb sg x E ∧ ((E = kx_ioe ∧ k = 1)))) (fun _ => False) := by
  refine vx_ofWH (hh := [(0, 16, 19, 20)]) (cc := cL_hasFee) (maxL := 4) (ret := (some .int)) (by decide) rfl ?_
  intro p e s m args below meth c s₁ B hml hv
  obtain ⟨rfl, hW, hV⟩ := hv
  have hts := atoms_spec (ws := wsL_hasFee) B.pre
  have F : kx_F p s m c cL_hasFee 4 RL _ wsL_hasFee G z0 := ⟨B.exec, B.bytes, hml, findClass_of_methodNamed B.named, hts, hV⟩
  have htb : c.exceptionTable.toList = tableOf [(0, 16, 19, 20)] := vx_table (x := yL_hasFee) B (hts (.codeWith yL_hasFee cL_hasFee 4 (some .int) [(0, 16, 19, 20)]) List.mem_cons_self)
  have hx := B.exec; have hb := B.bytes; have hr := B.returns; have hlocks := B.notSynchronized
  have hS : va_S (kx_Ad z0) s.heap s.heap [] := va_S.rf
  have hl := lv_entry ([.ref (ad 0 0), .int x, .ref (ad 32 0)]) (n := 4) (Nat.le_of_ble_eq_true rfl)
  rw [lg_entry_eq]
  generalize (lg_sl ([.ref (ad 0 0), .int x, .ref (ad 32 0)]) ++ List.replicate (4 - (lg_sl ([.ref (ad 0 0), .int x, .ref (ad 32 0)])).length) Slot.unset).toArray = ls at hl ⊢
  have hl : lv_has ls 4 [(0, .ref (ad 0 0)), (1, .int x), (2, .ref (ad 32 0))] := hl
  refine lv_aload_n hx hb dL_hasFee_0 rfl (lv_at hl 2 rfl) ?_
  refine lv_iconst (v := 0) hx hb dL_hasFee_1 (by decide) ?_
  refine lv_aload_n hx hb dL_hasFee_2 rfl (lv_at hl 0 rfl) ?_
  refine lv_iload_n hx hb dL_hasFee_3 rfl (lv_at hl 1 rfl) ?_
  refine kx_xV (na := 1) F (q := 0) (n := 0) (c_X3_hasFee l hlf G z0 ad nb sg hC x) gL_hasFee_X3_hasFee rfl (by decide +kernel) ⟨Nat.le_of_ble_eq_true rfl, Nat.le_of_ble_eq_true rfl⟩ hW hS ⟨by decide, rfl⟩ rfl rfl (As := [.int x]) (rest := [.int 0, .ref (ad 32 0)]) rfl hl.1 rfl (Nat.le_of_ble_eq_true rfl) dL_hasFee_4 ⟨by first | exact Nat.le_of_ble_eq_true rfl | omega, by first | exact Nat.le_of_ble_eq_true rfl | omega⟩ (fun E9 ce9 q9 H locs hp9 hW hS h7 h8 h9 => ?_) (fun r9 sg9 H locs hq hW hS => ?_)
  · have hp9 : cx_hasFee nb sg x E9 := hp9
    obtain rfl := ce_hasFee hp9
    · refine kx_ct F htb [] ⟨0, 16, 19, 20⟩ [] rfl (by simp) (by decide) (by decide) (by decide +kernel) (by decide +kernel) h7 h8 h9 ?_
      refine lv_astore_n (lv' := [(3, .ref q9), (0, .ref (ad 0 0)), (1, .int x), (2, .ref (ad 32 0))]) hx hb dL_hasFee_19 rfl hl (by decide) rfl (fun ls hl => ?_)
      refine lv_iconst (v := 1) hx hb dL_hasFee_20 (by decide) ?_
      refine vx_ret ?_
      exact kx_ri F hr hlocks hW hS (by first | exact Nat.le_of_ble_eq_true rfl | omega) (by first | exact Nat.le_of_ble_eq_true rfl | omega) (Or.inr ⟨1, _, rfl, rfl, hp9, ⟨rfl, rfl⟩⟩) dL_hasFee_21
  have hq : cq_hasFee nb sg x r9 sg9 := hq
  obtain ⟨v9, hv9⟩ := ci_hasFee hq
  subst hv9
  have h01 := cb_hasFee hC hq
  have hW : kx_Wd G z0 ad nb (sg9) H := by first | exact hW | (simp only [kx_up_s, kx_up_up] at hW; exact hW) | (simp only [kx_up_s, kx_up_up, upd_s] at hW; exact hW)
  refine W.eq (g2 := F0 m 7 ls [.int v9, .int 0, .ref (ad 32 0)]) rfl ?_
  refine lv_if_eq (tgt := 14) hx hb dL_hasFee_7 (by decide) (fun c_7 => ?_) (fun c_7 => ?_)
  · refine lv_lconst (v := 0) hx hb dL_hasFee_14 (by decide) ?_
    refine kx_last F hW hS (x := v9) (by rw [c_7]; rfl) dL_hasFee_15 (fun H locs hW hS => ?_)
    have hW : kx_Wd G z0 ad nb (kx_up sg9 32 0 (upd (sg9 32 0) 0 v9)) H := by first | exact hW | (simp only [kx_up_s, kx_up_up] at hW; exact hW) | (simp only [kx_up_s, kx_up_up, upd_s] at hW; exact hW)
    refine lv_goto (tgt := 22) hx hb dL_hasFee_16 (by decide) ?_
    refine lv_iconst (v := 0) hx hb dL_hasFee_22 (by decide) ?_
    refine vx_ret ?_
    exact kx_ri F hr hlocks hW hS (by first | exact Nat.le_of_ble_eq_true rfl | omega) (by first | exact Nat.le_of_ble_eq_true rfl | omega) (Or.inl ⟨v9, sg9, rfl, hq, rfl⟩) dL_hasFee_23
  · refine lv_lconst (v := 1) hx hb dL_hasFee_10 (by decide) ?_
    refine lv_goto (tgt := 15) hx hb dL_hasFee_11 (by decide) ?_
    refine kx_last F hW hS (x := v9) (by rw [tw_ins (f := 0) h01 c_7]; rfl) dL_hasFee_15 (fun H locs hW hS => ?_)
    have hW : kx_Wd G z0 ad nb (kx_up sg9 32 0 (upd (sg9 32 0) 0 v9)) H := by first | exact hW | (simp only [kx_up_s, kx_up_up] at hW; exact hW) | (simp only [kx_up_s, kx_up_up, upd_s] at hW; exact hW)
    refine lv_goto (tgt := 22) hx hb dL_hasFee_16 (by decide) ?_
    refine lv_iconst (v := 0) hx hb dL_hasFee_22 (by decide) ?_
    refine vx_ret ?_
    exact kx_ri F hr hlocks hW hS (by first | exact Nat.le_of_ble_eq_true rfl | omega) (by first | exact Nat.le_of_ble_eq_true rfl | omega) (Or.inl ⟨v9, sg9, rfl, hq, rfl⟩) dL_hasFee_23

theorem ci_isInsured {nb : Nat} {s s1 : kx_S} {x : Int32} {r : Option Value} (h : cq_isInsured nb s x r s1) : ∃ a : Int32, r = some (.int a) := by
  unfold cq_isInsured at h
  grind

theorem ce_isInsured {nb : Nat} {s : kx_S} {x : Int32} {E : String} (h : cx_isInsured nb s x E) : E = kx_ioe := by
  unfold cx_isInsured at h
  grind

theorem cb_isInsured {nb : Nat} {s s1 : kx_S} {x a : Int32} (hC : tw_CI nb s) (h : cq_isInsured nb s x (some (.int a)) s1) : tw_01 a := by
  obtain ⟨-, -, h1, h2, -⟩ := hC
  unfold cq_isInsured at h
  grind

set_option maxHeartbeats 1000000 in
set_option maxRecDepth 100000 in
theorem c_L_isInsured (l : Launch) (hlf : l.stackTraces = false) (G : kx_G) (z0 : Nat) (ad : kx_A) (nb : Nat) (sg : kx_S) (hC : tw_CI nb sg) (x : Int32) : kx_MX l yL_isInsured wsL_isInsured 8 132 1 6 G z0 ad nb sg [.ref (ad 0 0), .int x, .ref (ad 32 0)] (fun r sg' => (∃ (a : Int32) (sgc : kx_S), r = some (.int 0) ∧ cq_isInsured nb sg x (some (.int a)) sgc ∧ sg' = kx_up sgc 32 0 (upd (sgc 32 0) 0 a)) ∨ (∃ (k : Int32) (E : String), r = some (.int k) ∧ sg' = sg ∧ cx_isInsured nb sg x E ∧ ((E = kx_ioe ∧ k = 1)))) (fun _ => False) := by
  refine vx_ofWH (hh := [(0, 16, 19, 20)]) (cc := cL_isInsured) (maxL := 4) (ret := (some .int)) (by decide) rfl ?_
  intro p e s m args below meth c s₁ B hml hv
  obtain ⟨rfl, hW, hV⟩ := hv
  have hts := atoms_spec (ws := wsL_isInsured) B.pre
  have F : kx_F p s m c cL_isInsured 4 RL _ wsL_isInsured G z0 := ⟨B.exec, B.bytes, hml, findClass_of_methodNamed B.named, hts, hV⟩
  have htb : c.exceptionTable.toList = tableOf [(0, 16, 19, 20)] := vx_table (x := yL_isInsured) B (hts (.codeWith yL_isInsured cL_isInsured 4 (some .int) [(0, 16, 19, 20)]) List.mem_cons_self)
  have hx := B.exec; have hb := B.bytes; have hr := B.returns; have hlocks := B.notSynchronized
  have hS : va_S (kx_Ad z0) s.heap s.heap [] := va_S.rf
  have hl := lv_entry ([.ref (ad 0 0), .int x, .ref (ad 32 0)]) (n := 4) (Nat.le_of_ble_eq_true rfl)
  rw [lg_entry_eq]
  generalize (lg_sl ([.ref (ad 0 0), .int x, .ref (ad 32 0)]) ++ List.replicate (4 - (lg_sl ([.ref (ad 0 0), .int x, .ref (ad 32 0)])).length) Slot.unset).toArray = ls at hl ⊢
  have hl : lv_has ls 4 [(0, .ref (ad 0 0)), (1, .int x), (2, .ref (ad 32 0))] := hl
  refine lv_aload_n hx hb dL_isInsured_0 rfl (lv_at hl 2 rfl) ?_
  refine lv_iconst (v := 0) hx hb dL_isInsured_1 (by decide) ?_
  refine lv_aload_n hx hb dL_isInsured_2 rfl (lv_at hl 0 rfl) ?_
  refine lv_iload_n hx hb dL_isInsured_3 rfl (lv_at hl 1 rfl) ?_
  refine kx_xV (na := 1) F (q := 0) (n := 0) (c_X3_isInsured l hlf G z0 ad nb sg hC x) gL_isInsured_X3_isInsured rfl (by decide +kernel) ⟨Nat.le_of_ble_eq_true rfl, Nat.le_of_ble_eq_true rfl⟩ hW hS ⟨by decide, rfl⟩ rfl rfl (As := [.int x]) (rest := [.int 0, .ref (ad 32 0)]) rfl hl.1 rfl (Nat.le_of_ble_eq_true rfl) dL_isInsured_4 ⟨by first | exact Nat.le_of_ble_eq_true rfl | omega, by first | exact Nat.le_of_ble_eq_true rfl | omega⟩ (fun E9 ce9 q9 H locs hp9 hW hS h7 h8 h9 => ?_) (fun r9 sg9 H locs hq hW hS => ?_)
  · have hp9 : cx_isInsured nb sg x E9 := hp9
    obtain rfl := ce_isInsured hp9
    · refine kx_ct F htb [] ⟨0, 16, 19, 20⟩ [] rfl (by simp) (by decide) (by decide) (by decide +kernel) (by decide +kernel) h7 h8 h9 ?_
      refine lv_astore_n (lv' := [(3, .ref q9), (0, .ref (ad 0 0)), (1, .int x), (2, .ref (ad 32 0))]) hx hb dL_isInsured_19 rfl hl (by decide) rfl (fun ls hl => ?_)
      refine lv_iconst (v := 1) hx hb dL_isInsured_20 (by decide) ?_
      refine vx_ret ?_
      exact kx_ri F hr hlocks hW hS (by first | exact Nat.le_of_ble_eq_true rfl | omega) (by first | exact Nat.le_of_ble_eq_true rfl | omega) (Or.inr ⟨1, _, rfl, rfl, hp9, ⟨rfl, rfl⟩⟩) dL_isInsured_21
  have hq : cq_isInsured nb sg x r9 sg9 := hq
  obtain ⟨v9, hv9⟩ := ci_isInsured hq
  subst hv9
  have h01 := cb_isInsured hC hq
  have hW : kx_Wd G z0 ad nb (sg9) H := by first | exact hW | (simp only [kx_up_s, kx_up_up] at hW; exact hW) | (simp only [kx_up_s, kx_up_up, upd_s] at hW; exact hW)
  refine W.eq (g2 := F0 m 7 ls [.int v9, .int 0, .ref (ad 32 0)]) rfl ?_
  refine lv_if_eq (tgt := 14) hx hb dL_isInsured_7 (by decide) (fun c_7 => ?_) (fun c_7 => ?_)
  · refine lv_lconst (v := 0) hx hb dL_isInsured_14 (by decide) ?_
    refine kx_last F hW hS (x := v9) (by rw [c_7]; rfl) dL_isInsured_15 (fun H locs hW hS => ?_)
    have hW : kx_Wd G z0 ad nb (kx_up sg9 32 0 (upd (sg9 32 0) 0 v9)) H := by first | exact hW | (simp only [kx_up_s, kx_up_up] at hW; exact hW) | (simp only [kx_up_s, kx_up_up, upd_s] at hW; exact hW)
    refine lv_goto (tgt := 22) hx hb dL_isInsured_16 (by decide) ?_
    refine lv_iconst (v := 0) hx hb dL_isInsured_22 (by decide) ?_
    refine vx_ret ?_
    exact kx_ri F hr hlocks hW hS (by first | exact Nat.le_of_ble_eq_true rfl | omega) (by first | exact Nat.le_of_ble_eq_true rfl | omega) (Or.inl ⟨v9, sg9, rfl, hq, rfl⟩) dL_isInsured_23
  · refine lv_lconst (v := 1) hx hb dL_isInsured_10 (by decide) ?_
    refine lv_goto (tgt := 15) hx hb dL_isInsured_11 (by decide) ?_
    refine kx_last F hW hS (x := v9) (by rw [tw_ins (f := 0) h01 c_7]; rfl) dL_isInsured_15 (fun H locs hW hS => ?_)
    have hW : kx_Wd G z0 ad nb (kx_up sg9 32 0 (upd (sg9 32 0) 0 v9)) H := by first | exact hW | (simp only [kx_up_s, kx_up_up] at hW; exact hW) | (simp only [kx_up_s, kx_up_up, upd_s] at hW; exact hW)
    refine lv_goto (tgt := 22) hx hb dL_isInsured_16 (by decide) ?_
    refine lv_iconst (v := 0) hx hb dL_isInsured_22 (by decide) ?_
    refine vx_ret ?_
    exact kx_ri F hr hlocks hW hS (by first | exact Nat.le_of_ble_eq_true rfl | omega) (by first | exact Nat.le_of_ble_eq_true rfl | omega) (Or.inl ⟨v9, sg9, rfl, hq, rfl⟩) dL_isInsured_23

theorem ci_fees {nb : Nat} {s s1 : kx_S} {x : Int32} {r : Option Value} (h : cq_fees nb s x r s1) : ∃ a : Int32, r = some (.int a) := by
  unfold cq_fees at h
  grind

theorem ce_fees {nb : Nat} {s : kx_S} {x : Int32} {E : String} (h : cx_fees nb s x E) : E = kx_ioe := by
  unfold cx_fees at h
  grind

set_option maxHeartbeats 1000000 in
set_option maxRecDepth 100000 in
theorem c_L_fees (l : Launch) (hlf : l.stackTraces = false) (G : kx_G) (z0 : Nat) (ad : kx_A) (nb : Nat) (sg : kx_S) (hC : tw_CI nb sg) (x : Int32) : kx_MX l yL_fees wsL_fees 8 131 1 6 G z0 ad nb sg [.ref (ad 0 0), .int x, .ref (ad 32 0)] (fun r sg' => (∃ (a : Int32) (sgc : kx_S), r = some (.int 0) ∧ cq_fees nb sg x (some (.int a)) sgc ∧ sg' = kx_up sgc 32 0 (upd (sgc 32 0) 0 a)) ∨ (∃ (k : Int32) (E : String), r = some (.int k) ∧ sg' = sg ∧ cx_fees nb sg x E ∧ ((E = kx_ioe ∧ k = 1)))) (fun _ => False) := by
  refine vx_ofWH (hh := [(0, 9, 12, 20)]) (cc := cL_fees) (maxL := 4) (ret := (some .int)) (by decide) rfl ?_
  intro p e s m args below meth c s₁ B hml hv
  obtain ⟨rfl, hW, hV⟩ := hv
  have hts := atoms_spec (ws := wsL_fees) B.pre
  have F : kx_F p s m c cL_fees 4 RL _ wsL_fees G z0 := ⟨B.exec, B.bytes, hml, findClass_of_methodNamed B.named, hts, hV⟩
  have htb : c.exceptionTable.toList = tableOf [(0, 9, 12, 20)] := vx_table (x := yL_fees) B (hts (.codeWith yL_fees cL_fees 4 (some .int) [(0, 9, 12, 20)]) List.mem_cons_self)
  have hx := B.exec; have hb := B.bytes; have hr := B.returns; have hlocks := B.notSynchronized
  have hS : va_S (kx_Ad z0) s.heap s.heap [] := va_S.rf
  have hl := lv_entry ([.ref (ad 0 0), .int x, .ref (ad 32 0)]) (n := 4) (Nat.le_of_ble_eq_true rfl)
  rw [lg_entry_eq]
  generalize (lg_sl ([.ref (ad 0 0), .int x, .ref (ad 32 0)]) ++ List.replicate (4 - (lg_sl ([.ref (ad 0 0), .int x, .ref (ad 32 0)])).length) Slot.unset).toArray = ls at hl ⊢
  have hl : lv_has ls 4 [(0, .ref (ad 0 0)), (1, .int x), (2, .ref (ad 32 0))] := hl
  refine lv_aload_n hx hb dL_fees_0 rfl (lv_at hl 2 rfl) ?_
  refine lv_iconst (v := 0) hx hb dL_fees_1 (by decide) ?_
  refine lv_aload_n hx hb dL_fees_2 rfl (lv_at hl 0 rfl) ?_
  refine lv_iload_n hx hb dL_fees_3 rfl (lv_at hl 1 rfl) ?_
  refine kx_xV (na := 1) F (q := 0) (n := 0) (c_X3_fees l hlf G z0 ad nb sg hC x) gL_fees_X3_fees rfl (by decide +kernel) ⟨Nat.le_of_ble_eq_true rfl, Nat.le_of_ble_eq_true rfl⟩ hW hS ⟨by decide, rfl⟩ rfl rfl (As := [.int x]) (rest := [.int 0, .ref (ad 32 0)]) rfl hl.1 rfl (Nat.le_of_ble_eq_true rfl) dL_fees_4 ⟨by first | exact Nat.le_of_ble_eq_true rfl | omega, by first | exact Nat.le_of_ble_eq_true rfl | omega⟩ (fun E9 ce9 q9 H locs hp9 hW hS h7 h8 h9 => ?_) (fun r9 sg9 H locs hq hW hS => ?_)
  · have hp9 : cx_fees nb sg x E9 := hp9
    obtain rfl := ce_fees hp9
    · refine kx_ct F htb [] ⟨0, 9, 12, 20⟩ [] rfl (by simp) (by decide) (by decide) (by decide +kernel) (by decide +kernel) h7 h8 h9 ?_
      refine lv_astore_n (lv' := [(3, .ref q9), (0, .ref (ad 0 0)), (1, .int x), (2, .ref (ad 32 0))]) hx hb dL_fees_12 rfl hl (by decide) rfl (fun ls hl => ?_)
      refine lv_iconst (v := 1) hx hb dL_fees_13 (by decide) ?_
      refine vx_ret ?_
      exact kx_ri F hr hlocks hW hS (by first | exact Nat.le_of_ble_eq_true rfl | omega) (by first | exact Nat.le_of_ble_eq_true rfl | omega) (Or.inr ⟨1, _, rfl, rfl, hp9, ⟨rfl, rfl⟩⟩) dL_fees_14
  have hq : cq_fees nb sg x r9 sg9 := hq
  obtain ⟨v9, hv9⟩ := ci_fees hq
  subst hv9
  have hW : kx_Wd G z0 ad nb (sg9) H := by first | exact hW | (simp only [kx_up_s, kx_up_up] at hW; exact hW) | (simp only [kx_up_s, kx_up_up, upd_s] at hW; exact hW)
  refine W.eq (g2 := F0 m 7 ls [.int v9, .int 0, .ref (ad 32 0)]) rfl ?_
  refine lv_i2l (v := Int32.toInt64 v9) hx hb dL_fees_7 rfl ?_
  refine kx_last F hW hS (x := v9) rfl dL_fees_8 (fun H locs hW hS => ?_)
  have hW : kx_Wd G z0 ad nb (kx_up sg9 32 0 (upd (sg9 32 0) 0 v9)) H := by first | exact hW | (simp only [kx_up_s, kx_up_up] at hW; exact hW) | (simp only [kx_up_s, kx_up_up, upd_s] at hW; exact hW)
  refine lv_goto (tgt := 15) hx hb dL_fees_9 (by decide) ?_
  refine lv_iconst (v := 0) hx hb dL_fees_15 (by decide) ?_
  refine vx_ret ?_
  exact kx_ri F hr hlocks hW hS (by first | exact Nat.le_of_ble_eq_true rfl | omega) (by first | exact Nat.le_of_ble_eq_true rfl | omega) (Or.inl ⟨v9, sg9, rfl, hq, rfl⟩) dL_fees_16

theorem ci_fine {nb : Nat} {s s1 : kx_S} {x : Int32} {r : Option Value} (h : cq_fine nb s x r s1) : ∃ a : Int32, r = some (.int a) := by
  unfold cq_fine at h
  grind

theorem ce_fine {nb : Nat} {s : kx_S} {x : Int32} {E : String} (h : cx_fine nb s x E) : E = kx_ioe := by
  unfold cx_fine at h
  grind

set_option maxHeartbeats 1000000 in
set_option maxRecDepth 100000 in
theorem c_L_fine (l : Launch) (hlf : l.stackTraces = false) (G : kx_G) (z0 : Nat) (ad : kx_A) (nb : Nat) (sg : kx_S) (hC : tw_CI nb sg) (x : Int32) : kx_MX l yL_fine wsL_fine 8 134 1 6 G z0 ad nb sg [.ref (ad 0 0), .int x, .ref (ad 32 0)] (fun r sg' => (∃ (a : Int32) (sgc : kx_S), r = some (.int 0) ∧ cq_fine nb sg x (some (.int a)) sgc ∧ sg' = kx_up sgc 32 0 (upd (sgc 32 0) 0 a)) ∨ (∃ (k : Int32) (E : String), r = some (.int k) ∧ sg' = sg ∧ cx_fine nb sg x E ∧ ((E = kx_ioe ∧ k = 1)))) (fun _ => False) := by
  refine vx_ofWH (hh := [(0, 9, 12, 20)]) (cc := cL_fine) (maxL := 4) (ret := (some .int)) (by decide) rfl ?_
  intro p e s m args below meth c s₁ B hml hv
  obtain ⟨rfl, hW, hV⟩ := hv
  have hts := atoms_spec (ws := wsL_fine) B.pre
  have F : kx_F p s m c cL_fine 4 RL _ wsL_fine G z0 := ⟨B.exec, B.bytes, hml, findClass_of_methodNamed B.named, hts, hV⟩
  have htb : c.exceptionTable.toList = tableOf [(0, 9, 12, 20)] := vx_table (x := yL_fine) B (hts (.codeWith yL_fine cL_fine 4 (some .int) [(0, 9, 12, 20)]) List.mem_cons_self)
  have hx := B.exec; have hb := B.bytes; have hr := B.returns; have hlocks := B.notSynchronized
  have hS : va_S (kx_Ad z0) s.heap s.heap [] := va_S.rf
  have hl := lv_entry ([.ref (ad 0 0), .int x, .ref (ad 32 0)]) (n := 4) (Nat.le_of_ble_eq_true rfl)
  rw [lg_entry_eq]
  generalize (lg_sl ([.ref (ad 0 0), .int x, .ref (ad 32 0)]) ++ List.replicate (4 - (lg_sl ([.ref (ad 0 0), .int x, .ref (ad 32 0)])).length) Slot.unset).toArray = ls at hl ⊢
  have hl : lv_has ls 4 [(0, .ref (ad 0 0)), (1, .int x), (2, .ref (ad 32 0))] := hl
  refine lv_aload_n hx hb dL_fine_0 rfl (lv_at hl 2 rfl) ?_
  refine lv_iconst (v := 0) hx hb dL_fine_1 (by decide) ?_
  refine lv_aload_n hx hb dL_fine_2 rfl (lv_at hl 0 rfl) ?_
  refine lv_iload_n hx hb dL_fine_3 rfl (lv_at hl 1 rfl) ?_
  refine kx_xV (na := 1) F (q := 0) (n := 0) (c_X3_fine l hlf G z0 ad nb sg hC x) gL_fine_X3_fine rfl (by decide +kernel) ⟨Nat.le_of_ble_eq_true rfl, Nat.le_of_ble_eq_true rfl⟩ hW hS ⟨by decide, rfl⟩ rfl rfl (As := [.int x]) (rest := [.int 0, .ref (ad 32 0)]) rfl hl.1 rfl (Nat.le_of_ble_eq_true rfl) dL_fine_4 ⟨by first | exact Nat.le_of_ble_eq_true rfl | omega, by first | exact Nat.le_of_ble_eq_true rfl | omega⟩ (fun E9 ce9 q9 H locs hp9 hW hS h7 h8 h9 => ?_) (fun r9 sg9 H locs hq hW hS => ?_)
  · have hp9 : cx_fine nb sg x E9 := hp9
    obtain rfl := ce_fine hp9
    · refine kx_ct F htb [] ⟨0, 9, 12, 20⟩ [] rfl (by simp) (by decide) (by decide) (by decide +kernel) (by decide +kernel) h7 h8 h9 ?_
      refine lv_astore_n (lv' := [(3, .ref q9), (0, .ref (ad 0 0)), (1, .int x), (2, .ref (ad 32 0))]) hx hb dL_fine_12 rfl hl (by decide) rfl (fun ls hl => ?_)
      refine lv_iconst (v := 1) hx hb dL_fine_13 (by decide) ?_
      refine vx_ret ?_
      exact kx_ri F hr hlocks hW hS (by first | exact Nat.le_of_ble_eq_true rfl | omega) (by first | exact Nat.le_of_ble_eq_true rfl | omega) (Or.inr ⟨1, _, rfl, rfl, hp9, ⟨rfl, rfl⟩⟩) dL_fine_14
  have hq : cq_fine nb sg x r9 sg9 := hq
  obtain ⟨v9, hv9⟩ := ci_fine hq
  subst hv9
  have hW : kx_Wd G z0 ad nb (sg9) H := by first | exact hW | (simp only [kx_up_s, kx_up_up] at hW; exact hW) | (simp only [kx_up_s, kx_up_up, upd_s] at hW; exact hW)
  refine W.eq (g2 := F0 m 7 ls [.int v9, .int 0, .ref (ad 32 0)]) rfl ?_
  refine lv_i2l (v := Int32.toInt64 v9) hx hb dL_fine_7 rfl ?_
  refine kx_last F hW hS (x := v9) rfl dL_fine_8 (fun H locs hW hS => ?_)
  have hW : kx_Wd G z0 ad nb (kx_up sg9 32 0 (upd (sg9 32 0) 0 v9)) H := by first | exact hW | (simp only [kx_up_s, kx_up_up] at hW; exact hW) | (simp only [kx_up_s, kx_up_up, upd_s] at hW; exact hW)
  refine lv_goto (tgt := 15) hx hb dL_fine_9 (by decide) ?_
  refine lv_iconst (v := 0) hx hb dL_fine_15 (by decide) ?_
  refine vx_ret ?_
  exact kx_ri F hr hlocks hW hS (by first | exact Nat.le_of_ble_eq_true rfl | omega) (by first | exact Nat.le_of_ble_eq_true rfl | omega) (Or.inl ⟨v9, sg9, rfl, hq, rfl⟩) dL_fine_16

theorem ci_isJammed {nb : Nat} {s s1 : kx_S} {x : Int32} {r : Option Value} (h : cq_isJammed nb s x r s1) : ∃ a : Int32, r = some (.int a) := by
  unfold cq_isJammed at h
  grind

theorem ce_isJammed {nb : Nat} {s : kx_S} {x : Int32} {E : String} (h : cx_isJammed nb s x E) : E = kx_ioe := by
  unfold cx_isJammed at h
  grind

theorem cb_isJammed {nb : Nat} {s s1 : kx_S} {x a : Int32} (hC : tw_CI nb s) (h : cq_isJammed nb s x (some (.int a)) s1) : tw_01 a := by
  obtain ⟨-, -, h1, h2, -⟩ := hC
  unfold cq_isJammed at h
  grind

set_option maxHeartbeats 1000000 in
set_option maxRecDepth 100000 in
theorem c_L_isJammed (l : Launch) (hlf : l.stackTraces = false) (G : kx_G) (z0 : Nat) (ad : kx_A) (nb : Nat) (sg : kx_S) (hC : tw_CI nb sg) (x : Int32) : kx_MX l yL_isJammed wsL_isJammed 8 132 1 6 G z0 ad nb sg [.ref (ad 0 0), .int x, .ref (ad 32 0)] (fun r sg' => (∃ (a : Int32) (sgc : kx_S), r = some (.int 0) ∧ cq_isJammed nb sg x (some (.int a)) sgc ∧ sg' = kx_up sgc 32 0 (upd (sgc 32 0) 0 a)) ∨ (∃ (k : Int32) (E : String), r = some (.int k) ∧ sg' = sg ∧ cx_isJammed nb sg x E ∧ ((E = kx_ioe ∧ k = 1)))) (fun _ => False) := by
  refine vx_ofWH (hh := [(0, 16, 19, 20)]) (cc := cL_isJammed) (maxL := 4) (ret := (some .int)) (by decide) rfl ?_
  intro p e s m args below meth c s₁ B hml hv
  obtain ⟨rfl, hW, hV⟩ := hv
  have hts := atoms_spec (ws := wsL_isJammed) B.pre
  have F : kx_F p s m c cL_isJammed 4 RL _ wsL_isJammed G z0 := ⟨B.exec, B.bytes, hml, findClass_of_methodNamed B.named, hts, hV⟩
  have htb : c.exceptionTable.toList = tableOf [(0, 16, 19, 20)] := vx_table (x := yL_isJammed) B (hts (.codeWith yL_isJammed cL_isJammed 4 (some .int) [(0, 16, 19, 20)]) List.mem_cons_self)
  have hx := B.exec; have hb := B.bytes; have hr := B.returns; have hlocks := B.notSynchronized
  have hS : va_S (kx_Ad z0) s.heap s.heap [] := va_S.rf
  have hl := lv_entry ([.ref (ad 0 0), .int x, .ref (ad 32 0)]) (n := 4) (Nat.le_of_ble_eq_true rfl)
  rw [lg_entry_eq]
  generalize (lg_sl ([.ref (ad 0 0), .int x, .ref (ad 32 0)]) ++ List.replicate (4 - (lg_sl ([.ref (ad 0 0), .int x, .ref (ad 32 0)])).length) Slot.unset).toArray = ls at hl ⊢
  have hl : lv_has ls 4 [(0, .ref (ad 0 0)), (1, .int x), (2, .ref (ad 32 0))] := hl
  refine lv_aload_n hx hb dL_isJammed_0 rfl (lv_at hl 2 rfl) ?_
  refine lv_iconst (v := 0) hx hb dL_isJammed_1 (by decide) ?_
  refine lv_aload_n hx hb dL_isJammed_2 rfl (lv_at hl 0 rfl) ?_
  refine lv_iload_n hx hb dL_isJammed_3 rfl (lv_at hl 1 rfl) ?_
  refine kx_xV (na := 1) F (q := 0) (n := 0) (c_X3_isJammed l hlf G z0 ad nb sg hC x) gL_isJammed_X3_isJammed rfl (by decide +kernel) ⟨Nat.le_of_ble_eq_true rfl, Nat.le_of_ble_eq_true rfl⟩ hW hS ⟨by decide, rfl⟩ rfl rfl (As := [.int x]) (rest := [.int 0, .ref (ad 32 0)]) rfl hl.1 rfl (Nat.le_of_ble_eq_true rfl) dL_isJammed_4 ⟨by first | exact Nat.le_of_ble_eq_true rfl | omega, by first | exact Nat.le_of_ble_eq_true rfl | omega⟩ (fun E9 ce9 q9 H locs hp9 hW hS h7 h8 h9 => ?_) (fun r9 sg9 H locs hq hW hS => ?_)
  · have hp9 : cx_isJammed nb sg x E9 := hp9
    obtain rfl := ce_isJammed hp9
    · refine kx_ct F htb [] ⟨0, 16, 19, 20⟩ [] rfl (by simp) (by decide) (by decide) (by decide +kernel) (by decide +kernel) h7 h8 h9 ?_
      refine lv_astore_n (lv' := [(3, .ref q9), (0, .ref (ad 0 0)), (1, .int x), (2, .ref (ad 32 0))]) hx hb dL_isJammed_19 rfl hl (by decide) rfl (fun ls hl => ?_)
      refine lv_iconst (v := 1) hx hb dL_isJammed_20 (by decide) ?_
      refine vx_ret ?_
      exact kx_ri F hr hlocks hW hS (by first | exact Nat.le_of_ble_eq_true rfl | omega) (by first | exact Nat.le_of_ble_eq_true rfl | omega) (Or.inr ⟨1, _, rfl, rfl, hp9, ⟨rfl, rfl⟩⟩) dL_isJammed_21
  have hq : cq_isJammed nb sg x r9 sg9 := hq
  obtain ⟨v9, hv9⟩ := ci_isJammed hq
  subst hv9
  have h01 := cb_isJammed hC hq
  have hW : kx_Wd G z0 ad nb (sg9) H := by first | exact hW | (simp only [kx_up_s, kx_up_up] at hW; exact hW) | (simp only [kx_up_s, kx_up_up, upd_s] at hW; exact hW)
  refine W.eq (g2 := F0 m 7 ls [.int v9, .int 0, .ref (ad 32 0)]) rfl ?_
  refine lv_if_eq (tgt := 14) hx hb dL_isJammed_7 (by decide) (fun c_7 => ?_) (fun c_7 => ?_)
  · refine lv_lconst (v := 0) hx hb dL_isJammed_14 (by decide) ?_
    refine kx_last F hW hS (x := v9) (by rw [c_7]; rfl) dL_isJammed_15 (fun H locs hW hS => ?_)
    have hW : kx_Wd G z0 ad nb (kx_up sg9 32 0 (upd (sg9 32 0) 0 v9)) H := by first | exact hW | (simp only [kx_up_s, kx_up_up] at hW; exact hW) | (simp only [kx_up_s, kx_up_up, upd_s] at hW; exact hW)
    refine lv_goto (tgt := 22) hx hb dL_isJammed_16 (by decide) ?_
    refine lv_iconst (v := 0) hx hb dL_isJammed_22 (by decide) ?_
    refine vx_ret ?_
    exact kx_ri F hr hlocks hW hS (by first | exact Nat.le_of_ble_eq_true rfl | omega) (by first | exact Nat.le_of_ble_eq_true rfl | omega) (Or.inl ⟨v9, sg9, rfl, hq, rfl⟩) dL_isJammed_23
  · refine lv_lconst (v := 1) hx hb dL_isJammed_10 (by decide) ?_
    refine lv_goto (tgt := 15) hx hb dL_isJammed_11 (by decide) ?_
    refine kx_last F hW hS (x := v9) (by rw [tw_ins (f := 0) h01 c_7]; rfl) dL_isJammed_15 (fun H locs hW hS => ?_)
    have hW : kx_Wd G z0 ad nb (kx_up sg9 32 0 (upd (sg9 32 0) 0 v9)) H := by first | exact hW | (simp only [kx_up_s, kx_up_up] at hW; exact hW) | (simp only [kx_up_s, kx_up_up, upd_s] at hW; exact hW)
    refine lv_goto (tgt := 22) hx hb dL_isJammed_16 (by decide) ?_
    refine lv_iconst (v := 0) hx hb dL_isJammed_22 (by decide) ?_
    refine vx_ret ?_
    exact kx_ri F hr hlocks hW hS (by first | exact Nat.le_of_ble_eq_true rfl | omega) (by first | exact Nat.le_of_ble_eq_true rfl | omega) (Or.inl ⟨v9, sg9, rfl, hq, rfl⟩) dL_isJammed_23

theorem ci_keptFor {nb : Nat} {s s1 : kx_S} {x : Int32} {r : Option Value} (h : cq_keptFor nb s x r s1) : ∃ a : Int32, r = some (.int a) := by
  unfold cq_keptFor at h
  grind

theorem ce_keptFor {nb : Nat} {s : kx_S} {x : Int32} {E : String} (h : cx_keptFor nb s x E) : E = kx_ioe := by
  unfold cx_keptFor at h
  grind

set_option maxHeartbeats 1000000 in
set_option maxRecDepth 100000 in
theorem c_L_keptFor (l : Launch) (hlf : l.stackTraces = false) (G : kx_G) (z0 : Nat) (ad : kx_A) (nb : Nat) (sg : kx_S) (hC : tw_CI nb sg) (x : Int32) : kx_MX l yL_keptFor wsL_keptFor 8 132 1 6 G z0 ad nb sg [.ref (ad 0 0), .int x, .ref (ad 32 0)] (fun r sg' => (∃ (a : Int32) (sgc : kx_S), r = some (.int 0) ∧ cq_keptFor nb sg x (some (.int a)) sgc ∧ sg' = kx_up sgc 32 0 (upd (sgc 32 0) 0 a)) ∨ (∃ (k : Int32) (E : String), r = some (.int k) ∧ sg' = sg ∧ cx_keptFor nb sg x E ∧ ((E = kx_ioe ∧ k = 1)))) (fun _ => False) := by
  refine vx_ofWH (hh := [(0, 9, 12, 20)]) (cc := cL_keptFor) (maxL := 4) (ret := (some .int)) (by decide) rfl ?_
  intro p e s m args below meth c s₁ B hml hv
  obtain ⟨rfl, hW, hV⟩ := hv
  have hts := atoms_spec (ws := wsL_keptFor) B.pre
  have F : kx_F p s m c cL_keptFor 4 RL _ wsL_keptFor G z0 := ⟨B.exec, B.bytes, hml, findClass_of_methodNamed B.named, hts, hV⟩
  have htb : c.exceptionTable.toList = tableOf [(0, 9, 12, 20)] := vx_table (x := yL_keptFor) B (hts (.codeWith yL_keptFor cL_keptFor 4 (some .int) [(0, 9, 12, 20)]) List.mem_cons_self)
  have hx := B.exec; have hb := B.bytes; have hr := B.returns; have hlocks := B.notSynchronized
  have hS : va_S (kx_Ad z0) s.heap s.heap [] := va_S.rf
  have hl := lv_entry ([.ref (ad 0 0), .int x, .ref (ad 32 0)]) (n := 4) (Nat.le_of_ble_eq_true rfl)
  rw [lg_entry_eq]
  generalize (lg_sl ([.ref (ad 0 0), .int x, .ref (ad 32 0)]) ++ List.replicate (4 - (lg_sl ([.ref (ad 0 0), .int x, .ref (ad 32 0)])).length) Slot.unset).toArray = ls at hl ⊢
  have hl : lv_has ls 4 [(0, .ref (ad 0 0)), (1, .int x), (2, .ref (ad 32 0))] := hl
  refine lv_aload_n hx hb dL_keptFor_0 rfl (lv_at hl 2 rfl) ?_
  refine lv_iconst (v := 0) hx hb dL_keptFor_1 (by decide) ?_
  refine lv_aload_n hx hb dL_keptFor_2 rfl (lv_at hl 0 rfl) ?_
  refine lv_iload_n hx hb dL_keptFor_3 rfl (lv_at hl 1 rfl) ?_
  refine kx_xV (na := 1) F (q := 0) (n := 0) (c_X3_keptFor l hlf G z0 ad nb sg hC x) gL_keptFor_X3_keptFor rfl (by decide +kernel) ⟨Nat.le_of_ble_eq_true rfl, Nat.le_of_ble_eq_true rfl⟩ hW hS ⟨by decide, rfl⟩ rfl rfl (As := [.int x]) (rest := [.int 0, .ref (ad 32 0)]) rfl hl.1 rfl (Nat.le_of_ble_eq_true rfl) dL_keptFor_4 ⟨by first | exact Nat.le_of_ble_eq_true rfl | omega, by first | exact Nat.le_of_ble_eq_true rfl | omega⟩ (fun E9 ce9 q9 H locs hp9 hW hS h7 h8 h9 => ?_) (fun r9 sg9 H locs hq hW hS => ?_)
  · have hp9 : cx_keptFor nb sg x E9 := hp9
    obtain rfl := ce_keptFor hp9
    · refine kx_ct F htb [] ⟨0, 9, 12, 20⟩ [] rfl (by simp) (by decide) (by decide) (by decide +kernel) (by decide +kernel) h7 h8 h9 ?_
      refine lv_astore_n (lv' := [(3, .ref q9), (0, .ref (ad 0 0)), (1, .int x), (2, .ref (ad 32 0))]) hx hb dL_keptFor_12 rfl hl (by decide) rfl (fun ls hl => ?_)
      refine lv_iconst (v := 1) hx hb dL_keptFor_13 (by decide) ?_
      refine vx_ret ?_
      exact kx_ri F hr hlocks hW hS (by first | exact Nat.le_of_ble_eq_true rfl | omega) (by first | exact Nat.le_of_ble_eq_true rfl | omega) (Or.inr ⟨1, _, rfl, rfl, hp9, ⟨rfl, rfl⟩⟩) dL_keptFor_14
  have hq : cq_keptFor nb sg x r9 sg9 := hq
  obtain ⟨v9, hv9⟩ := ci_keptFor hq
  subst hv9
  have hW : kx_Wd G z0 ad nb (sg9) H := by first | exact hW | (simp only [kx_up_s, kx_up_up] at hW; exact hW) | (simp only [kx_up_s, kx_up_up, upd_s] at hW; exact hW)
  refine W.eq (g2 := F0 m 7 ls [.int v9, .int 0, .ref (ad 32 0)]) rfl ?_
  refine lv_i2l (v := Int32.toInt64 v9) hx hb dL_keptFor_7 rfl ?_
  refine kx_last F hW hS (x := v9) rfl dL_keptFor_8 (fun H locs hW hS => ?_)
  have hW : kx_Wd G z0 ad nb (kx_up sg9 32 0 (upd (sg9 32 0) 0 v9)) H := by first | exact hW | (simp only [kx_up_s, kx_up_up] at hW; exact hW) | (simp only [kx_up_s, kx_up_up, upd_s] at hW; exact hW)
  refine lv_goto (tgt := 15) hx hb dL_keptFor_9 (by decide) ?_
  refine lv_iconst (v := 0) hx hb dL_keptFor_15 (by decide) ?_
  refine vx_ret ?_
  exact kx_ri F hr hlocks hW hS (by first | exact Nat.le_of_ble_eq_true rfl | omega) (by first | exact Nat.le_of_ble_eq_true rfl | omega) (Or.inl ⟨v9, sg9, rfl, hq, rfl⟩) dL_keptFor_16

