theorem kx_M_imp {l : Launch} {y : MethodName} {ws : List Cond} {fr lo mc ms : Nat} {G : kx_G} {z0 : Nat} {ad : kx_A} {nb : Nat} {sg : kx_S} {av : List Value} {post post' : Option Value → kx_S → Prop} (h : kx_M l y ws fr lo mc ms G z0 ad nb sg av post) (hp : ∀ r s, post r s → post' r s) : kx_M l y ws fr lo mc ms G z0 ad nb sg av post' :=
  MetFree.mono h (fun _ _ q => q) (fun _ _ _ _ _ q => q) (fun _ _ _ _ _ q => ⟨⟨by obtain ⟨⟨⟨r, s9, h1, h2, h3⟩, -⟩, -⟩ := q; exact ⟨r, s9, h1, hp r s9 h2, h3⟩, q.1.2⟩, q.2⟩)
def tw_n (sg : kx_S) (i : Nat) : Nat := (sg 9 i 6).toNatClampNeg
theorem tw_n_eq {sg : kx_S} {i n : Nat} (h : sg 9 i 6 = nI n) (h12 : n ≤ 12) : tw_n sg i = n := by rw [tw_n, h, nI_clamp (by omega)]
def tw_01 (x : Int32) : Prop := x = 0 ∨ x = 1
theorem tw_01_nar {x : Int32} (h : tw_01 x) : narrow .boolean (.int x) = .int x := by rcases h with h | h <;> rw [h] <;> rfl
/-- what the town's methods lean on -/
def tw_CI (nb : Nat) (sg : kx_S) : Prop := nb ≤ 16 ∧ tw_WF nb sg ∧ (∀ i, i < nb → tw_01 (sg 9 i 8) ∧ tw_01 (sg 9 i 9)) ∧ (∀ d, d < 10 → tw_01 (sg 8 d 1)) ∧ (∀ d, d < 10 → sg 8 d 2 = -1 ∨ ∃ b : Nat, b < nb ∧ sg 8 d 2 = nI b) ∧ sg 0 0 6 = nI nb
/-- a scan is added, and its box is settled -/
def tw_AS (sg : kx_S) (i n : Nat) (q : Int32) (mj : Nat) (sg' : kx_S) : Prop := ∃ (a : Int32) (s1 : kx_S), (tw_tru a (nI 12) = decide (tw_cmn 0 q ≤ sg 0 0 7) ∧ ∀ j, j < n → tw_tru a (nI j) = decide (tw_cmn (sg 11 i j) q ≤ sg 0 0 7 - sg 10 i j)) ∧ s1 = kx_up (kx_up (kx_up (kx_up (kx_up sg 10 i (upd (sg 10 i) n (sg 0 0 7))) 11 i (upd (sg 11 i) n q)) 12 i (upd (sg 12 i) n (nI mj))) 13 i (upd (sg 13 i) n a)) 9 i (upd (sg 9 i) 6 (nI (n + 1))) ∧ tw_SR s1 sg' i (tw_stl s1 i (n + 1))
def tw_liesA (sg : kx_S) (who : Int32) : Nat → Int32
  | 0 => 0
  | k + 1 => tw_liesA sg who k + tw_lies (sg 9 k 7) (sg 12 k) who (tw_n sg k)
def tw_fineOf (now : Int32) (w s : Int32) : Int32 := if tw_kind w = 2 then 2 * (if (0 : Int32) < (now - s) / 60 - 24 then (now - s) / 60 - 24 else 0) else 0

theorem c_X3_addScan_any (l : Launch) (G : kx_G) (z0 : Nat) (ad : kx_A) (nb : Nat) (sg : kx_S) (i : Nat) (hi : i < nb) (n : Nat) (hn : sg 9 i 6 = nI n) (h12 : n ≤ 12) (hm : ∀ k, k < n → ∃ j : Nat, j ≤ 14 ∧ sg 12 i k = nI j) (ht : ∀ w, w < 14 → 1 ≤ (sg 3 0 w).toInt ∧ (sg 3 0 w).toInt ≤ 9) (q : Int32) (mj : Nat) (hmj : mj ≤ 14) : kx_M l yX3_addScan wsX3_addScan 5 113 0 0 G z0 ad nb sg [.ref (ad 0 0), .ref (ad 9 i), .int q, .int (nI mj)] (fun r sg' => ∃ v : Int32, r = some (.int v) ∧ ((n < 12 ∧ v = nI n ∧ tw_AS sg i n q mj sg') ∨ (n = 12 ∧ tw_SR sg sg' i (tw_stl sg i 12)))) := by
  rcases Nat.lt_or_ge n 12 with h | h
  · exact kx_M_imp (c_X3_addScan l G z0 ad nb sg i hi n hn h hm ht q mj hmj) (fun r s hq => ⟨nI n, hq.1, Or.inl ⟨h, rfl, hq.2⟩⟩)
  · have e : n = 12 := by omega
    subst e
    exact kx_M_imp (c_X3_addScan_full l G z0 ad nb sg i hi hn hm ht q (nI mj)) (fun r s hq => ⟨-1, hq.1, Or.inr ⟨rfl, hq.2⟩⟩)

set_option maxHeartbeats 1000000 in
set_option maxRecDepth 100000 in
theorem c_X3_scans (l : Launch) (hlf : l.stackTraces = false) (G : kx_G) (z0 : Nat) (ad : kx_A) (nb : Nat) (sg : kx_S) (hC : tw_CI nb sg) (x : Int32) : kx_MX l yX3_scans wsX3_scans 7 111 1 6 G z0 ad nb sg [.ref (ad 0 0), .int x] (fun r sg' => ∃ k : Nat, k < nb ∧ x = nI k ∧ r = some (.int (sg 9 k 6)) ∧ sg' = sg) (fun E => E = kx_ioe ∧ ∀ k, k < nb → ¬ x = nI k) := by
  refine vx_ofW (cc := cX3_scans) (maxL := 2) (ret := (some .int)) (by decide) rfl ?_
  intro p e s m args below meth c s₁ B hml htab hv
  obtain ⟨rfl, hW, hV⟩ := hv
  have hts := atoms_spec (ws := wsX3_scans) B.pre
  have F : kx_F p s m c cX3_scans 2 RX3 _ wsX3_scans G z0 := ⟨B.exec, B.bytes, hml, findClass_of_methodNamed B.named, hts, hV⟩
  have hx := B.exec; have hb := B.bytes; have hr := B.returns; have hlocks := B.notSynchronized
  have hS : va_S (kx_Ad z0) s.heap s.heap [] := va_S.rf
  obtain ⟨hnb, hwf, hbl, hjm, hkp, hnn⟩ := hC
  have L_171 : Cond.fieldLink RX3 171 (TX0 6).1 (TX0 6).2.1 (TX0 6).2.2.1 ∈ wsX3_scans := by decide +kernel
  have inX0 : ∀ w ∈ u_ws RX0 TX0 11, w ∈ wsX3_scans := by decide +kernel
  have hl := lv_entry ([.ref (ad 0 0), .int x]) (n := 2) (Nat.le_of_ble_eq_true rfl)
  rw [lg_entry_eq]
  generalize (lg_sl ([.ref (ad 0 0), .int x]) ++ List.replicate (2 - (lg_sl ([.ref (ad 0 0), .int x])).length) Slot.unset).toArray = ls at hl ⊢
  have hl : lv_has ls 2 [(0, .ref (ad 0 0)), (1, .int x)] := hl
  refine lv_aload_n hx hb dX3_scans_0 rfl (lv_at hl 0 rfl) ?_
  refine lv_iload_n hx hb dX3_scans_1 rfl (lv_at hl 1 rfl) ?_
  refine kx_xV (na := 1) F (q := 0) (n := 0) (c_X3_boxAt l hlf G z0 ad nb sg hnb x) gX3_scans_X3_boxAt rfl (by decide +kernel) ⟨Nat.le_of_ble_eq_true rfl, Nat.le_of_ble_eq_true rfl⟩ hW hS ⟨by decide, rfl⟩ rfl rfl (As := [.int x]) (rest := []) rfl hl.1 rfl (Nat.le_of_ble_eq_true rfl) dX3_scans_2 ⟨by first | exact Nat.le_of_ble_eq_true rfl | omega, by first | exact Nat.le_of_ble_eq_true rfl | omega⟩ (fun E9 ce9 q9 H locs hp9 hW hS h7 h8 h9 => ?_) (fun r9 sg9 H locs hq hW hS => ?_)
  · exact kx_out htab hlocks hW hS (by first | exact Nat.le_of_ble_eq_true rfl | omega) (by first | exact Nat.le_of_ble_eq_true rfl | omega) (hp9) h7 h8 h9
  obtain ⟨k, hk, rfl, rfl, e9⟩ := hq
  rw [e9] at hW
  refine W.eq (g2 := F0 m 5 ls [.ref (ad 9 k)]) rfl ?_
  refine kx_g F inX0 hW 9 k hk rfl rfl 6 (by decide) L_171 (v := .int (sg 9 k 6)) rfl dX3_scans_5 ?_
  refine vx_ret ?_
  exact kx_ri F hr hlocks hW hS (by first | exact Nat.le_of_ble_eq_true rfl | omega) (by first | exact Nat.le_of_ble_eq_true rfl | omega) (⟨k, hk, rfl, rfl, rfl⟩) dX3_scans_8

set_option maxHeartbeats 1000000 in
set_option maxRecDepth 100000 in
theorem c_X3_story (l : Launch) (hlf : l.stackTraces = false) (G : kx_G) (z0 : Nat) (ad : kx_A) (nb : Nat) (sg : kx_S) (hC : tw_CI nb sg) (x : Int32) : kx_MX l yX3_story wsX3_story 7 111 1 6 G z0 ad nb sg [.ref (ad 0 0), .int x] (fun r sg' => ∃ k : Nat, k < nb ∧ x = nI k ∧ r = some (.int (sg 9 k 7)) ∧ sg' = sg) (fun E => E = kx_ioe ∧ ∀ k, k < nb → ¬ x = nI k) := by
  refine vx_ofW (cc := cX3_story) (maxL := 2) (ret := (some .int)) (by decide) rfl ?_
  intro p e s m args below meth c s₁ B hml htab hv
  obtain ⟨rfl, hW, hV⟩ := hv
  have hts := atoms_spec (ws := wsX3_story) B.pre
  have F : kx_F p s m c cX3_story 2 RX3 _ wsX3_story G z0 := ⟨B.exec, B.bytes, hml, findClass_of_methodNamed B.named, hts, hV⟩
  have hx := B.exec; have hb := B.bytes; have hr := B.returns; have hlocks := B.notSynchronized
  have hS : va_S (kx_Ad z0) s.heap s.heap [] := va_S.rf
  obtain ⟨hnb, hwf, hbl, hjm, hkp, hnn⟩ := hC
  have L_174 : Cond.fieldLink RX3 174 (TX0 7).1 (TX0 7).2.1 (TX0 7).2.2.1 ∈ wsX3_story := by decide +kernel
  have inX0 : ∀ w ∈ u_ws RX0 TX0 11, w ∈ wsX3_story := by decide +kernel
  have hl := lv_entry ([.ref (ad 0 0), .int x]) (n := 2) (Nat.le_of_ble_eq_true rfl)
  rw [lg_entry_eq]
  generalize (lg_sl ([.ref (ad 0 0), .int x]) ++ List.replicate (2 - (lg_sl ([.ref (ad 0 0), .int x])).length) Slot.unset).toArray = ls at hl ⊢
  have hl : lv_has ls 2 [(0, .ref (ad 0 0)), (1, .int x)] := hl
  refine lv_aload_n hx hb dX3_story_0 rfl (lv_at hl 0 rfl) ?_
  refine lv_iload_n hx hb dX3_story_1 rfl (lv_at hl 1 rfl) ?_
  refine kx_xV (na := 1) F (q := 0) (n := 0) (c_X3_boxAt l hlf G z0 ad nb sg hnb x) gX3_story_X3_boxAt rfl (by decide +kernel) ⟨Nat.le_of_ble_eq_true rfl, Nat.le_of_ble_eq_true rfl⟩ hW hS ⟨by decide, rfl⟩ rfl rfl (As := [.int x]) (rest := []) rfl hl.1 rfl (Nat.le_of_ble_eq_true rfl) dX3_story_2 ⟨by first | exact Nat.le_of_ble_eq_true rfl | omega, by first | exact Nat.le_of_ble_eq_true rfl | omega⟩ (fun E9 ce9 q9 H locs hp9 hW hS h7 h8 h9 => ?_) (fun r9 sg9 H locs hq hW hS => ?_)
  · exact kx_out htab hlocks hW hS (by first | exact Nat.le_of_ble_eq_true rfl | omega) (by first | exact Nat.le_of_ble_eq_true rfl | omega) (hp9) h7 h8 h9
  obtain ⟨k, hk, rfl, rfl, e9⟩ := hq
  rw [e9] at hW
  refine W.eq (g2 := F0 m 5 ls [.ref (ad 9 k)]) rfl ?_
  refine kx_g F inX0 hW 9 k hk rfl rfl 7 (by decide) L_174 (v := .int (sg 9 k 7)) rfl dX3_story_5 ?_
  refine vx_ret ?_
  exact kx_ri F hr hlocks hW hS (by first | exact Nat.le_of_ble_eq_true rfl | omega) (by first | exact Nat.le_of_ble_eq_true rfl | omega) (⟨k, hk, rfl, rfl, rfl⟩) dX3_story_8

set_option maxHeartbeats 1000000 in
set_option maxRecDepth 100000 in
theorem c_X3_hasFee (l : Launch) (hlf : l.stackTraces = false) (G : kx_G) (z0 : Nat) (ad : kx_A) (nb : Nat) (sg : kx_S) (hC : tw_CI nb sg) (x : Int32) : kx_MX l yX3_hasFee wsX3_hasFee 7 111 1 6 G z0 ad nb sg [.ref (ad 0 0), .int x] (fun r sg' => ∃ k : Nat, k < nb ∧ x = nI k ∧ r = some (.int (sg 9 k 9)) ∧ sg' = sg) (fun E => E = kx_ioe ∧ ∀ k, k < nb → ¬ x = nI k) := by
  refine vx_ofW (cc := cX3_hasFee) (maxL := 2) (ret := (some .boolean)) (by decide) rfl ?_
  intro p e s m args below meth c s₁ B hml htab hv
  obtain ⟨rfl, hW, hV⟩ := hv
  have hts := atoms_spec (ws := wsX3_hasFee) B.pre
  have F : kx_F p s m c cX3_hasFee 2 RX3 _ wsX3_hasFee G z0 := ⟨B.exec, B.bytes, hml, findClass_of_methodNamed B.named, hts, hV⟩
  have hx := B.exec; have hb := B.bytes; have hr := B.returns; have hlocks := B.notSynchronized
  have hS : va_S (kx_Ad z0) s.heap s.heap [] := va_S.rf
  obtain ⟨hnb, hwf, hbl, hjm, hkp, hnn⟩ := hC
  have L_191 : Cond.fieldLink RX3 191 (TX0 9).1 (TX0 9).2.1 (TX0 9).2.2.1 ∈ wsX3_hasFee := by decide +kernel
  have inX0 : ∀ w ∈ u_ws RX0 TX0 11, w ∈ wsX3_hasFee := by decide +kernel
  have hl := lv_entry ([.ref (ad 0 0), .int x]) (n := 2) (Nat.le_of_ble_eq_true rfl)
  rw [lg_entry_eq]
  generalize (lg_sl ([.ref (ad 0 0), .int x]) ++ List.replicate (2 - (lg_sl ([.ref (ad 0 0), .int x])).length) Slot.unset).toArray = ls at hl ⊢
  have hl : lv_has ls 2 [(0, .ref (ad 0 0)), (1, .int x)] := hl
  refine lv_aload_n hx hb dX3_hasFee_0 rfl (lv_at hl 0 rfl) ?_
  refine lv_iload_n hx hb dX3_hasFee_1 rfl (lv_at hl 1 rfl) ?_
  refine kx_xV (na := 1) F (q := 0) (n := 0) (c_X3_boxAt l hlf G z0 ad nb sg hnb x) gX3_hasFee_X3_boxAt rfl (by decide +kernel) ⟨Nat.le_of_ble_eq_true rfl, Nat.le_of_ble_eq_true rfl⟩ hW hS ⟨by decide, rfl⟩ rfl rfl (As := [.int x]) (rest := []) rfl hl.1 rfl (Nat.le_of_ble_eq_true rfl) dX3_hasFee_2 ⟨by first | exact Nat.le_of_ble_eq_true rfl | omega, by first | exact Nat.le_of_ble_eq_true rfl | omega⟩ (fun E9 ce9 q9 H locs hp9 hW hS h7 h8 h9 => ?_) (fun r9 sg9 H locs hq hW hS => ?_)
  · exact kx_out htab hlocks hW hS (by first | exact Nat.le_of_ble_eq_true rfl | omega) (by first | exact Nat.le_of_ble_eq_true rfl | omega) (hp9) h7 h8 h9
  obtain ⟨k, hk, rfl, rfl, e9⟩ := hq
  rw [e9] at hW
  refine W.eq (g2 := F0 m 5 ls [.ref (ad 9 k)]) rfl ?_
  refine kx_g F inX0 hW 9 k hk rfl rfl 9 (by decide) L_191 (v := .int (sg 9 k 9)) rfl dX3_hasFee_5 ?_
  refine vx_ret ?_
  exact kx_rz F hr hlocks hW hS (by first | exact Nat.le_of_ble_eq_true rfl | omega) (by first | exact Nat.le_of_ble_eq_true rfl | omega) (tw_01_nar (hbl k hk).2) (⟨k, hk, rfl, rfl, rfl⟩) dX3_hasFee_8

set_option maxHeartbeats 1000000 in
set_option maxRecDepth 100000 in
theorem c_X3_isInsured (l : Launch) (hlf : l.stackTraces = false) (G : kx_G) (z0 : Nat) (ad : kx_A) (nb : Nat) (sg : kx_S) (hC : tw_CI nb sg) (x : Int32) : kx_MX l yX3_isInsured wsX3_isInsured 7 111 1 6 G z0 ad nb sg [.ref (ad 0 0), .int x] (fun r sg' => ∃ k : Nat, k < nb ∧ x = nI k ∧ r = some (.int (sg 9 k 8)) ∧ sg' = sg) (fun E => E = kx_ioe ∧ ∀ k, k < nb → ¬ x = nI k) := by
  refine vx_ofW (cc := cX3_isInsured) (maxL := 2) (ret := (some .boolean)) (by decide) rfl ?_
  intro p e s m args below meth c s₁ B hml htab hv
  obtain ⟨rfl, hW, hV⟩ := hv
  have hts := atoms_spec (ws := wsX3_isInsured) B.pre
  have F : kx_F p s m c cX3_isInsured 2 RX3 _ wsX3_isInsured G z0 := ⟨B.exec, B.bytes, hml, findClass_of_methodNamed B.named, hts, hV⟩
  have hx := B.exec; have hb := B.bytes; have hr := B.returns; have hlocks := B.notSynchronized
  have hS : va_S (kx_Ad z0) s.heap s.heap [] := va_S.rf
  obtain ⟨hnb, hwf, hbl, hjm, hkp, hnn⟩ := hC
  have L_156 : Cond.fieldLink RX3 156 (TX0 8).1 (TX0 8).2.1 (TX0 8).2.2.1 ∈ wsX3_isInsured := by decide +kernel
  have inX0 : ∀ w ∈ u_ws RX0 TX0 11, w ∈ wsX3_isInsured := by decide +kernel
  have hl := lv_entry ([.ref (ad 0 0), .int x]) (n := 2) (Nat.le_of_ble_eq_true rfl)
  rw [lg_entry_eq]
  generalize (lg_sl ([.ref (ad 0 0), .int x]) ++ List.replicate (2 - (lg_sl ([.ref (ad 0 0), .int x])).length) Slot.unset).toArray = ls at hl ⊢
  have hl : lv_has ls 2 [(0, .ref (ad 0 0)), (1, .int x)] := hl
  refine lv_aload_n hx hb dX3_isInsured_0 rfl (lv_at hl 0 rfl) ?_
  refine lv_iload_n hx hb dX3_isInsured_1 rfl (lv_at hl 1 rfl) ?_
  refine kx_xV (na := 1) F (q := 0) (n := 0) (c_X3_boxAt l hlf G z0 ad nb sg hnb x) gX3_isInsured_X3_boxAt rfl (by decide +kernel) ⟨Nat.le_of_ble_eq_true rfl, Nat.le_of_ble_eq_true rfl⟩ hW hS ⟨by decide, rfl⟩ rfl rfl (As := [.int x]) (rest := []) rfl hl.1 rfl (Nat.le_of_ble_eq_true rfl) dX3_isInsured_2 ⟨by first | exact Nat.le_of_ble_eq_true rfl | omega, by first | exact Nat.le_of_ble_eq_true rfl | omega⟩ (fun E9 ce9 q9 H locs hp9 hW hS h7 h8 h9 => ?_) (fun r9 sg9 H locs hq hW hS => ?_)
  · exact kx_out htab hlocks hW hS (by first | exact Nat.le_of_ble_eq_true rfl | omega) (by first | exact Nat.le_of_ble_eq_true rfl | omega) (hp9) h7 h8 h9
  obtain ⟨k, hk, rfl, rfl, e9⟩ := hq
  rw [e9] at hW
  refine W.eq (g2 := F0 m 5 ls [.ref (ad 9 k)]) rfl ?_
  refine kx_g F inX0 hW 9 k hk rfl rfl 8 (by decide) L_156 (v := .int (sg 9 k 8)) rfl dX3_isInsured_5 ?_
  refine vx_ret ?_
  exact kx_rz F hr hlocks hW hS (by first | exact Nat.le_of_ble_eq_true rfl | omega) (by first | exact Nat.le_of_ble_eq_true rfl | omega) (tw_01_nar (hbl k hk).1) (⟨k, hk, rfl, rfl, rfl⟩) dX3_isInsured_8

set_option maxHeartbeats 1000000 in
set_option maxRecDepth 100000 in
theorem c_X3_isJammed (l : Launch) (hlf : l.stackTraces = false) (G : kx_G) (z0 : Nat) (ad : kx_A) (nb : Nat) (sg : kx_S) (hC : tw_CI nb sg) (x : Int32) : kx_MX l yX3_isJammed wsX3_isJammed 7 111 1 6 G z0 ad nb sg [.ref (ad 0 0), .int x] (fun r sg' => ∃ d : Nat, d < 10 ∧ x = nI d ∧ r = some (.int (sg 8 d 1)) ∧ sg' = sg) (fun E => E = kx_ioe ∧ ∀ d, d < 10 → ¬ x = nI d) := by
  refine vx_ofW (cc := cX3_isJammed) (maxL := 2) (ret := (some .boolean)) (by decide) rfl ?_
  intro p e s m args below meth c s₁ B hml htab hv
  obtain ⟨rfl, hW, hV⟩ := hv
  have hts := atoms_spec (ws := wsX3_isJammed) B.pre
  have F : kx_F p s m c cX3_isJammed 2 RX3 _ wsX3_isJammed G z0 := ⟨B.exec, B.bytes, hml, findClass_of_methodNamed B.named, hts, hV⟩
  have hx := B.exec; have hb := B.bytes; have hr := B.returns; have hlocks := B.notSynchronized
  have hS : va_S (kx_Ad z0) s.heap s.heap [] := va_S.rf
  obtain ⟨hnb, hwf, hbl, hjm, hkp, hnn⟩ := hC
  have L_130 : Cond.fieldLink RX3 130 (TX1 1).1 (TX1 1).2.1 (TX1 1).2.2.1 ∈ wsX3_isJammed := by decide +kernel
  have inX1 : ∀ w ∈ u_ws RX1 TX1 5, w ∈ wsX3_isJammed := by decide +kernel
  have hl := lv_entry ([.ref (ad 0 0), .int x]) (n := 2) (Nat.le_of_ble_eq_true rfl)
  rw [lg_entry_eq]
  generalize (lg_sl ([.ref (ad 0 0), .int x]) ++ List.replicate (2 - (lg_sl ([.ref (ad 0 0), .int x])).length) Slot.unset).toArray = ls at hl ⊢
  have hl : lv_has ls 2 [(0, .ref (ad 0 0)), (1, .int x)] := hl
  refine lv_aload_n hx hb dX3_isJammed_0 rfl (lv_at hl 0 rfl) ?_
  refine lv_iload_n hx hb dX3_isJammed_1 rfl (lv_at hl 1 rfl) ?_
  refine kx_xV (na := 1) F (q := 0) (n := 0) (c_X3_doorAt l hlf G z0 ad nb sg x) gX3_isJammed_X3_doorAt rfl (by decide +kernel) ⟨Nat.le_of_ble_eq_true rfl, Nat.le_of_ble_eq_true rfl⟩ hW hS ⟨by decide, rfl⟩ rfl rfl (As := [.int x]) (rest := []) rfl hl.1 rfl (Nat.le_of_ble_eq_true rfl) dX3_isJammed_2 ⟨by first | exact Nat.le_of_ble_eq_true rfl | omega, by first | exact Nat.le_of_ble_eq_true rfl | omega⟩ (fun E9 ce9 q9 H locs hp9 hW hS h7 h8 h9 => ?_) (fun r9 sg9 H locs hq hW hS => ?_)
  · exact kx_out htab hlocks hW hS (by first | exact Nat.le_of_ble_eq_true rfl | omega) (by first | exact Nat.le_of_ble_eq_true rfl | omega) (hp9) h7 h8 h9
  obtain ⟨d, hd, rfl, rfl, e9⟩ := hq
  rw [e9] at hW
  refine W.eq (g2 := F0 m 5 ls [.ref (ad 8 d)]) rfl ?_
  refine kx_g F inX1 hW 8 d hd rfl rfl 1 (by decide) L_130 (v := .int (sg 8 d 1)) rfl dX3_isJammed_5 ?_
  refine vx_ret ?_
  exact kx_rz F hr hlocks hW hS (by first | exact Nat.le_of_ble_eq_true rfl | omega) (by first | exact Nat.le_of_ble_eq_true rfl | omega) (tw_01_nar (hjm d hd)) (⟨d, hd, rfl, rfl, rfl⟩) dX3_isJammed_8

set_option maxHeartbeats 1000000 in
set_option maxRecDepth 100000 in
theorem c_X3_keptFor (l : Launch) (hlf : l.stackTraces = false) (G : kx_G) (z0 : Nat) (ad : kx_A) (nb : Nat) (sg : kx_S) (hC : tw_CI nb sg) (x : Int32) : kx_MX l yX3_keptFor wsX3_keptFor 7 111 1 6 G z0 ad nb sg [.ref (ad 0 0), .int x] (fun r sg' => ∃ d : Nat, d < 10 ∧ x = nI d ∧ r = some (.int (sg 8 d 2)) ∧ sg' = sg) (fun E => E = kx_ioe ∧ ∀ d, d < 10 → ¬ x = nI d) := by
  refine vx_ofW (cc := cX3_keptFor) (maxL := 2) (ret := (some .int)) (by decide) rfl ?_
  intro p e s m args below meth c s₁ B hml htab hv
  obtain ⟨rfl, hW, hV⟩ := hv
  have hts := atoms_spec (ws := wsX3_keptFor) B.pre
  have F : kx_F p s m c cX3_keptFor 2 RX3 _ wsX3_keptFor G z0 := ⟨B.exec, B.bytes, hml, findClass_of_methodNamed B.named, hts, hV⟩
  have hx := B.exec; have hb := B.bytes; have hr := B.returns; have hlocks := B.notSynchronized
  have hS : va_S (kx_Ad z0) s.heap s.heap [] := va_S.rf
  obtain ⟨hnb, hwf, hbl, hjm, hkp, hnn⟩ := hC
  have L_136 : Cond.fieldLink RX3 136 (TX1 2).1 (TX1 2).2.1 (TX1 2).2.2.1 ∈ wsX3_keptFor := by decide +kernel
  have inX1 : ∀ w ∈ u_ws RX1 TX1 5, w ∈ wsX3_keptFor := by decide +kernel
  have hl := lv_entry ([.ref (ad 0 0), .int x]) (n := 2) (Nat.le_of_ble_eq_true rfl)
  rw [lg_entry_eq]
  generalize (lg_sl ([.ref (ad 0 0), .int x]) ++ List.replicate (2 - (lg_sl ([.ref (ad 0 0), .int x])).length) Slot.unset).toArray = ls at hl ⊢
  have hl : lv_has ls 2 [(0, .ref (ad 0 0)), (1, .int x)] := hl
  refine lv_aload_n hx hb dX3_keptFor_0 rfl (lv_at hl 0 rfl) ?_
  refine lv_iload_n hx hb dX3_keptFor_1 rfl (lv_at hl 1 rfl) ?_
  refine kx_xV (na := 1) F (q := 0) (n := 0) (c_X3_doorAt l hlf G z0 ad nb sg x) gX3_keptFor_X3_doorAt rfl (by decide +kernel) ⟨Nat.le_of_ble_eq_true rfl, Nat.le_of_ble_eq_true rfl⟩ hW hS ⟨by decide, rfl⟩ rfl rfl (As := [.int x]) (rest := []) rfl hl.1 rfl (Nat.le_of_ble_eq_true rfl) dX3_keptFor_2 ⟨by first | exact Nat.le_of_ble_eq_true rfl | omega, by first | exact Nat.le_of_ble_eq_true rfl | omega⟩ (fun E9 ce9 q9 H locs hp9 hW hS h7 h8 h9 => ?_) (fun r9 sg9 H locs hq hW hS => ?_)
  · exact kx_out htab hlocks hW hS (by first | exact Nat.le_of_ble_eq_true rfl | omega) (by first | exact Nat.le_of_ble_eq_true rfl | omega) (hp9) h7 h8 h9
  obtain ⟨d, hd, rfl, rfl, e9⟩ := hq
  rw [e9] at hW
  refine W.eq (g2 := F0 m 5 ls [.ref (ad 8 d)]) rfl ?_
  refine kx_g F inX1 hW 8 d hd rfl rfl 2 (by decide) L_136 (v := .int (sg 8 d 2)) rfl dX3_keptFor_5 ?_
  refine vx_ret ?_
  exact kx_ri F hr hlocks hW hS (by first | exact Nat.le_of_ble_eq_true rfl | omega) (by first | exact Nat.le_of_ble_eq_true rfl | omega) (⟨d, hd, rfl, rfl, rfl⟩) dX3_keptFor_8

set_option maxHeartbeats 4000000 in
set_option maxRecDepth 100000 in
theorem c_X3_time (l : Launch) (G : kx_G) (z0 : Nat) (ad : kx_A) (nb : Nat) (sg : kx_S) : kx_M l yX3_time wsX3_time 0 0 0 0 G z0 ad nb sg [.ref (ad 0 0)] (fun r sg' => r = some (.int (sg 0 0 7)) ∧ sg' = sg) := by
  refine Met.ofW (cc := cX3_time) (maxL := 1) (ret := (some .int)) (by decide) rfl ?_
  intro p e s m args below meth c s₁ B hml hv
  obtain ⟨rfl, hW, hV⟩ := hv
  have hts := atoms_spec (ws := wsX3_time) B.pre
  have F : kx_F p s m c cX3_time 1 RX3 _ wsX3_time G z0 := ⟨B.exec, B.bytes, hml, findClass_of_methodNamed B.named, hts, hV⟩
  have hx := B.exec; have hb := B.bytes; have hr := B.returns; have hlocks := B.notSynchronized
  have hS : va_S (kx_Ad z0) s.heap s.heap [] := va_S.rf
  have L_42 : Cond.fieldLink RX3 42 (TX3 7).1 (TX3 7).2.1 (TX3 7).2.2.1 ∈ wsX3_time := by decide +kernel
  have inX3 : ∀ w ∈ u_ws RX3 TX3 9, w ∈ wsX3_time := by decide +kernel
  have hl := lv_entry ([.ref (ad 0 0)]) (n := 1) (Nat.le_of_ble_eq_true rfl)
  rw [lg_entry_eq]
  generalize (lg_sl ([.ref (ad 0 0)]) ++ List.replicate (1 - (lg_sl ([.ref (ad 0 0)])).length) Slot.unset).toArray = ls at hl ⊢
  have hl : lv_has ls 1 [(0, .ref (ad 0 0))] := hl
  refine lv_aload_n hx hb dX3_time_0 rfl (lv_at hl 0 rfl) ?_
  refine kx_g F inX3 hW 0 0 ⟨by decide, rfl⟩ rfl rfl 7 (by decide) L_42 (v := .int (sg 0 0 7)) rfl dX3_time_1 ?_
  exact kx_ri F hr hlocks hW hS (by first | exact Nat.le_of_ble_eq_true rfl | omega) (by first | exact Nat.le_of_ble_eq_true rfl | omega) (⟨rfl, rfl⟩) dX3_time_4

set_option maxHeartbeats 4000000 in
set_option maxRecDepth 100000 in
theorem c_X3_boxes (l : Launch) (G : kx_G) (z0 : Nat) (ad : kx_A) (nb : Nat) (sg : kx_S) : kx_M l yX3_boxes wsX3_boxes 0 0 0 0 G z0 ad nb sg [.ref (ad 0 0)] (fun r sg' => r = some (.int (sg 0 0 6)) ∧ sg' = sg) := by
  refine Met.ofW (cc := cX3_boxes) (maxL := 1) (ret := (some .int)) (by decide) rfl ?_
  intro p e s m args below meth c s₁ B hml hv
  obtain ⟨rfl, hW, hV⟩ := hv
  have hts := atoms_spec (ws := wsX3_boxes) B.pre
  have F : kx_F p s m c cX3_boxes 1 RX3 _ wsX3_boxes G z0 := ⟨B.exec, B.bytes, hml, findClass_of_methodNamed B.named, hts, hV⟩
  have hx := B.exec; have hb := B.bytes; have hr := B.returns; have hlocks := B.notSynchronized
  have hS : va_S (kx_Ad z0) s.heap s.heap [] := va_S.rf
  have L_38 : Cond.fieldLink RX3 38 (TX3 6).1 (TX3 6).2.1 (TX3 6).2.2.1 ∈ wsX3_boxes := by decide +kernel
  have inX3 : ∀ w ∈ u_ws RX3 TX3 9, w ∈ wsX3_boxes := by decide +kernel
  have hl := lv_entry ([.ref (ad 0 0)]) (n := 1) (Nat.le_of_ble_eq_true rfl)
  rw [lg_entry_eq]
  generalize (lg_sl ([.ref (ad 0 0)]) ++ List.replicate (1 - (lg_sl ([.ref (ad 0 0)])).length) Slot.unset).toArray = ls at hl ⊢
  have hl : lv_has ls 1 [(0, .ref (ad 0 0))] := hl
  refine lv_aload_n hx hb dX3_boxes_0 rfl (lv_at hl 0 rfl) ?_
  refine kx_g F inX3 hW 0 0 ⟨by decide, rfl⟩ rfl rfl 6 (by decide) L_38 (v := .int (sg 0 0 6)) rfl dX3_boxes_1 ?_
  exact kx_ri F hr hlocks hW hS (by first | exact Nat.le_of_ble_eq_true rfl | omega) (by first | exact Nat.le_of_ble_eq_true rfl | omega) (⟨rfl, rfl⟩) dX3_boxes_4

set_option maxHeartbeats 4000000 in
set_option maxRecDepth 100000 in
theorem c_X3_insurers (l : Launch) (G : kx_G) (z0 : Nat) (ad : kx_A) (nb : Nat) (sg : kx_S) : kx_M l yX3_insurers wsX3_insurers 0 0 0 0 G z0 ad nb sg [.ref (ad 0 0)] (fun r sg' => r = some (.int (sg 4 0 1)) ∧ sg' = sg) := by
  refine Met.ofW (cc := cX3_insurers) (maxL := 1) (ret := (some .int)) (by decide) rfl ?_
  intro p e s m args below meth c s₁ B hml hv
  obtain ⟨rfl, hW, hV⟩ := hv
  have hts := atoms_spec (ws := wsX3_insurers) B.pre
  have F : kx_F p s m c cX3_insurers 1 RX3 _ wsX3_insurers G z0 := ⟨B.exec, B.bytes, hml, findClass_of_methodNamed B.named, hts, hV⟩
  have hx := B.exec; have hb := B.bytes; have hr := B.returns; have hlocks := B.notSynchronized
  have hS : va_S (kx_Ad z0) s.heap s.heap [] := va_S.rf
  have L_197 : Cond.fieldLink RX3 197 (TX2 1).1 (TX2 1).2.1 (TX2 1).2.2.1 ∈ wsX3_insurers := by decide +kernel
  have L_28 : Cond.fieldLink RX3 28 (TX3 3).1 (TX3 3).2.1 (TX3 3).2.2.1 ∈ wsX3_insurers := by decide +kernel
  have inX2 : ∀ w ∈ u_ws RX2 TX2 3, w ∈ wsX3_insurers := by decide +kernel
  have inX3 : ∀ w ∈ u_ws RX3 TX3 9, w ∈ wsX3_insurers := by decide +kernel
  have hl := lv_entry ([.ref (ad 0 0)]) (n := 1) (Nat.le_of_ble_eq_true rfl)
  rw [lg_entry_eq]
  generalize (lg_sl ([.ref (ad 0 0)]) ++ List.replicate (1 - (lg_sl ([.ref (ad 0 0)])).length) Slot.unset).toArray = ls at hl ⊢
  have hl : lv_has ls 1 [(0, .ref (ad 0 0))] := hl
  refine lv_aload_n hx hb dX3_insurers_0 rfl (lv_at hl 0 rfl) ?_
  refine kx_g F inX3 hW 0 0 ⟨by decide, rfl⟩ rfl rfl 3 (by decide) L_28 (v := .ref (ad 4 0)) rfl dX3_insurers_1 ?_
  refine kx_g F inX2 hW 4 0 ⟨by decide, rfl⟩ rfl rfl 1 (by decide) L_197 (v := .int (sg 4 0 1)) rfl dX3_insurers_4 ?_
  exact kx_ri F hr hlocks hW hS (by first | exact Nat.le_of_ble_eq_true rfl | omega) (by first | exact Nat.le_of_ble_eq_true rfl | omega) (⟨rfl, rfl⟩) dX3_insurers_7

set_option maxHeartbeats 4000000 in
set_option maxRecDepth 100000 in
theorem c_X3_entries (l : Launch) (G : kx_G) (z0 : Nat) (ad : kx_A) (nb : Nat) (sg : kx_S) : kx_M l yX3_entries wsX3_entries 0 0 0 0 G z0 ad nb sg [.ref (ad 0 0)] (fun r sg' => r = some (.int (sg 4 0 2)) ∧ sg' = sg) := by
  refine Met.ofW (cc := cX3_entries) (maxL := 1) (ret := (some .int)) (by decide) rfl ?_
  intro p e s m args below meth c s₁ B hml hv
  obtain ⟨rfl, hW, hV⟩ := hv
  have hts := atoms_spec (ws := wsX3_entries) B.pre
  have F : kx_F p s m c cX3_entries 1 RX3 _ wsX3_entries G z0 := ⟨B.exec, B.bytes, hml, findClass_of_methodNamed B.named, hts, hV⟩
  have hx := B.exec; have hb := B.bytes; have hr := B.returns; have hlocks := B.notSynchronized
  have hS : va_S (kx_Ad z0) s.heap s.heap [] := va_S.rf
  have L_200 : Cond.fieldLink RX3 200 (TX2 2).1 (TX2 2).2.1 (TX2 2).2.2.1 ∈ wsX3_entries := by decide +kernel
  have L_28 : Cond.fieldLink RX3 28 (TX3 3).1 (TX3 3).2.1 (TX3 3).2.2.1 ∈ wsX3_entries := by decide +kernel
  have inX2 : ∀ w ∈ u_ws RX2 TX2 3, w ∈ wsX3_entries := by decide +kernel
  have inX3 : ∀ w ∈ u_ws RX3 TX3 9, w ∈ wsX3_entries := by decide +kernel
  have hl := lv_entry ([.ref (ad 0 0)]) (n := 1) (Nat.le_of_ble_eq_true rfl)
  rw [lg_entry_eq]
  generalize (lg_sl ([.ref (ad 0 0)]) ++ List.replicate (1 - (lg_sl ([.ref (ad 0 0)])).length) Slot.unset).toArray = ls at hl ⊢
  have hl : lv_has ls 1 [(0, .ref (ad 0 0))] := hl
  refine lv_aload_n hx hb dX3_entries_0 rfl (lv_at hl 0 rfl) ?_
  refine kx_g F inX3 hW 0 0 ⟨by decide, rfl⟩ rfl rfl 3 (by decide) L_28 (v := .ref (ad 4 0)) rfl dX3_entries_1 ?_
  refine kx_g F inX2 hW 4 0 ⟨by decide, rfl⟩ rfl rfl 2 (by decide) L_200 (v := .int (sg 4 0 2)) rfl dX3_entries_4 ?_
  exact kx_ri F hr hlocks hW hS (by first | exact Nat.le_of_ble_eq_true rfl | omega) (by first | exact Nat.le_of_ble_eq_true rfl | omega) (⟨rfl, rfl⟩) dX3_entries_7

set_option maxHeartbeats 1000000 in
set_option maxRecDepth 100000 in
theorem c_X3_fees (l : Launch) (hlf : l.stackTraces = false) (G : kx_G) (z0 : Nat) (ad : kx_A) (nb : Nat) (sg : kx_S) (hC : tw_CI nb sg) (x : Int32) : kx_MX l yX3_fees wsX3_fees 7 110 1 6 G z0 ad nb sg [.ref (ad 0 0), .int x] (fun r sg' => ∃ c : Nat, c < 4 ∧ x = nI c ∧ r = some (.int (sg 5 0 c)) ∧ sg' = sg) (fun E => E = kx_ioe ∧ ∀ c, c < 4 → ¬ x = nI c) := by
  refine vx_ofW (cc := cX3_fees) (maxL := 2) (ret := (some .int)) (by decide) rfl ?_
  intro p e s m args below meth c s₁ B hml htab hv
  obtain ⟨rfl, hW, hV⟩ := hv
  have hts := atoms_spec (ws := wsX3_fees) B.pre
  have F : kx_F p s m c cX3_fees 2 RX3 _ wsX3_fees G z0 := ⟨B.exec, B.bytes, hml, findClass_of_methodNamed B.named, hts, hV⟩
  have hx := B.exec; have hb := B.bytes; have hr := B.returns; have hlocks := B.notSynchronized
  have hS : va_S (kx_Ad z0) s.heap s.heap [] := va_S.rf
  obtain ⟨hnb, hwf, hbl, hjm, hkp, hnn⟩ := hC
  have L_194 : Cond.fieldLink RX3 194 (TX2 0).1 (TX2 0).2.1 (TX2 0).2.2.1 ∈ wsX3_fees := by decide +kernel
  have L_28 : Cond.fieldLink RX3 28 (TX3 3).1 (TX3 3).2.1 (TX3 3).2.2.1 ∈ wsX3_fees := by decide +kernel
  have inX2 : ∀ w ∈ u_ws RX2 TX2 3, w ∈ wsX3_fees := by decide +kernel
  have inX3 : ∀ w ∈ u_ws RX3 TX3 9, w ∈ wsX3_fees := by decide +kernel
  have hl := lv_entry ([.ref (ad 0 0), .int x]) (n := 2) (Nat.le_of_ble_eq_true rfl)
  rw [lg_entry_eq]
  generalize (lg_sl ([.ref (ad 0 0), .int x]) ++ List.replicate (2 - (lg_sl ([.ref (ad 0 0), .int x])).length) Slot.unset).toArray = ls at hl ⊢
  have hl : lv_has ls 2 [(0, .ref (ad 0 0)), (1, .int x)] := hl
  refine lv_iload_n hx hb dX3_fees_0 rfl (lv_at hl 1 rfl) ?_
  refine kx_xS (na := 1) F (c_X3_checkCourier l hlf G z0 ad nb sg x) gX3_fees_X3_checkCourier rfl (by decide +kernel) ⟨Nat.le_of_ble_eq_true rfl, Nat.le_of_ble_eq_true rfl⟩ hW hS (As := [.int x]) (rest := []) rfl hl.1 rfl (Nat.le_of_ble_eq_true rfl) dX3_fees_1 ⟨by first | exact Nat.le_of_ble_eq_true rfl | omega, by first | exact Nat.le_of_ble_eq_true rfl | omega⟩ (fun E9 ce9 q9 H locs hp9 hW hS h7 h8 h9 => ?_) (fun r9 sg9 H locs hq hW hS => ?_)
  · exact kx_out htab hlocks hW hS (by first | exact Nat.le_of_ble_eq_true rfl | omega) (by first | exact Nat.le_of_ble_eq_true rfl | omega) (hp9) h7 h8 h9
  obtain ⟨rfl, e9, c1, hc1, rfl⟩ := hq
  rw [e9] at hW
  refine W.eq (g2 := F0 m 4 ls []) rfl ?_
  refine lv_aload_n hx hb dX3_fees_4 rfl (lv_at hl 0 rfl) ?_
  refine kx_g F inX3 hW 0 0 ⟨by decide, rfl⟩ rfl rfl 3 (by decide) L_28 (v := .ref (ad 4 0)) rfl dX3_fees_5 ?_
  refine kx_g F inX2 hW 4 0 ⟨by decide, rfl⟩ rfl rfl 0 (by decide) L_194 (v := .ref (ad 5 0)) rfl dX3_fees_8 ?_
  refine lv_iload_n hx hb dX3_fees_11 rfl (lv_at hl 1 rfl) ?_
  refine kx_ald F hW 5 0 ⟨by decide, rfl⟩ rfl c1 hc1 (by decide) (v := sg 5 0 c1) rfl dX3_fees_12 ?_
  refine vx_ret ?_
  exact kx_ri F hr hlocks hW hS (by first | exact Nat.le_of_ble_eq_true rfl | omega) (by first | exact Nat.le_of_ble_eq_true rfl | omega) (⟨c1, hc1, rfl, rfl, rfl⟩) dX3_fees_13

set_option maxHeartbeats 1000000 in
set_option maxRecDepth 100000 in
theorem c_X3_placeOf (l : Launch) (hlf : l.stackTraces = false) (G : kx_G) (z0 : Nat) (ad : kx_A) (nb : Nat) (sg : kx_S) (hC : tw_CI nb sg) (x : Int32) : kx_MX l yX3_placeOf wsX3_placeOf 7 111 1 6 G z0 ad nb sg [.ref (ad 0 0), .int x] (fun r sg' => ∃ k : Nat, k < nb ∧ x = nI k ∧ r = some (.int (tw_last (sg 9 k 7) (sg 11 k) (tw_n sg k))) ∧ sg' = sg) (fun E => E = kx_ioe ∧ ∀ k, k < nb → ¬ x = nI k) := by
  refine vx_ofW (cc := cX3_placeOf) (maxL := 2) (ret := (some .int)) (by decide) rfl ?_
  intro p e s m args below meth c s₁ B hml htab hv
  obtain ⟨rfl, hW, hV⟩ := hv
  have hts := atoms_spec (ws := wsX3_placeOf) B.pre
  have F : kx_F p s m c cX3_placeOf 2 RX3 _ wsX3_placeOf G z0 := ⟨B.exec, B.bytes, hml, findClass_of_methodNamed B.named, hts, hV⟩
  have hx := B.exec; have hb := B.bytes; have hr := B.returns; have hlocks := B.notSynchronized
  have hS : va_S (kx_Ad z0) s.heap s.heap [] := va_S.rf
  obtain ⟨hnb, hwf, hbl, hjm, hkp, hnn⟩ := hC
  have hl := lv_entry ([.ref (ad 0 0), .int x]) (n := 2) (Nat.le_of_ble_eq_true rfl)
  rw [lg_entry_eq]
  generalize (lg_sl ([.ref (ad 0 0), .int x]) ++ List.replicate (2 - (lg_sl ([.ref (ad 0 0), .int x])).length) Slot.unset).toArray = ls at hl ⊢
  have hl : lv_has ls 2 [(0, .ref (ad 0 0)), (1, .int x)] := hl
  refine lv_aload_n hx hb dX3_placeOf_0 rfl (lv_at hl 0 rfl) ?_
  refine lv_iload_n hx hb dX3_placeOf_1 rfl (lv_at hl 1 rfl) ?_
  refine kx_xV (na := 1) F (q := 0) (n := 0) (c_X3_boxAt l hlf G z0 ad nb sg hnb x) gX3_placeOf_X3_boxAt rfl (by decide +kernel) ⟨Nat.le_of_ble_eq_true rfl, Nat.le_of_ble_eq_true rfl⟩ hW hS ⟨by decide, rfl⟩ rfl rfl (As := [.int x]) (rest := []) rfl hl.1 rfl (Nat.le_of_ble_eq_true rfl) dX3_placeOf_2 ⟨by first | exact Nat.le_of_ble_eq_true rfl | omega, by first | exact Nat.le_of_ble_eq_true rfl | omega⟩ (fun E9 ce9 q9 H locs hp9 hW hS h7 h8 h9 => ?_) (fun r9 sg9 H locs hq hW hS => ?_)
  · exact kx_out htab hlocks hW hS (by first | exact Nat.le_of_ble_eq_true rfl | omega) (by first | exact Nat.le_of_ble_eq_true rfl | omega) (hp9) h7 h8 h9
  obtain ⟨k, hk, rfl, rfl, e9⟩ := hq
  rw [e9] at hW
  refine W.eq (g2 := F0 m 5 ls [.ref (ad 9 k)]) rfl ?_
  obtain ⟨n9, hn9, h129, hm9⟩ := hwf.1 k hk
  have en9 := tw_n_eq hn9 h129
  refine kx_cV (na := 0) F (q := 9) (n := k) (c_X0_whereabouts l G z0 ad nb sg k hk n9 hn9 h129) gX3_placeOf_X0_whereabouts rfl (by decide +kernel) ⟨Nat.le_of_ble_eq_true rfl, Nat.le_of_ble_eq_true rfl⟩ hW hS hk rfl rfl (As := []) (rest := []) rfl hl.1 rfl (Nat.le_of_ble_eq_true rfl) dX3_placeOf_5 ⟨by first | exact Nat.le_of_ble_eq_true rfl | omega, by first | exact Nat.le_of_ble_eq_true rfl | omega⟩ (fun r9 sg9 H locs hq hW hS => ?_)
  obtain ⟨rfl, e9⟩ := hq
  rw [e9] at hW
  refine W.eq (g2 := F0 m 8 ls [.int (tw_last (sg 9 k 7) (sg 11 k) n9)]) rfl ?_
  refine vx_ret ?_
  exact kx_ri F hr hlocks hW hS (by first | exact Nat.le_of_ble_eq_true rfl | omega) (by first | exact Nat.le_of_ble_eq_true rfl | omega) (⟨k, hk, rfl, by rw [en9], rfl⟩) dX3_placeOf_8

set_option maxHeartbeats 1000000 in
set_option maxRecDepth 100000 in
theorem c_X3_fine (l : Launch) (hlf : l.stackTraces = false) (G : kx_G) (z0 : Nat) (ad : kx_A) (nb : Nat) (sg : kx_S) (hC : tw_CI nb sg) (x : Int32) : kx_MX l yX3_fine wsX3_fine 7 111 1 6 G z0 ad nb sg [.ref (ad 0 0), .int x] (fun r sg' => ∃ k : Nat, k < nb ∧ x = nI k ∧ r = some (.int (tw_fineOf (sg 0 0 7) (tw_last (sg 9 k 7) (sg 11 k) (tw_n sg k)) (tw_since (sg 9 k 7) (sg 11 k) (sg 10 k) (tw_last (sg 9 k 7) (sg 11 k) (tw_n sg k)) (tw_n sg k) 0))) ∧ sg' = sg) (fun E => E = kx_ioe ∧ ∀ k, k < nb → ¬ x = nI k) := by
  refine vx_ofW (cc := cX3_fine) (maxL := 4) (ret := (some .int)) (by decide) rfl ?_
  intro p e s m args below meth c s₁ B hml htab hv
  obtain ⟨rfl, hW, hV⟩ := hv
  have hts := atoms_spec (ws := wsX3_fine) B.pre
  have F : kx_F p s m c cX3_fine 4 RX3 _ wsX3_fine G z0 := ⟨B.exec, B.bytes, hml, findClass_of_methodNamed B.named, hts, hV⟩
  have hx := B.exec; have hb := B.bytes; have hr := B.returns; have hlocks := B.notSynchronized
  have hS : va_S (kx_Ad z0) s.heap s.heap [] := va_S.rf
  obtain ⟨hnb, hwf, hbl, hjm, hkp, hnn⟩ := hC
  have L_42 : Cond.fieldLink RX3 42 (TX3 7).1 (TX3 7).2.1 (TX3 7).2.2.1 ∈ wsX3_fine := by decide +kernel
  have inX3 : ∀ w ∈ u_ws RX3 TX3 9, w ∈ wsX3_fine := by decide +kernel
  have hl := lv_entry ([.ref (ad 0 0), .int x]) (n := 4) (Nat.le_of_ble_eq_true rfl)
  rw [lg_entry_eq]
  generalize (lg_sl ([.ref (ad 0 0), .int x]) ++ List.replicate (4 - (lg_sl ([.ref (ad 0 0), .int x])).length) Slot.unset).toArray = ls at hl ⊢
  have hl : lv_has ls 4 [(0, .ref (ad 0 0)), (1, .int x)] := hl
  refine lv_aload_n hx hb dX3_fine_0 rfl (lv_at hl 0 rfl) ?_
  refine lv_iload_n hx hb dX3_fine_1 rfl (lv_at hl 1 rfl) ?_
  refine kx_xV (na := 1) F (q := 0) (n := 0) (c_X3_boxAt l hlf G z0 ad nb sg hnb x) gX3_fine_X3_boxAt rfl (by decide +kernel) ⟨Nat.le_of_ble_eq_true rfl, Nat.le_of_ble_eq_true rfl⟩ hW hS ⟨by decide, rfl⟩ rfl rfl (As := [.int x]) (rest := []) rfl hl.1 rfl (Nat.le_of_ble_eq_true rfl) dX3_fine_2 ⟨by first | exact Nat.le_of_ble_eq_true rfl | omega, by first | exact Nat.le_of_ble_eq_true rfl | omega⟩ (fun E9 ce9 q9 H locs hp9 hW hS h7 h8 h9 => ?_) (fun r9 sg9 H locs hq hW hS => ?_)
  · exact kx_out htab hlocks hW hS (by first | exact Nat.le_of_ble_eq_true rfl | omega) (by first | exact Nat.le_of_ble_eq_true rfl | omega) (hp9) h7 h8 h9
  obtain ⟨k, hk, rfl, rfl, e9⟩ := hq
  rw [e9] at hW
  refine W.eq (g2 := F0 m 5 ls [.ref (ad 9 k)]) rfl ?_
  obtain ⟨n9, hn9, h129, hm9⟩ := hwf.1 k hk
  have en9 := tw_n_eq hn9 h129
  refine lv_astore_n (lv' := [(2, .ref (ad 9 k)), (0, .ref (ad 0 0)), (1, .int (nI k))]) hx hb dX3_fine_5 rfl hl (by decide) rfl (fun ls hl => ?_)
  refine lv_aload_n hx hb dX3_fine_6 rfl (lv_at hl 0 rfl) ?_
  refine kx_cV (na := 0) F (q := 9) (n := k) (c_X0_whereabouts l G z0 ad nb sg k hk n9 hn9 h129) gX3_fine_X0_whereabouts rfl (by decide +kernel) ⟨Nat.le_of_ble_eq_true rfl, Nat.le_of_ble_eq_true rfl⟩ hW hS hk rfl rfl (As := []) (rest := []) rfl hl.1 rfl (Nat.le_of_ble_eq_true rfl) dX3_fine_7 ⟨by first | exact Nat.le_of_ble_eq_true rfl | omega, by first | exact Nat.le_of_ble_eq_true rfl | omega⟩ (fun r9 sg9 H locs hq hW hS => ?_)
  obtain ⟨rfl, e9⟩ := hq
  rw [e9] at hW
  refine W.eq (g2 := F0 m 10 ls [.int (tw_last (sg 9 k 7) (sg 11 k) n9)]) rfl ?_
  refine kx_cS (na := 1) F (c_X3_kindOf l G z0 ad nb sg (tw_last (sg 9 k 7) (sg 11 k) n9)) gX3_fine_X3_kindOf rfl (by decide +kernel) ⟨Nat.le_of_ble_eq_true rfl, Nat.le_of_ble_eq_true rfl⟩ hW hS (As := [.int (tw_last (sg 9 k 7) (sg 11 k) n9)]) (rest := []) rfl hl.1 rfl (Nat.le_of_ble_eq_true rfl) dX3_fine_10 ⟨by first | exact Nat.le_of_ble_eq_true rfl | omega, by first | exact Nat.le_of_ble_eq_true rfl | omega⟩ (fun r9 sg9 H locs hq hW hS => ?_)
  obtain ⟨rfl, e9⟩ := hq
  rw [e9] at hW
  refine W.eq (g2 := F0 m 13 ls [.int (tw_kind (tw_last (sg 9 k 7) (sg 11 k) n9))]) rfl ?_
  refine lv_iconst (v := 2) hx hb dX3_fine_13 (by decide) ?_
  refine lv_icmp_eq (tgt := 19) hx hb dX3_fine_14 (by decide) (fun c_14 => ?_) (fun c_14 => ?_)
  · refine lv_aload_n hx hb dX3_fine_19 rfl (lv_at hl 1 rfl) ?_
    refine kx_g F inX3 hW 0 0 ⟨by decide, rfl⟩ rfl rfl 7 (by decide) L_42 (v := .int (sg 0 0 7)) rfl dX3_fine_20 ?_
    refine lv_aload_n hx hb dX3_fine_23 rfl (lv_at hl 0 rfl) ?_
    refine kx_cV (na := 0) F (q := 9) (n := k) (c_X0_thereSince l G z0 ad nb sg k hk n9 hn9 h129) gX3_fine_X0_thereSince rfl (by decide +kernel) ⟨Nat.le_of_ble_eq_true rfl, Nat.le_of_ble_eq_true rfl⟩ hW hS hk rfl rfl (As := []) (rest := [.int (sg 0 0 7)]) rfl hl.1 rfl (Nat.le_of_ble_eq_true rfl) dX3_fine_24 ⟨by first | exact Nat.le_of_ble_eq_true rfl | omega, by first | exact Nat.le_of_ble_eq_true rfl | omega⟩ (fun r9 sg9 H locs hq hW hS => ?_)
    obtain ⟨rfl, e9⟩ := hq
    rw [e9] at hW
    refine W.eq (g2 := F0 m 27 ls [.int (tw_since (sg 9 k 7) (sg 11 k) (sg 10 k) (tw_last (sg 9 k 7) (sg 11 k) n9) n9 0), .int (sg 0 0 7)]) rfl ?_
    refine lv_isub hx hb dX3_fine_27 ?_
    refine lv_bipush (v := 60) hx hb dX3_fine_28 (by decide) ?_
    refine lv_idiv hx hb dX3_fine_30 (by decide) ?_
    refine lv_istore_n (lv' := [(3, .int (((sg 0 0 7) - (tw_since (sg 9 k 7) (sg 11 k) (sg 10 k) (tw_last (sg 9 k 7) (sg 11 k) n9) n9 0)) / 60)), (2, .ref (ad 9 k)), (0, .ref (ad 0 0)), (1, .int (nI k))]) hx hb dX3_fine_31 rfl hl (by decide) rfl (fun ls hl => ?_)
    refine lv_iconst (v := 2) hx hb dX3_fine_32 (by decide) ?_
    refine lv_iconst (v := 0) hx hb dX3_fine_33 (by decide) ?_
    refine lv_iload_n hx hb dX3_fine_34 rfl (lv_at hl 0 rfl) ?_
    refine lv_bipush (v := 24) hx hb dX3_fine_35 (by decide) ?_
    refine lv_isub hx hb dX3_fine_37 ?_
    refine va_mmax hx hb (F.2.2.1.trans hl.1.symm) F.2.2.2.1 (hts (.methodLink RX3 206 Lib.Math.max.name) (by decide +kernel)) (hts (.static Lib.Math.max.name) (by decide +kernel)) (hts (.initialized "java/lang/Math") (by decide +kernel)) (hts (.code Lib.Math.max.name Lib.Math.max.code 2 (some .int)) (by decide +kernel)) (Nat.le_of_ble_eq_true rfl) (Nat.le_of_ble_eq_true rfl) (by first | exact Nat.zero_le _ | exact Nat.le_of_ble_eq_true rfl | omega) (by first | exact Nat.zero_le _ | exact Nat.le_of_ble_eq_true rfl | omega) dX3_fine_38 ?_
    refine lv_imul hx hb dX3_fine_41 ?_
    refine vx_ret ?_
    exact kx_ri F hr hlocks hW hS (by first | exact Nat.le_of_ble_eq_true rfl | omega) (by first | exact Nat.le_of_ble_eq_true rfl | omega) (⟨k, hk, rfl, by rw [en9, tw_fineOf, if_pos c_14], rfl⟩) dX3_fine_42
  · refine lv_iconst (v := 0) hx hb dX3_fine_17 (by decide) ?_
    refine vx_ret ?_
    exact kx_ri F hr hlocks hW hS (by first | exact Nat.le_of_ble_eq_true rfl | omega) (by first | exact Nat.le_of_ble_eq_true rfl | omega) (⟨k, hk, rfl, by rw [en9, tw_fineOf, if_neg c_14], rfl⟩) dX3_fine_18

set_option maxHeartbeats 1000000 in
set_option maxRecDepth 100000 in
theorem c_X3_lies (l : Launch) (hlf : l.stackTraces = false) (G : kx_G) (z0 : Nat) (ad : kx_A) (nb : Nat) (sg : kx_S) (hC : tw_CI nb sg) (x : Int32) : kx_MX l yX3_lies wsX3_lies 7 110 1 6 G z0 ad nb sg [.ref (ad 0 0), .int x] (fun r sg' => ∃ c : Nat, c < 14 ∧ x = nI c ∧ r = some (.int (tw_liesA sg x nb)) ∧ sg' = sg) (fun E => E = kx_ioe ∧ ∀ c, c < 14 → ¬ x = nI c) := by
  refine vx_ofW (cc := cX3_lies) (maxL := 7) (ret := (some .int)) (by decide) rfl ?_
  intro p e s m args below meth c s₁ B hml htab hv
  obtain ⟨rfl, hW, hV⟩ := hv
  have hts := atoms_spec (ws := wsX3_lies) B.pre
  have F : kx_F p s m c cX3_lies 7 RX3 _ wsX3_lies G z0 := ⟨B.exec, B.bytes, hml, findClass_of_methodNamed B.named, hts, hV⟩
  have hx := B.exec; have hb := B.bytes; have hr := B.returns; have hlocks := B.notSynchronized
  have hS : va_S (kx_Ad z0) s.heap s.heap [] := va_S.rf
  obtain ⟨hnb, hwf, hbl, hjm, hkp, hnn⟩ := hC
  have L_11 : Cond.fieldLink RX3 11 (TX3 0).1 (TX3 0).2.1 (TX3 0).2.2.1 ∈ wsX3_lies := by decide +kernel
  have inX3 : ∀ w ∈ u_ws RX3 TX3 9, w ∈ wsX3_lies := by decide +kernel
  have hl := lv_entry ([.ref (ad 0 0), .int x]) (n := 7) (Nat.le_of_ble_eq_true rfl)
  rw [lg_entry_eq]
  generalize (lg_sl ([.ref (ad 0 0), .int x]) ++ List.replicate (7 - (lg_sl ([.ref (ad 0 0), .int x])).length) Slot.unset).toArray = ls at hl ⊢
  have hl : lv_has ls 7 [(0, .ref (ad 0 0)), (1, .int x)] := hl
  have loop : (∃ c : Nat, c < 14 ∧ x = nI c) → ∀ (j k : Nat), 16 = k + j → ∀ (H : Heap) (locs : List Loc) (ls : Array Slot), kx_Wd G z0 ad nb sg H → va_S (kx_Ad z0) s.heap H locs → lv_has ls 7 [(5, .int (nI k)), (2, .int (tw_liesA sg x (min k nb))), (4, .int (nI 16)), (3, .ref (ad 1 0)), (0, .ref (ad 0 0)), (1, .int x)] → W p l e (headSpec wsX3_lies { frames := 7, cells := 1, slots := 6, locals := 110 }).room s m ([.ref (ad 0 0), .int x] : List Value).toArray below meth c H locs (0 + 1) (0 + 6) (vx_MQ below (kx_Q G z0 ad nb (fun r sg' => ∃ c : Nat, c < 14 ∧ x = nI c ∧ r = some (.int (tw_liesA sg x nb)) ∧ sg' = sg)) (kx_X G z0 ad nb sg (fun E => E = kx_ioe ∧ ∀ c, c < 14 → ¬ x = nI c)) ([.ref (ad 0 0), .int x] : List Value).toArray s 1 6 (kx_Ad z0)) (F0 m 18 ls []) := by
    intro hex j
    induction j with
    | zero =>
      intro k hk H locs ls hW hS hl
      refine lv_iload hx hb dX3_lies_18 (lv_at hl 0 rfl) ?_
      refine lv_iload hx hb dX3_lies_20 (lv_at hl 2 rfl) ?_
      refine lv_icmp_ge (tgt := 51) hx hb dX3_lies_22 (by decide) (fun c_22 => ?_) (fun c_22 => ?_)
      · refine lv_iload_n hx hb dX3_lies_51 rfl (lv_at hl 1 rfl) ?_
        refine vx_ret ?_
        exact kx_ri F hr hlocks hW hS (by first | exact Nat.le_of_ble_eq_true rfl | omega) (by first | exact Nat.le_of_ble_eq_true rfl | omega) (by obtain ⟨c1, hc1, ec1⟩ := hex; exact ⟨c1, hc1, ec1, by rw [show min k nb = nb by omega], rfl⟩) dX3_lies_52
      · exact absurd (nI_le (by omega) (by omega)) c_22
    | succ j ih =>
      intro k hk H locs ls hW hS hl
      refine lv_iload hx hb dX3_lies_18 (lv_at hl 0 rfl) ?_
      refine lv_iload hx hb dX3_lies_20 (lv_at hl 2 rfl) ?_
      refine lv_icmp_ge (tgt := 51) hx hb dX3_lies_22 (by decide) (fun c_22 => ?_) (fun c_22 => ?_)
      · exact absurd c_22 (nI_ge (by omega) (by omega))
      · refine lv_aload_n hx hb dX3_lies_25 rfl (lv_at hl 3 rfl) ?_
        refine lv_iload hx hb dX3_lies_26 (lv_at hl 0 rfl) ?_
        refine kx_aaldB F hW k (by omega) dX3_lies_28 (fun b_28 => ?_) (fun b_28 => ?_)
        · refine lv_astore (lv' := [(6, .ref (ad 9 k)), (5, .int (nI k)), (2, .int (tw_liesA sg x (min k nb))), (4, .int (nI 16)), (3, .ref (ad 1 0)), (0, .ref (ad 0 0)), (1, .int x)]) hx hb dX3_lies_29 hl (by decide) rfl (fun ls hl => ?_)
          refine lv_aload hx hb dX3_lies_31 (lv_at hl 0 rfl) ?_
          refine lv_ifnull hx hb dX3_lies_33 ?_
          obtain ⟨n9, hn9, h129, hm9⟩ := hwf.1 k b_28
          have en9 := tw_n_eq hn9 h129
          refine lv_iload_n hx hb dX3_lies_36 rfl (lv_at hl 2 rfl) ?_
          refine lv_aload hx hb dX3_lies_37 (lv_at hl 0 rfl) ?_
          refine lv_iload_n hx hb dX3_lies_39 rfl (lv_at hl 6 rfl) ?_
          refine kx_cV (na := 1) F (q := 9) (n := k) (c_X0_countLies l G z0 ad nb sg k b_28 n9 hn9 h129 x) gX3_lies_X0_countLies rfl (by decide +kernel) ⟨Nat.le_of_ble_eq_true rfl, Nat.le_of_ble_eq_true rfl⟩ hW hS b_28 rfl rfl (As := [.int x]) (rest := [.int (tw_liesA sg x (min k nb))]) rfl hl.1 rfl (Nat.le_of_ble_eq_true rfl) dX3_lies_40 ⟨by first | exact Nat.le_of_ble_eq_true rfl | omega, by first | exact Nat.le_of_ble_eq_true rfl | omega⟩ (fun r9 sg9 H locs hq hW hS => ?_)
          obtain ⟨rfl, e9⟩ := hq
          rw [e9] at hW
          refine W.eq (g2 := F0 m 43 ls [.int (tw_lies (sg 9 k 7) (sg 12 k) x n9), .int (tw_liesA sg x (min k nb))]) rfl ?_
          refine lv_iadd hx hb dX3_lies_43 ?_
          refine lv_istore_n (lv' := [(2, .int ((tw_liesA sg x (min k nb)) + (tw_lies (sg 9 k 7) (sg 12 k) x n9))), (6, .ref (ad 9 k)), (5, .int (nI k)), (4, .int (nI 16)), (3, .ref (ad 1 0)), (0, .ref (ad 0 0)), (1, .int x)]) hx hb dX3_lies_44 rfl hl (by decide) rfl (fun ls hl => ?_)
          refine lv_iinc (v := nI (k + 1)) (lv' := [(5, .int (nI (k + 1))), (2, .int ((tw_liesA sg x (min k nb)) + (tw_lies (sg 9 k 7) (sg 12 k) x n9))), (6, .ref (ad 9 k)), (4, .int (nI 16)), (3, .ref (ad 1 0)), (0, .ref (ad 0 0)), (1, .int x)]) hx hb dX3_lies_45 hl (k := 2) rfl (nI_1 k) (by decide) rfl (fun ls hl => ?_)
          refine lv_goto (tgt := 18) hx hb dX3_lies_48 (by decide) ?_
          exact ih (k + 1) (by omega) H locs ls hW hS (by
            have e8 : tw_liesA sg x (min (k + 1) nb) = tw_liesA sg x (min k nb) + tw_lies (sg 9 k 7) (sg 12 k) x n9 := by
              rw [show min (k + 1) nb = k + 1 by omega, show min k nb = k by omega, tw_liesA, en9]
            rw [e8]
            exact lv_sub hl [0, 1, 3, 4, 5, 6] rfl)
        · refine lv_astoreN (lv' := [(6, .null), (5, .int (nI k)), (2, .int (tw_liesA sg x (min k nb))), (4, .int (nI 16)), (3, .ref (ad 1 0)), (0, .ref (ad 0 0)), (1, .int x)]) hx hb dX3_lies_29 hl (by decide) rfl (fun ls hl => ?_)
          refine lv_aloadN hx hb dX3_lies_31 (lv_at hl 0 rfl) ?_
          refine lv_ifnullN (tgt := 45) hx hb dX3_lies_33 (by decide) ?_
          refine lv_iinc (v := nI (k + 1)) (lv' := [(5, .int (nI (k + 1))), (6, .null), (2, .int (tw_liesA sg x (min k nb))), (4, .int (nI 16)), (3, .ref (ad 1 0)), (0, .ref (ad 0 0)), (1, .int x)]) hx hb dX3_lies_45 hl (k := 1) rfl (nI_1 k) (by decide) rfl (fun ls hl => ?_)
          refine lv_goto (tgt := 18) hx hb dX3_lies_48 (by decide) ?_
          exact ih (k + 1) (by omega) H locs ls hW hS (by
            rw [show min (k + 1) nb = min k nb by omega]
            exact lv_sub hl [0, 2, 3, 4, 5, 6] rfl)
  refine lv_iload_n hx hb dX3_lies_0 rfl (lv_at hl 1 rfl) ?_
  refine kx_xS (na := 1) F (c_X3_checkWho l hlf G z0 ad nb sg x) gX3_lies_X3_checkWho rfl (by decide +kernel) ⟨Nat.le_of_ble_eq_true rfl, Nat.le_of_ble_eq_true rfl⟩ hW hS (As := [.int x]) (rest := []) rfl hl.1 rfl (Nat.le_of_ble_eq_true rfl) dX3_lies_1 ⟨by first | exact Nat.le_of_ble_eq_true rfl | omega, by first | exact Nat.le_of_ble_eq_true rfl | omega⟩ (fun E9 ce9 q9 H locs hp9 hW hS h7 h8 h9 => ?_) (fun r9 sg9 H locs hq hW hS => ?_)
  · exact kx_out htab hlocks hW hS (by first | exact Nat.le_of_ble_eq_true rfl | omega) (by first | exact Nat.le_of_ble_eq_true rfl | omega) (hp9) h7 h8 h9
  obtain ⟨rfl, e9, hex⟩ := hq
  rw [e9] at hW
  refine W.eq (g2 := F0 m 4 ls []) rfl ?_
  refine lv_iconst (v := 0) hx hb dX3_lies_4 (by decide) ?_
  refine lv_istore_n (lv' := [(2, .int 0), (0, .ref (ad 0 0)), (1, .int x)]) hx hb dX3_lies_5 rfl hl (by decide) rfl (fun ls hl => ?_)
  refine lv_aload_n hx hb dX3_lies_6 rfl (lv_at hl 1 rfl) ?_
  refine kx_g F inX3 hW 0 0 ⟨by decide, rfl⟩ rfl rfl 0 (by decide) L_11 (v := .ref (ad 1 0)) rfl dX3_lies_7 ?_
  refine lv_astore_n (lv' := [(3, .ref (ad 1 0)), (2, .int 0), (0, .ref (ad 0 0)), (1, .int x)]) hx hb dX3_lies_10 rfl hl (by decide) rfl (fun ls hl => ?_)
  refine lv_aload_n hx hb dX3_lies_11 rfl (lv_at hl 0 rfl) ?_
  refine kx_alenB F hW dX3_lies_12 ?_
  refine lv_istore (lv' := [(4, .int (nI 16)), (3, .ref (ad 1 0)), (2, .int 0), (0, .ref (ad 0 0)), (1, .int x)]) hx hb dX3_lies_13 hl (by decide) rfl (fun ls hl => ?_)
  refine lv_iconst (v := 0) hx hb dX3_lies_15 (by decide) ?_
  refine lv_istore (lv' := [(5, .int 0), (4, .int (nI 16)), (3, .ref (ad 1 0)), (2, .int 0), (0, .ref (ad 0 0)), (1, .int x)]) hx hb dX3_lies_16 hl (by decide) rfl (fun ls hl => ?_)
  exact loop hex 16 0 (by omega) _ _ ls hW hS (by rw [show min 0 nb = 0 by omega]; exact lv_sub hl [0, 3, 1, 2, 4, 5] rfl)

set_option maxHeartbeats 1000000 in
set_option maxRecDepth 100000 in
theorem c_X3_storyOfAll (l : Launch) (hlf : l.stackTraces = false) (G : kx_G) (z0 : Nat) (ad : kx_A) (nb : Nat) (sg : kx_S) (hC : tw_CI nb sg) (x : Int32) : kx_MX l yX3_storyOfAll wsX3_storyOfAll 14 391 1 6 G z0 ad nb sg [.ref (ad 0 0), .int x] (fun r sg' => ∃ k : Nat, k < nb ∧ x = nI k ∧ r = some (.int (tw_st sg k (tw_n sg k))) ∧ ∃ f : Nat → Int32, sg' = kx_up sg 6 0 f) (fun E => E = kx_ioe ∧ ∀ k, k < nb → ¬ x = nI k) := by
  refine vx_ofW (cc := cX3_storyOfAll) (maxL := 3) (ret := (some .int)) (by decide) rfl ?_
  intro p e s m args below meth c s₁ B hml htab hv
  obtain ⟨rfl, hW, hV⟩ := hv
  have hts := atoms_spec (ws := wsX3_storyOfAll) B.pre
  have F : kx_F p s m c cX3_storyOfAll 3 RX3 _ wsX3_storyOfAll G z0 := ⟨B.exec, B.bytes, hml, findClass_of_methodNamed B.named, hts, hV⟩
  have hx := B.exec; have hb := B.bytes; have hr := B.returns; have hlocks := B.notSynchronized
  have hS : va_S (kx_Ad z0) s.heap s.heap [] := va_S.rf
  obtain ⟨hnb, hwf, hbl, hjm, hkp, hnn⟩ := hC
  have L_32 : Cond.fieldLink RX3 32 (TX3 4).1 (TX3 4).2.1 (TX3 4).2.2.1 ∈ wsX3_storyOfAll := by decide +kernel
  have inX3 : ∀ w ∈ u_ws RX3 TX3 9, w ∈ wsX3_storyOfAll := by decide +kernel
  have hl := lv_entry ([.ref (ad 0 0), .int x]) (n := 3) (Nat.le_of_ble_eq_true rfl)
  rw [lg_entry_eq]
  generalize (lg_sl ([.ref (ad 0 0), .int x]) ++ List.replicate (3 - (lg_sl ([.ref (ad 0 0), .int x])).length) Slot.unset).toArray = ls at hl ⊢
  have hl : lv_has ls 3 [(0, .ref (ad 0 0)), (1, .int x)] := hl
  refine lv_aload_n hx hb dX3_storyOfAll_0 rfl (lv_at hl 0 rfl) ?_
  refine lv_iload_n hx hb dX3_storyOfAll_1 rfl (lv_at hl 1 rfl) ?_
  refine kx_xV (na := 1) F (q := 0) (n := 0) (c_X3_boxAt l hlf G z0 ad nb sg hnb x) gX3_storyOfAll_X3_boxAt rfl (by decide +kernel) ⟨Nat.le_of_ble_eq_true rfl, Nat.le_of_ble_eq_true rfl⟩ hW hS ⟨by decide, rfl⟩ rfl rfl (As := [.int x]) (rest := []) rfl hl.1 rfl (Nat.le_of_ble_eq_true rfl) dX3_storyOfAll_2 ⟨by first | exact Nat.le_of_ble_eq_true rfl | omega, by first | exact Nat.le_of_ble_eq_true rfl | omega⟩ (fun E9 ce9 q9 H locs hp9 hW hS h7 h8 h9 => ?_) (fun r9 sg9 H locs hq hW hS => ?_)
  · exact kx_out htab hlocks hW hS (by first | exact Nat.le_of_ble_eq_true rfl | omega) (by first | exact Nat.le_of_ble_eq_true rfl | omega) (hp9) h7 h8 h9
  obtain ⟨k, hk, rfl, rfl, e9⟩ := hq
  rw [e9] at hW
  refine W.eq (g2 := F0 m 5 ls [.ref (ad 9 k)]) rfl ?_
  obtain ⟨n9, hn9, h129, hm9⟩ := hwf.1 k hk
  have en9 := tw_n_eq hn9 h129
  refine lv_astore_n (lv' := [(2, .ref (ad 9 k)), (0, .ref (ad 0 0)), (1, .int (nI k))]) hx hb dX3_storyOfAll_5 rfl hl (by decide) rfl (fun ls hl => ?_)
  refine lv_aload_n hx hb dX3_storyOfAll_6 rfl (lv_at hl 1 rfl) ?_
  refine lv_aload_n hx hb dX3_storyOfAll_7 rfl (lv_at hl 0 rfl) ?_
  refine kx_cV (na := 1) F (q := 0) (n := 0) (c_X3_weighScans l G z0 ad nb sg k hk n9 hn9 h129 hm9) gX3_storyOfAll_X3_weighScans rfl (by decide +kernel) ⟨Nat.le_of_ble_eq_true rfl, Nat.le_of_ble_eq_true rfl⟩ hW hS ⟨by decide, rfl⟩ rfl rfl (As := [.ref (ad 9 k)]) (rest := []) rfl hl.1 rfl (Nat.le_of_ble_eq_true rfl) dX3_storyOfAll_8 ⟨by first | exact Nat.le_of_ble_eq_true rfl | omega, by first | exact Nat.le_of_ble_eq_true rfl | omega⟩ (fun r9 sg9 H locs hq hW hS => ?_)
  obtain ⟨rfl, f6, e9, hf6⟩ := hq
  rw [e9] at hW
  have hW : kx_Wd G z0 ad nb (kx_up sg 6 0 f6) H := by first | exact hW | (simp only [kx_up_s, kx_up_up] at hW; exact hW) | (simp only [kx_up_s, kx_up_up, upd_s] at hW; exact hW)
  refine W.eq (g2 := F0 m 11 ls []) rfl ?_
  have hw6 : ∀ k1, k1 < n9 → 0 < ((kx_up sg 6 0 f6) 6 0 k1).toInt ∧ ((kx_up sg 6 0 f6) 6 0 k1).toInt ≤ 300000 := fun k1 hk1 => by
    obtain ⟨j, hj, hmj⟩ := hm9 k1 hk1
    have h9 := tw_w_bd (jam := fun d => sg 8 d 1) (by omega : k1 < 12) hj hmj hwf.2
    rw [show (kx_up sg 6 0 f6) 6 0 k1 = f6 k1 from rfl, hf6 k1 hk1]
    exact h9
  refine lv_aload_n hx hb dX3_storyOfAll_11 rfl (lv_at hl 0 rfl) ?_
  refine lv_aload_n hx hb dX3_storyOfAll_12 rfl (lv_at hl 1 rfl) ?_
  refine kx_g F inX3 hW 0 0 ⟨by decide, rfl⟩ rfl rfl 4 (by decide) L_32 (v := .ref (ad 6 0)) rfl dX3_storyOfAll_13 ?_
  refine lv_iconst (v := (-1)) hx hb dX3_storyOfAll_16 (by decide) ?_
  refine lv_iconst (v := 0) hx hb dX3_storyOfAll_17 (by decide) ?_
  refine lv_iconst (v := 0) hx hb dX3_storyOfAll_18 (by decide) ?_
  refine kx_cS (na := 5) F (c_X3_greatestWorth l G z0 ad nb (kx_up sg 6 0 f6) k hk n9 hn9 h129 hw6 12 0 0 0 (Nat.zero_le _) (by omega) (Nat.le_refl 0) (by decide) (by decide)) gX3_storyOfAll_X3_greatestWorth rfl (by decide +kernel) ⟨Nat.le_of_ble_eq_true rfl, Nat.le_of_ble_eq_true rfl⟩ hW hS (As := [.ref (ad 9 k), .ref (ad 6 0), .int (-1), .int 0, .int 0]) (rest := []) rfl hl.1 rfl (Nat.le_of_ble_eq_true rfl) dX3_storyOfAll_19 ⟨by first | exact Nat.le_of_ble_eq_true rfl | omega, by first | exact Nat.le_of_ble_eq_true rfl | omega⟩ (fun r9 sg9 H locs hq hW hS => ?_)
  obtain ⟨a9, rfl, e9, ha9⟩ := hq
  rw [e9] at hW
  refine W.eq (g2 := F0 m 22 ls [.int a9]) rfl ?_
  refine lv_sipush (v := 4096) hx hb dX3_storyOfAll_22 (by decide) ?_
  refine lv_irem hx hb dX3_storyOfAll_25 (by decide) ?_
  have hd9 := dp_all (fo := fun j k1 => tw_tru ((kx_up sg 6 0 f6) 13 k k1) (nI j)) (st := fun k1 => tw_tru ((kx_up sg 6 0 f6) 13 k k1) 12) (d := 12) (fun k1 h1 => (hw6 k1 h1).1) h129
  have ha8 : a9.toInt = dp_best (dp_S (fun k1 => ((kx_up sg 6 0 f6) 6 0 k1).toInt) (fun j k1 => tw_tru ((kx_up sg 6 0 f6) 13 k k1) (nI j)) (fun k1 => tw_tru ((kx_up sg 6 0 f6) 13 k k1) 12)) n9 := by
    rw [← hd9, ha9]
    exact Int.zero_add _
  have est := tw_st_of (sg := sg) (i := k) (n := n9) (w := fun k1 => ((kx_up sg 6 0 f6) 6 0 k1).toInt) (fo := fun j k1 => tw_tru ((kx_up sg 6 0 f6) 13 k k1) (nI j)) (st := fun k1 => tw_tru ((kx_up sg 6 0 f6) 13 k k1) 12) (fun k1 hk1 => congrArg Int32.toInt (hf6 k1 hk1)) rfl rfl
  have er9 : a9 - a9 / 4096 * 4096 = tw_st sg k n9 := (tw_rem ha8 (dp_best_0 n9)).trans est
  refine vx_ret ?_
  exact kx_ri F hr hlocks hW hS (by first | exact Nat.le_of_ble_eq_true rfl | omega) (by first | exact Nat.le_of_ble_eq_true rfl | omega) (⟨k, hk, rfl, by rw [en9, er9], f6, rfl⟩) dX3_storyOfAll_26
