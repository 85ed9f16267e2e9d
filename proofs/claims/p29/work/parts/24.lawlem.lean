/-! the two towns in one world: what a call on the first leaves, what one on the second leaves -/
abbrev ro_RR (m nb : Nat) (sg : kx_S) : Prop := ro_R m nb sg (kx_swS sg)
theorem ro_in2 {m nb : Nat} {sg s' : kx_S} (h : ro_RR m nb sg) (f : ro_fr sg s') : ro_R m nb sg (kx_swS s') :=
  ro_R_eq h (fun _ _ _ _ _ => rfl) (fun q n hq _ _ => by rw [kx_swS_1 hq, kx_swS_1 hq]; exact f (q + 14) n (by omega))
theorem ro_out2 {m nb : Nat} {s' t' : kx_S} (h : ro_R m nb s' t') (f : ro_fr (kx_swS s') t') : ro_RR m nb (kx_swS t') := by
  unfold ro_RR
  rw [kx_swS2]
  exact ro_R_eq h (fun q n hq _ _ => by rw [kx_swS_1 hq, f (q + 14) n (by omega), kx_swS_2 hq]) (fun _ _ _ _ _ => rfl)
theorem lo_th_eq : ∀ c, c < 14 → ∀ m, m < 4 → lo_th (nI c) (nI m) = nI (ro_s m c) := by decide +kernel
theorem lo_pl_c : ∀ c, c < 4 → ∀ m, m < 4 → lo_pl (nI (1 + c)) (nI m) = nI (1 + ro_s m c) := by decide +kernel
theorem lo_pl_eq {m : Nat} (hm : m < 4) (q : Int32) : lo_pl q (nI m) = ro_p m q := by
  rcases ro_p_c m q with ⟨c, hc, e, e2⟩ | ⟨f, e⟩
  · rw [e2, e, lo_pl_c c hc m hm]
  · rw [e, lo_pl]
    by_cases h1 : q ≤ 0
    · rw [if_pos h1]
    · by_cases h2 : q < 5
      · exfalso
        have h3 := (tw_in_iff' q 1 4).mp f
        have e1 : (1 : Int32).toInt = 1 := by decide
        have e4 : (4 : Int32).toInt = 4 := by decide
        have e5 : (5 : Int32).toInt = 5 := by decide
        have e0 : (0 : Int32).toInt = 0 := by decide
        rw [tw_le] at h1
        rw [tw_lt] at h2
        omega
      · rw [if_neg h1, if_neg h2]
theorem lo_rem {a d : Nat} (ha : a < 2 ^ 31) (h0 : 0 < d) (hd : d < 2 ^ 31) : nI a - nI a / nI d * nI d = nI (a % d) := pk_rem ha h0 hd
theorem lo_r4 {a : Nat} (ha : a < 14) : nI a - nI a / 4 * 4 = nI (a % 4) := pk_rem (a := a) (d := 4) (by omega) (by decide) (by decide)
theorem lo_k55 : ∀ k, k < 110 → nI k - nI k / 55 * 55 = nI (k % 55) := by decide +kernel
theorem lo_z {a k : Nat} (ha : a < 2 ^ 30) (hk : k < 110) : nI a / (1 + nI k / 55) + 7 * (nI k / 55) = nI (a / (1 + k / 55) + 7 * (k / 55)) := by
  have e1 : nI k / 55 = nI (k / 55) := pk_div (a := k) (d := 55) (by omega) (by decide) (by decide)
  have e2 : (1 : Int32) + nI (k / 55) = nI (1 + k / 55) := nI_add 1 (k / 55)
  have e3 : (7 : Int32) * nI (k / 55) = nI (7 * (k / 55)) := pk_mul (a := 7) (b := k / 55)
  rw [e1, e2, e3, pk_div (by omega) (by omega) (by omega), nI_add]
theorem lo_and30 (x : Int32) : ∃ k : Nat, k < 2 ^ 30 ∧ x &&& 1073741823 = nI k := by
  refine ⟨(x.toBitVec &&& 1073741823#32).toNat, ?_, ?_⟩
  · rw [BitVec.toNat_and]
    exact Nat.lt_of_le_of_lt Nat.and_le_right (by decide)
  · refine Int32.toBitVec_inj.mp ?_
    show (x &&& 1073741823).toBitVec = BitVec.ofNat 32 (x.toBitVec &&& 1073741823#32).toNat
    rw [BitVec.ofNat_toNat, BitVec.setWidth_eq]
    rfl
theorem lo_who {a : Nat} (ha : a < 2 ^ 31) : nI a / 16 - nI a / 16 / 14 * 14 = nI (a / 16 % 14) := by
  have e1 : nI a / 16 = nI (a / 16) := pk_div (a := a) (d := 16) ha (by decide) (by decide)
  rw [e1]
  exact pk_rem (a := a / 16) (d := 14) (by omega) (by decide) (by decide)
theorem kx_swA_00 {ad : kx_A} {nb : Nat} : kx_swA ad nb 0 0 = ad 14 0 := rfl
theorem kx_swA_14 {ad : kx_A} {nb : Nat} : kx_swA ad nb 14 0 = ad 0 0 := rfl
section KLC
variable {p : Program} {l : Launch} {e : Env} {R : Room} {s : State} {m : MethodId} {args : Array Value} {below : List Frame} {meth : Method} {c : Code} {H : Heap} {locs : List Loc} {cells slots : Nat} {Q : State → Prop}
variable {cc : ByteArray} {nL pc : Nat} {own : String} {ls : Array Slot} {rest st0 : List Value} {Ts : List Cond} {G : kx_G} {z0 : Nat} {ad : kx_A} {nb : Nat} {sg : kx_S} {mc ms : Nat}
theorem lo_cA {y : MethodName} {ws ws' : List Cond} {fr lo index na maxL : Nat} {bytes : ByteArray} {ret : Option FieldType} {hh : List (Nat × Nat × Nat × Nat)} {As : List Value} {P : Int32 → kx_S → Prop} (F : kx_F p s m c cc nL own args Ts G z0) (hM : kx_MX l y ws fr lo mc ms G z0 ad nb sg As (fun r sg' => ∃ a : Int32, r = some (.int a) ∧ P a sg') (fun _ => False)) (hT : GoodIn Ts (va_wsS own index y ws)) (hw : ws = Cond.codeWith y bytes maxL ret hh :: ws') (hd : y.cls ≠ "java/lang/invoke/MethodHandle" ∧ y.cls ≠ "java/lang/invoke/VarHandle" ∧ (parseMethodDescriptor y.desc).map (fun d => d.parameters.length) = some na) (hR : fr + 1 ≤ R.frames ∧ 8 + (maxL + 11) + lo ≤ R.locals)
    (hW : kx_Wd G z0 ad nb sg H) (hS : va_S (kx_Ad z0) s.heap H locs) (hn : As.length = na) (hsize : ls.size = nL) (hst : st0 = As.reverse ++ rest) (hrm : (rest.map fun v => v.category).sum ≤ 8) (hdg : decode cc pc = .ok (.invokestatic index, 3)) (hf : cells + mc ≤ R.cells ∧ slots + ms ≤ R.slots)
    (kk : ∀ (a : Int32) (sg' : kx_S) (H1 : Heap) (locs1 : List Loc), P a sg' → kx_Wd G z0 ad nb sg' H1 → va_S (kx_Ad z0) s.heap H1 locs1 → W p l e R s m args below meth c H1 locs1 (cells + mc) (slots + ms) Q (F0 m (pc + 3) ls (.int a :: rest))) : W p l e R s m args below meth c H locs cells slots Q (F0 m pc ls st0) :=
  kx_xSH F hM hT hw hd hR hW hS hn hsize hst hrm hdg hf (fun _ _ _ _ _ h _ _ _ _ _ => h.elim) (fun r sg' H1 locs1 hp hW hS => by obtain ⟨a, rfl, hp⟩ := hp; exact kk a sg' H1 locs1 hp hW hS)
theorem lo_cB {y : MethodName} {ws ws' : List Cond} {fr lo index na maxL : Nat} {bytes : ByteArray} {ret : Option FieldType} {hh : List (Nat × Nat × Nat × Nat)} {As : List Value} {P : Int32 → kx_S → Prop} {n2 : Nat} (F : kx_F p s m c cc nL own args Ts G z0) (hn2 : ad 40 0 = n2) (hM : kx_MX l y ws fr lo mc ms G z0 (kx_swA ad nb) n2 (kx_swS sg) As (fun r sg' => ∃ a : Int32, r = some (.int a) ∧ P a sg') (fun _ => False)) (hT : GoodIn Ts (va_wsS own index y ws)) (hw : ws = Cond.codeWith y bytes maxL ret hh :: ws') (hd : y.cls ≠ "java/lang/invoke/MethodHandle" ∧ y.cls ≠ "java/lang/invoke/VarHandle" ∧ (parseMethodDescriptor y.desc).map (fun d => d.parameters.length) = some na) (hR : fr + 1 ≤ R.frames ∧ 8 + (maxL + 11) + lo ≤ R.locals)
    (hW : kx_Wd G z0 ad nb sg H) (hS : va_S (kx_Ad z0) s.heap H locs) (hn : As.length = na) (hsize : ls.size = nL) (hst : st0 = As.reverse ++ rest) (hrm : (rest.map fun v => v.category).sum ≤ 8) (hdg : decode cc pc = .ok (.invokestatic index, 3)) (hf : cells + mc ≤ R.cells ∧ slots + ms ≤ R.slots)
    (kk : ∀ (a : Int32) (t' : kx_S) (H1 : Heap) (locs1 : List Loc), P a t' → kx_Wd G z0 ad nb (kx_swS t') H1 → va_S (kx_Ad z0) s.heap H1 locs1 → W p l e R s m args below meth c H1 locs1 (cells + mc) (slots + ms) Q (F0 m (pc + 3) ls (.int a :: rest))) : W p l e R s m args below meth c H locs cells slots Q (F0 m pc ls st0) :=
  kx_xSH F hM hT hw hd hR (by have h9 := hW.sw; rw [hn2] at h9; exact h9) hS hn hsize hst hrm hdg hf (fun _ _ _ _ _ h _ _ _ _ _ => h.elim) (fun r t' H1 locs1 hp hW hS => by obtain ⟨a, rfl, hp⟩ := hp; exact kk a t' H1 locs1 hp (hW.back hn2) hS)
theorem lo_cAg {y : MethodName} {ws ws' : List Cond} {fr lo index na maxL : Nat} {bytes : ByteArray} {ret : Option FieldType} {hh : List (Nat × Nat × Nat × Nat)} {As : List Value} {P : Int32 → kx_A → Nat → kx_S → Prop} (F : kx_F p s m c cc nL own args Ts G z0) (hM : kx_MXg l y ws fr lo mc ms G z0 ad nb sg As (fun r ad' nb' sg' => ∃ a : Int32, r = some (.int a) ∧ P a ad' nb' sg') (fun _ => False)) (hT : GoodIn Ts (va_wsS own index y ws)) (hw : ws = Cond.codeWith y bytes maxL ret hh :: ws') (hd : y.cls ≠ "java/lang/invoke/MethodHandle" ∧ y.cls ≠ "java/lang/invoke/VarHandle" ∧ (parseMethodDescriptor y.desc).map (fun d => d.parameters.length) = some na) (hR : fr + 1 ≤ R.frames ∧ 8 + (maxL + 11) + lo ≤ R.locals)
    (hW : kx_Wd G z0 ad nb sg H) (hS : va_S (kx_Ad z0) s.heap H locs) (hn : As.length = na) (hsize : ls.size = nL) (hst : st0 = As.reverse ++ rest) (hrm : (rest.map fun v => v.category).sum ≤ 8) (hdg : decode cc pc = .ok (.invokestatic index, 3)) (hf : cells + mc ≤ R.cells ∧ slots + ms ≤ R.slots)
    (kk : ∀ (a : Int32) (ad' : kx_A) (nb' : Nat) (sg' : kx_S) (H1 : Heap) (locs1 : List Loc), P a ad' nb' sg' → kx_Wd G z0 ad' nb' sg' H1 → va_S (kx_Ad z0) s.heap H1 locs1 → W p l e R s m args below meth c H1 locs1 (cells + mc) (slots + ms) Q (F0 m (pc + 3) ls (.int a :: rest))) : W p l e R s m args below meth c H locs cells slots Q (F0 m pc ls st0) :=
  kx_xSHg F hM hT hw hd hR hW hS hn hsize hst hrm hdg hf (fun _ _ _ _ _ h _ _ _ _ _ => h.elim) (fun r ad' nb' sg' H1 locs1 hp hW hS => by obtain ⟨a, rfl, hp⟩ := hp; exact kk a ad' nb' sg' H1 locs1 hp hW hS)
/-- what a town tells by itself -/
theorem lo_gA {y : MethodName} {ws ws' : List Cond} {fr lo index maxL : Nat} {bytes : ByteArray} {ret : Option FieldType} {v : Int32} {q9 : Nat} (F : kx_F p s m c cc nL own args Ts G z0) (hM : kx_M l y ws fr lo 0 0 G z0 ad nb sg [.ref (ad 0 0)] (fun r sg' => r = some (.int v) ∧ sg' = sg)) (hT : GoodIn Ts (wsV own index RX3 y ws)) (hw : ws = Cond.code y bytes maxL ret :: ws') (hd : y.cls = RX3 ∧ y.cls ≠ "java/lang/invoke/MethodHandle" ∧ y.cls ≠ "java/lang/invoke/VarHandle" ∧ (parseMethodDescriptor y.desc).map (fun d => d.parameters.length) = some 0) (hR : fr + 1 ≤ R.frames ∧ 8 + (maxL + 11) + lo ≤ R.locals)
    (hW : kx_Wd G z0 ad nb sg H) (hS : va_S (kx_Ad z0) s.heap H locs) (hsize : ls.size = nL) (ea : q9 = ad 0 0) (hrm : (rest.map fun v => v.category).sum ≤ 8) (hdg : decode cc pc = .ok (.invokevirtual index, 3)) (hf : cells ≤ R.cells ∧ slots ≤ R.slots)
    (kk : ∀ (H1 : Heap) (locs1 : List Loc), kx_Wd G z0 ad nb sg H1 → va_S (kx_Ad z0) s.heap H1 locs1 → W p l e R s m args below meth c H1 locs1 cells slots Q (F0 m (pc + 3) ls (.int v :: rest))) : W p l e R s m args below meth c H locs cells slots Q (F0 m pc ls (.ref q9 :: rest)) := by
  subst ea
  exact kx_cV (na := 0) F (q := 0) (n := 0) hM hT hw hd hR hW hS ⟨by decide, rfl⟩ rfl rfl (As := []) (rest := rest) rfl hsize rfl hrm hdg hf (fun r sg' H1 locs1 hq hW9 hS9 => by obtain ⟨e8, e9⟩ := hq; subst e8; rw [e9] at hW9; exact kk H1 locs1 hW9 hS9)
theorem lo_gB {y : MethodName} {ws ws' : List Cond} {fr lo index maxL : Nat} {bytes : ByteArray} {ret : Option FieldType} {v : Int32} {q9 n2 : Nat} (F : kx_F p s m c cc nL own args Ts G z0) (hn2 : ad 40 0 = n2) (hM : kx_M l y ws fr lo 0 0 G z0 (kx_swA ad nb) n2 (kx_swS sg) [.ref (kx_swA ad nb 0 0)] (fun r sg' => r = some (.int v) ∧ sg' = kx_swS sg)) (hT : GoodIn Ts (wsV own index RX3 y ws)) (hw : ws = Cond.code y bytes maxL ret :: ws') (hd : y.cls = RX3 ∧ y.cls ≠ "java/lang/invoke/MethodHandle" ∧ y.cls ≠ "java/lang/invoke/VarHandle" ∧ (parseMethodDescriptor y.desc).map (fun d => d.parameters.length) = some 0) (hR : fr + 1 ≤ R.frames ∧ 8 + (maxL + 11) + lo ≤ R.locals)
    (hW : kx_Wd G z0 ad nb sg H) (hS : va_S (kx_Ad z0) s.heap H locs) (hsize : ls.size = nL) (eb : q9 = ad 14 0) (hrm : (rest.map fun v => v.category).sum ≤ 8) (hdg : decode cc pc = .ok (.invokevirtual index, 3)) (hf : cells ≤ R.cells ∧ slots ≤ R.slots)
    (kk : ∀ (H1 : Heap) (locs1 : List Loc), kx_Wd G z0 ad nb sg H1 → va_S (kx_Ad z0) s.heap H1 locs1 → W p l e R s m args below meth c H1 locs1 cells slots Q (F0 m (pc + 3) ls (.int v :: rest))) : W p l e R s m args below meth c H locs cells slots Q (F0 m pc ls (.ref q9 :: rest)) := by
  have e9 : q9 = kx_swA ad nb 0 0 := eb
  exact lo_gA F hM hT hw hd hR (by have h9 := hW.sw; rw [hn2] at h9; exact h9) hS hsize e9 hrm hdg hf (fun H1 locs1 hW hS => kk H1 locs1 (by have h9 := hW.back hn2; rw [kx_swS2] at h9; exact h9) hS)
end KLC
theorem ry_setTrust {m nb : Nat} {sg s' t' : kx_S} {a b : Int32} {c : Nat} {y : Int32} (h : ro_RR m nb sg) (hc : c < 14) (h1 : ho (cq_setTrust nb sg (nI c) y) (cx_setTrust nb sg (nI c) y) sg a s') (h2 : ho (cq_setTrust nb (kx_swS s') (nI (ro_s m c)) y) (cx_setTrust nb (kx_swS s') (nI (ro_s m c)) y) (kx_swS s') b t') : (a = b) ∧ ro_RR m nb (kx_swS t') := by
  obtain ⟨e9, h9⟩ := rp_setTrust (ro_in2 h (rf_setTrust h1)) hc h1 h2
  exact ⟨e9, ro_out2 h9 (rf_setTrust h2)⟩
theorem ry_pass {m nb : Nat} {sg s' t' : kx_S} {a b : Int32} {x : Int32} (h : ro_RR m nb sg) (h1 : ho (cq_pass nb sg x) (cx_pass nb sg x) sg a s') (h2 : ho (cq_pass nb (kx_swS s') x) (cx_pass nb (kx_swS s') x) (kx_swS s') b t') : (a = b) ∧ ro_RR m nb (kx_swS t') := by
  obtain ⟨e9, h9⟩ := rp_pass (ro_in2 h (rf_pass h1)) h1 h2
  exact ⟨e9, ro_out2 h9 (rf_pass h2)⟩
theorem ry_scan {m nb : Nat} {sg s' t' : kx_S} {a b : Int32} {x z : Int32} {c : Nat} (h : ro_RR m nb sg) (hc : c < 4) (h1 : ho (cq_scan nb sg x (nI c) z) (cx_scan nb sg x (nI c) z) sg a s') (h2 : ho (cq_scan nb (kx_swS s') x (nI (ro_s m c)) z) (cx_scan nb (kx_swS s') x (nI (ro_s m c)) z) (kx_swS s') b t') : (a = b) ∧ ro_RR m nb (kx_swS t') := by
  obtain ⟨e9, h9⟩ := rp_scan (ro_in2 h (rf_scan h1)) hc h1 h2
  exact ⟨e9, ro_out2 h9 (rf_scan h2)⟩
theorem ry_lay {m nb : Nat} {sg s' t' : kx_S} {a b : Int32} {x y : Int32} (h : ro_RR m nb sg) (h1 : ho (cq_lay nb sg x y) (cx_lay nb sg x y) sg a s') (h2 : ho (cq_lay nb (kx_swS s') x y) (cx_lay nb (kx_swS s') x y) (kx_swS s') b t') : (a = b) ∧ ro_RR m nb (kx_swS t') := by
  obtain ⟨e9, h9⟩ := rp_lay (ro_in2 h (rf_lay h1)) h1 h2
  exact ⟨e9, ro_out2 h9 (rf_lay h2)⟩
theorem ry_find {m nb : Nat} {sg s' t' : kx_S} {a b : Int32} {x y : Int32} (h : ro_RR m nb sg) (h1 : ho (cq_find nb sg x y) (cx_find nb sg x y) sg a s') (h2 : ho (cq_find nb (kx_swS s') x (ro_p m y)) (cx_find nb (kx_swS s') x (ro_p m y)) (kx_swS s') b t') : (a = b) ∧ ro_RR m nb (kx_swS t') := by
  obtain ⟨e9, h9⟩ := rp_find (ro_in2 h (rf_find h1)) h1 h2
  exact ⟨e9, ro_out2 h9 (rf_find h2)⟩
theorem ry_setDoor {m nb : Nat} {sg s' t' : kx_S} {a b : Int32} {x y : Int32} (h : ro_RR m nb sg) (h1 : ho (cq_setDoor nb sg x y) (cx_setDoor nb sg x y) sg a s') (h2 : ho (cq_setDoor nb (kx_swS s') x y) (cx_setDoor nb (kx_swS s') x y) (kx_swS s') b t') : (a = b) ∧ ro_RR m nb (kx_swS t') := by
  obtain ⟨e9, h9⟩ := rp_setDoor (ro_in2 h (rf_setDoor h1)) h1 h2
  exact ⟨e9, ro_out2 h9 (rf_setDoor h2)⟩
theorem ry_keep {m nb : Nat} {sg s' t' : kx_S} {a b : Int32} {x y : Int32} (h : ro_RR m nb sg) (h1 : ho (cq_keep nb sg x y) (cx_keep nb sg x y) sg a s') (h2 : ho (cq_keep nb (kx_swS s') x y) (cx_keep nb (kx_swS s') x y) (kx_swS s') b t') : (a = b) ∧ ro_RR m nb (kx_swS t') := by
  obtain ⟨e9, h9⟩ := rp_keep (ro_in2 h (rf_keep h1)) h1 h2
  exact ⟨e9, ro_out2 h9 (rf_keep h2)⟩
theorem ry_open {m nb : Nat} {sg s' t' : kx_S} {a b : Int32} {x y : Int32} (h : ro_RR m nb sg) (h1 : ho (cq_open nb sg x y) (cx_open nb sg x y) sg a s') (h2 : ho (cq_open nb (kx_swS s') x y) (cx_open nb (kx_swS s') x y) (kx_swS s') b t') : (a = b) ∧ ro_RR m nb (kx_swS t') := by
  obtain ⟨e9, h9⟩ := rp_open (ro_in2 h (rf_open h1)) h1 h2
  exact ⟨e9, ro_out2 h9 (rf_open h2)⟩
theorem ry_jam {m nb : Nat} {sg s' t' : kx_S} {a b : Int32} {x z : Int32} (h : ro_RR m nb sg) (hz : tw_01 z) (h1 : ho (cq_jam nb sg x z) (cx_jam nb sg x z) sg a s') (h2 : ho (cq_jam nb (kx_swS s') x z) (cx_jam nb (kx_swS s') x z) (kx_swS s') b t') : (a = b) ∧ ro_RR m nb (kx_swS t') := by
  obtain ⟨e9, h9⟩ := rp_jam (ro_in2 h (rf_jam h1)) hz h1 h2
  exact ⟨e9, ro_out2 h9 (rf_jam h2)⟩
theorem ry_claim {m nb : Nat} {sg s' t' : kx_S} {a b : Int32} {x : Int32} (h : ro_RR m nb sg) (h1 : ho (cq_claim nb sg x) (cx_claim nb sg x) sg a s') (h2 : ho (cq_claim nb (kx_swS s') x) (cx_claim nb (kx_swS s') x) (kx_swS s') b t') : (a = b) ∧ ro_RR m nb (kx_swS t') := by
  obtain ⟨e9, h9⟩ := rp_claim (ro_in2 h (rf_claim h1)) h1 h2
  exact ⟨e9, ro_out2 h9 (rf_claim h2)⟩
theorem ry_scans {m nb : Nat} {sg s' t' : kx_S} {a b : Int32} {x : Int32} (h : ro_RR m nb sg) (h1 : ho (cq_scans nb sg x) (cx_scans nb sg x) sg a s') (h2 : ho (cq_scans nb (kx_swS s') x) (cx_scans nb (kx_swS s') x) (kx_swS s') b t') : (a = b) ∧ ro_RR m nb (kx_swS t') := by
  obtain ⟨e9, h9⟩ := rp_scans (ro_in2 h (rf_scans h1)) h1 h2
  exact ⟨e9, ro_out2 h9 (rf_scans h2)⟩
theorem ry_story {m nb : Nat} {sg s' t' : kx_S} {a b : Int32} {x : Int32} (h : ro_RR m nb sg) (h1 : ho (cq_story nb sg x) (cx_story nb sg x) sg a s') (h2 : ho (cq_story nb (kx_swS s') x) (cx_story nb (kx_swS s') x) (kx_swS s') b t') : (a = b) ∧ ro_RR m nb (kx_swS t') := by
  obtain ⟨e9, h9⟩ := rp_story (ro_in2 h (rf_story h1)) h1 h2
  exact ⟨e9, ro_out2 h9 (rf_story h2)⟩
theorem ry_storyOfAll {m nb : Nat} {sg s' t' : kx_S} {a b : Int32} {x : Int32} (h : ro_RR m nb sg) (h1 : ho (cq_storyOfAll nb sg x) (cx_storyOfAll nb sg x) sg a s') (h2 : ho (cq_storyOfAll nb (kx_swS s') x) (cx_storyOfAll nb (kx_swS s') x) (kx_swS s') b t') : (a = b) ∧ ro_RR m nb (kx_swS t') := by
  obtain ⟨e9, h9⟩ := rp_storyOfAll (ro_in2 h (rf_storyOfAll h1)) h1 h2
  exact ⟨e9, ro_out2 h9 (rf_storyOfAll h2)⟩
theorem ry_hasFee {m nb : Nat} {sg s' t' : kx_S} {a b : Int32} {x : Int32} (h : ro_RR m nb sg) (h1 : ho (cq_hasFee nb sg x) (cx_hasFee nb sg x) sg a s') (h2 : ho (cq_hasFee nb (kx_swS s') x) (cx_hasFee nb (kx_swS s') x) (kx_swS s') b t') : (a = b) ∧ ro_RR m nb (kx_swS t') := by
  obtain ⟨e9, h9⟩ := rp_hasFee (ro_in2 h (rf_hasFee h1)) h1 h2
  exact ⟨e9, ro_out2 h9 (rf_hasFee h2)⟩
theorem ry_isInsured {m nb : Nat} {sg s' t' : kx_S} {a b : Int32} {x : Int32} (h : ro_RR m nb sg) (h1 : ho (cq_isInsured nb sg x) (cx_isInsured nb sg x) sg a s') (h2 : ho (cq_isInsured nb (kx_swS s') x) (cx_isInsured nb (kx_swS s') x) (kx_swS s') b t') : (a = b) ∧ ro_RR m nb (kx_swS t') := by
  obtain ⟨e9, h9⟩ := rp_isInsured (ro_in2 h (rf_isInsured h1)) h1 h2
  exact ⟨e9, ro_out2 h9 (rf_isInsured h2)⟩
theorem ry_fine {m nb : Nat} {sg s' t' : kx_S} {a b : Int32} {x : Int32} (h : ro_RR m nb sg) (h1 : ho (cq_fine nb sg x) (cx_fine nb sg x) sg a s') (h2 : ho (cq_fine nb (kx_swS s') x) (cx_fine nb (kx_swS s') x) (kx_swS s') b t') : (a = b) ∧ ro_RR m nb (kx_swS t') := by
  obtain ⟨e9, h9⟩ := rp_fine (ro_in2 h (rf_fine h1)) h1 h2
  exact ⟨e9, ro_out2 h9 (rf_fine h2)⟩
theorem ry_isJammed {m nb : Nat} {sg s' t' : kx_S} {a b : Int32} {x : Int32} (h : ro_RR m nb sg) (h1 : ho (cq_isJammed nb sg x) (cx_isJammed nb sg x) sg a s') (h2 : ho (cq_isJammed nb (kx_swS s') x) (cx_isJammed nb (kx_swS s') x) (kx_swS s') b t') : (a = b) ∧ ro_RR m nb (kx_swS t') := by
  obtain ⟨e9, h9⟩ := rp_isJammed (ro_in2 h (rf_isJammed h1)) h1 h2
  exact ⟨e9, ro_out2 h9 (rf_isJammed h2)⟩
theorem ry_keptFor {m nb : Nat} {sg s' t' : kx_S} {a b : Int32} {x : Int32} (h : ro_RR m nb sg) (h1 : ho (cq_keptFor nb sg x) (cx_keptFor nb sg x) sg a s') (h2 : ho (cq_keptFor nb (kx_swS s') x) (cx_keptFor nb (kx_swS s') x) (kx_swS s') b t') : (a = b) ∧ ro_RR m nb (kx_swS t') := by
  obtain ⟨e9, h9⟩ := rp_keptFor (ro_in2 h (rf_keptFor h1)) h1 h2
  exact ⟨e9, ro_out2 h9 (rf_keptFor h2)⟩
theorem ry_placeOf {m nb : Nat} {sg s' t' : kx_S} {a b : Int32} {x : Int32} (h : ro_RR m nb sg) (h1 : ho (cq_placeOf nb sg x) (cx_placeOf nb sg x) sg a s') (h2 : ho (cq_placeOf nb (kx_swS s') x) (cx_placeOf nb (kx_swS s') x) (kx_swS s') b t') : (b = ro_p m a) ∧ ro_RR m nb (kx_swS t') := by
  obtain ⟨e9, h9⟩ := rp_placeOf (ro_in2 h (rf_placeOf h1)) h1 h2
  exact ⟨e9, ro_out2 h9 (rf_placeOf h2)⟩
theorem ry_lies {m nb : Nat} {sg s' t' : kx_S} {a b : Int32} {c : Nat} (h : ro_RR m nb sg) (hc : c < 14) (h1 : ho (cq_lies nb sg (nI c)) (cx_lies nb sg (nI c)) sg a s') (h2 : ho (cq_lies nb (kx_swS s') (nI (ro_s m c))) (cx_lies nb (kx_swS s') (nI (ro_s m c))) (kx_swS s') b t') : (a = b) ∧ ro_RR m nb (kx_swS t') := by
  obtain ⟨e9, h9⟩ := rp_lies (ro_in2 h (rf_lies h1)) hc h1 h2
  exact ⟨e9, ro_out2 h9 (rf_lies h2)⟩
theorem ry_fees {m nb : Nat} {sg s' t' : kx_S} {a b : Int32} {c : Nat} (h : ro_RR m nb sg) (hc : c < 4) (h1 : ho (cq_fees nb sg (nI c)) (cx_fees nb sg (nI c)) sg a s') (h2 : ho (cq_fees nb (kx_swS s') (nI (ro_s m c))) (cx_fees nb (kx_swS s') (nI (ro_s m c))) (kx_swS s') b t') : (a = b) ∧ ro_RR m nb (kx_swS t') := by
  obtain ⟨e9, h9⟩ := rp_fees (ro_in2 h (rf_fees h1)) hc h1 h2
  exact ⟨e9, ro_out2 h9 (rf_fees h2)⟩
