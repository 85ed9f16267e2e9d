theorem kx_cy0 {G : kx_G} {s : State} {cA : ClassId} (hK : va_K G.1 vwCl (kx_ty G.2) s) (h : va_K G.1 vwCl (kx_ty G.2 ++ [(cA, .int)]) s) : cA = G.2 0 := by
  have h1 : s.vm.findClass ("[" ++ (FieldType.int).toString) = some cA := (h.2 4 (cA, .int) rfl).2
  have h2 : s.vm.findClass ("[" ++ (FieldType.int).toString) = some (G.2 0) := (hK.2 0 (G.2 0, .int) rfl).2
  exact Option.some.inj (h1.symm.trans h2)


set_option maxHeartbeats 4000000 in
set_option maxRecDepth 100000 in
theorem k_X0_init (l : Launch) (G : kx_G) (h0 sz : Nat) (x y : Int32) : Met l yX0_init wsX0_init { frames := 1, cells := 4, slots := 48, locals := 20 } (va_Pc [.ref h0, .int x, .int y] (fun U => U.heap.size = sz ∧ va_P G.1 vwCl [(h0, .inr (0, [.int 0, .int 0, .null, .null, .null, .null, .int 0, .int 0, .int 0, .int 0, .int 0]))] U.heap ∧ va_K G.1 vwCl (kx_ty G.2) U ∧ va_D (fun _ => True) [(h0, .inr (0, [.int 0, .int 0, .null, .null, .null, .null, .int 0, .int 0, .int 0, .int 0, .int 0]))])) (va_Qv (fun _ : Nat × Nat × Nat × Nat => True) (fun u t => va_P G.1 vwCl ([(h0, .inr (0, [.int x, .int y, .ref u.1, .ref u.2.1, .ref u.2.2.1, .ref u.2.2.2, .int 0, .int 0, .int 0, .int 0, .int (-1)])), (u.1, .inl (G.2 0, 12, .inl (fun _ => 0))), (u.2.1, .inl (G.2 0, 12, .inl (fun _ => 0))), (u.2.2.1, .inl (G.2 0, 12, .inl (fun _ => 0))), (u.2.2.2, .inl (G.2 0, 12, .inl (fun _ => 0)))]) t.heap ∧ va_D (va_A [(h0, .inr (0, [.int 0, .int 0, .null, .null, .null, .null, .int 0, .int 0, .int 0, .int 0, .int 0]))] sz) ([(h0, .inr (0, [.int x, .int y, .ref u.1, .ref u.2.1, .ref u.2.2.1, .ref u.2.2.2, .int 0, .int 0, .int 0, .int 0, .int (-1)])), (u.1, .inl (G.2 0, 12, .inl (fun _ => 0))), (u.2.1, .inl (G.2 0, 12, .inl (fun _ => 0))), (u.2.2.1, .inl (G.2 0, 12, .inl (fun _ => 0))), (u.2.2.2, .inl (G.2 0, 12, .inl (fun _ => 0)))])) (va_A [(h0, .inr (0, [.int 0, .int 0, .null, .null, .null, .null, .int 0, .int 0, .int 0, .int 0, .int 0]))] sz)) 4 48 (va_A [(h0, .inr (0, [.int 0, .int 0, .null, .null, .null, .null, .int 0, .int 0, .int 0, .int 0, .int 0]))] sz) := by
  refine Met.ofW (cc := cX0_init) (maxL := 3) (ret := none) (by decide) rfl ?_
  intro p e s m args below meth c s₁ B hml hv
  obtain ⟨rfl, hsz, hP, hK, hD0⟩ := hv
  have hx := B.exec; have hb := B.bytes; have hr := B.returns; have hlocks := B.notSynchronized
  have hts := atoms_spec (ws := wsX0_init) B.pre
  have hown : s.vm.findClass RX0 = some m.cls := findClass_of_methodNamed B.named
  have hin : meth.name = "<init>" := (name_of_methodNamed B.named B.method).1
  subst hsz
  have hD := hD0.self (sz := s.heap.size)
  generalize hAe : va_A [(h0, .inr (0, [.int 0, .int 0, .null, .null, .null, .null, .int 0, .int 0, .int 0, .int 0, .int 0]))] s.heap.size = A at hD ⊢
  have hA : ∀ q : Nat, s.heap.size ≤ q → A q := fun q h => by rw [← hAe]; exact Or.inr h
  have hS : va_S A s.heap s.heap [] := va_S.rf
  have hP : va_P G.1 vwCl [(h0, .inr (0, [.int 0, .int 0, .null, .null, .null, .null, .int 0, .int 0, .int 0, .int 0, .int 0]))] s.heap := hP
  have hl := lv_entry ([.ref h0, .int x, .int y]) (n := 3) (Nat.le_of_ble_eq_true rfl)
  rw [lg_entry_eq]
  generalize (lg_sl ([.ref h0, .int x, .int y]) ++ List.replicate (3 - (lg_sl ([.ref h0, .int x, .int y])).length) Slot.unset).toArray = ls at hl ⊢
  have hl : lv_has ls 3 [(0, .ref h0), (1, .int x), (2, .int y)] := hl
  refine lv_aload_n hx hb dX0_init_0 rfl (lv_at hl 0 rfl) ?_
  refine W.objInit hx hb hown (hts (.methodLink RX0 3 objectInit) (by decide +kernel)) (hts (.instanceMethod objectInit) (by decide +kernel)) (hts (.code objectInit ⟨#[0xb1]⟩ 1 none) (by decide +kernel)) rfl (by rw [hml]; exact hl.1) rfl dX0_init_1 (Nat.le_of_ble_eq_true rfl) (Nat.le_of_ble_eq_true rfl) ?_
  refine W.eq (g2 := F0 m 4 ls []) rfl ?_
  refine lv_aload_n hx hb dX0_init_4 rfl (lv_at hl 0 rfl) ?_
  refine lv_bipush (v := 12) hx hb dX0_init_5 (by decide) ?_
  refine va_newa (atype := .int) (ty := .int) (a0 := (12, .inl (fun _ => 0))) hx hb (hts (.arrayClass .int) (by decide +kernel)) rfl hK hP hD hS hA (fun cA => rfl) (by decide) (N' := 12) rfl (by decide) (Nat.le_of_ble_eq_true rfl) (Nat.le_of_ble_eq_true rfl) dX0_init_7 (fun q7 cA H hK9 hP hD hS => ?_)
  obtain rfl : cA = G.2 0 := kx_cy0 hK hK9
  clear hK9
  have hP : va_P G.1 vwCl [(h0, .inr (0, [.int 0, .int 0, .null, .null, .null, .null, .int 0, .int 0, .int 0, .int 0, .int 0])), (q7, .inl (G.2 0, 12, .inl (fun _ => 0)))] H := hP
  have hD : va_D A [(h0, .inr (0, [.int 0, .int 0, .null, .null, .null, .null, .int 0, .int 0, .int 0, .int 0, .int 0])), (q7, .inl (G.2 0, 12, .inl (fun _ => 0)))] := hD
  refine W.widen (k := 1) (n := 12) (by omega) (by omega) ?_
  refine va_putF (D := G.1) (cl := vwCl) (ci := 0) (v := .ref q7) (C := RX0) (T := TX0) (N := 11) hx hb hts (by decide +kernel) tyX0 tyX0_ok nmX0 hown hK hP hD hS 0 rfl rfl 2 (by decide) (hts (.fieldLink RX0 9 (TX0 2).1 (TX0 2).2.1 (TX0 2).2.2.1) (by decide +kernel)) (fun _ h9 => h9) rfl hin rfl rfl rfl rfl (Nat.le_of_ble_eq_true rfl) dX0_init_9 (fun H locs hP hD hS => ?_)
  have hP : va_P G.1 vwCl [(h0, .inr (0, [.int 0, .int 0, .ref q7, .null, .null, .null, .int 0, .int 0, .int 0, .int 0, .int 0])), (q7, .inl (G.2 0, 12, .inl (fun _ => 0)))] H := hP
  have hD : va_D A [(h0, .inr (0, [.int 0, .int 0, .ref q7, .null, .null, .null, .int 0, .int 0, .int 0, .int 0, .int 0])), (q7, .inl (G.2 0, 12, .inl (fun _ => 0)))] := hD
  refine lv_aload_n hx hb dX0_init_12 rfl (lv_at hl 0 rfl) ?_
  refine lv_bipush (v := 12) hx hb dX0_init_13 (by decide) ?_
  refine va_newa (atype := .int) (ty := .int) (a0 := (12, .inl (fun _ => 0))) hx hb (hts (.arrayClass .int) (by decide +kernel)) rfl hK hP hD hS hA (fun cA => rfl) (by decide) (N' := 12) rfl (by decide) (Nat.le_of_ble_eq_true rfl) (Nat.le_of_ble_eq_true rfl) dX0_init_15 (fun q15 cA H hK9 hP hD hS => ?_)
  obtain rfl : cA = G.2 0 := kx_cy0 hK hK9
  clear hK9
  have hP : va_P G.1 vwCl [(h0, .inr (0, [.int 0, .int 0, .ref q7, .null, .null, .null, .int 0, .int 0, .int 0, .int 0, .int 0])), (q7, .inl (G.2 0, 12, .inl (fun _ => 0))), (q15, .inl (G.2 0, 12, .inl (fun _ => 0)))] H := hP
  have hD : va_D A [(h0, .inr (0, [.int 0, .int 0, .ref q7, .null, .null, .null, .int 0, .int 0, .int 0, .int 0, .int 0])), (q7, .inl (G.2 0, 12, .inl (fun _ => 0))), (q15, .inl (G.2 0, 12, .inl (fun _ => 0)))] := hD
  refine W.widen (k := 2) (n := 24) (by omega) (by omega) ?_
  refine va_putF (D := G.1) (cl := vwCl) (ci := 0) (v := .ref q15) (C := RX0) (T := TX0) (N := 11) hx hb hts (by decide +kernel) tyX0 tyX0_ok nmX0 hown hK hP hD hS 0 rfl rfl 3 (by decide) (hts (.fieldLink RX0 15 (TX0 3).1 (TX0 3).2.1 (TX0 3).2.2.1) (by decide +kernel)) (fun _ h9 => h9) rfl hin rfl rfl rfl rfl (Nat.le_of_ble_eq_true rfl) dX0_init_17 (fun H locs hP hD hS => ?_)
  have hP : va_P G.1 vwCl [(h0, .inr (0, [.int 0, .int 0, .ref q7, .ref q15, .null, .null, .int 0, .int 0, .int 0, .int 0, .int 0])), (q7, .inl (G.2 0, 12, .inl (fun _ => 0))), (q15, .inl (G.2 0, 12, .inl (fun _ => 0)))] H := hP
  have hD : va_D A [(h0, .inr (0, [.int 0, .int 0, .ref q7, .ref q15, .null, .null, .int 0, .int 0, .int 0, .int 0, .int 0])), (q7, .inl (G.2 0, 12, .inl (fun _ => 0))), (q15, .inl (G.2 0, 12, .inl (fun _ => 0)))] := hD
  refine lv_aload_n hx hb dX0_init_20 rfl (lv_at hl 0 rfl) ?_
  refine lv_bipush (v := 12) hx hb dX0_init_21 (by decide) ?_
  refine va_newa (atype := .int) (ty := .int) (a0 := (12, .inl (fun _ => 0))) hx hb (hts (.arrayClass .int) (by decide +kernel)) rfl hK hP hD hS hA (fun cA => rfl) (by decide) (N' := 12) rfl (by decide) (Nat.le_of_ble_eq_true rfl) (Nat.le_of_ble_eq_true rfl) dX0_init_23 (fun q23 cA H hK9 hP hD hS => ?_)
  obtain rfl : cA = G.2 0 := kx_cy0 hK hK9
  clear hK9
  have hP : va_P G.1 vwCl [(h0, .inr (0, [.int 0, .int 0, .ref q7, .ref q15, .null, .null, .int 0, .int 0, .int 0, .int 0, .int 0])), (q7, .inl (G.2 0, 12, .inl (fun _ => 0))), (q15, .inl (G.2 0, 12, .inl (fun _ => 0))), (q23, .inl (G.2 0, 12, .inl (fun _ => 0)))] H := hP
  have hD : va_D A [(h0, .inr (0, [.int 0, .int 0, .ref q7, .ref q15, .null, .null, .int 0, .int 0, .int 0, .int 0, .int 0])), (q7, .inl (G.2 0, 12, .inl (fun _ => 0))), (q15, .inl (G.2 0, 12, .inl (fun _ => 0))), (q23, .inl (G.2 0, 12, .inl (fun _ => 0)))] := hD
  refine W.widen (k := 3) (n := 36) (by omega) (by omega) ?_
  refine va_putF (D := G.1) (cl := vwCl) (ci := 0) (v := .ref q23) (C := RX0) (T := TX0) (N := 11) hx hb hts (by decide +kernel) tyX0 tyX0_ok nmX0 hown hK hP hD hS 0 rfl rfl 4 (by decide) (hts (.fieldLink RX0 18 (TX0 4).1 (TX0 4).2.1 (TX0 4).2.2.1) (by decide +kernel)) (fun _ h9 => h9) rfl hin rfl rfl rfl rfl (Nat.le_of_ble_eq_true rfl) dX0_init_25 (fun H locs hP hD hS => ?_)
  have hP : va_P G.1 vwCl [(h0, .inr (0, [.int 0, .int 0, .ref q7, .ref q15, .ref q23, .null, .int 0, .int 0, .int 0, .int 0, .int 0])), (q7, .inl (G.2 0, 12, .inl (fun _ => 0))), (q15, .inl (G.2 0, 12, .inl (fun _ => 0))), (q23, .inl (G.2 0, 12, .inl (fun _ => 0)))] H := hP
  have hD : va_D A [(h0, .inr (0, [.int 0, .int 0, .ref q7, .ref q15, .ref q23, .null, .int 0, .int 0, .int 0, .int 0, .int 0])), (q7, .inl (G.2 0, 12, .inl (fun _ => 0))), (q15, .inl (G.2 0, 12, .inl (fun _ => 0))), (q23, .inl (G.2 0, 12, .inl (fun _ => 0)))] := hD
  refine lv_aload_n hx hb dX0_init_28 rfl (lv_at hl 0 rfl) ?_
  refine lv_bipush (v := 12) hx hb dX0_init_29 (by decide) ?_
  refine va_newa (atype := .int) (ty := .int) (a0 := (12, .inl (fun _ => 0))) hx hb (hts (.arrayClass .int) (by decide +kernel)) rfl hK hP hD hS hA (fun cA => rfl) (by decide) (N' := 12) rfl (by decide) (Nat.le_of_ble_eq_true rfl) (Nat.le_of_ble_eq_true rfl) dX0_init_31 (fun q31 cA H hK9 hP hD hS => ?_)
  obtain rfl : cA = G.2 0 := kx_cy0 hK hK9
  clear hK9
  have hP : va_P G.1 vwCl [(h0, .inr (0, [.int 0, .int 0, .ref q7, .ref q15, .ref q23, .null, .int 0, .int 0, .int 0, .int 0, .int 0])), (q7, .inl (G.2 0, 12, .inl (fun _ => 0))), (q15, .inl (G.2 0, 12, .inl (fun _ => 0))), (q23, .inl (G.2 0, 12, .inl (fun _ => 0))), (q31, .inl (G.2 0, 12, .inl (fun _ => 0)))] H := hP
  have hD : va_D A [(h0, .inr (0, [.int 0, .int 0, .ref q7, .ref q15, .ref q23, .null, .int 0, .int 0, .int 0, .int 0, .int 0])), (q7, .inl (G.2 0, 12, .inl (fun _ => 0))), (q15, .inl (G.2 0, 12, .inl (fun _ => 0))), (q23, .inl (G.2 0, 12, .inl (fun _ => 0))), (q31, .inl (G.2 0, 12, .inl (fun _ => 0)))] := hD
  refine W.widen (k := 4) (n := 48) (by omega) (by omega) ?_
  refine va_putF (D := G.1) (cl := vwCl) (ci := 0) (v := .ref q31) (C := RX0) (T := TX0) (N := 11) hx hb hts (by decide +kernel) tyX0 tyX0_ok nmX0 hown hK hP hD hS 0 rfl rfl 5 (by decide) (hts (.fieldLink RX0 21 (TX0 5).1 (TX0 5).2.1 (TX0 5).2.2.1) (by decide +kernel)) (fun _ h9 => h9) rfl hin rfl rfl rfl rfl (Nat.le_of_ble_eq_true rfl) dX0_init_33 (fun H locs hP hD hS => ?_)
  have hP : va_P G.1 vwCl [(h0, .inr (0, [.int 0, .int 0, .ref q7, .ref q15, .ref q23, .ref q31, .int 0, .int 0, .int 0, .int 0, .int 0])), (q7, .inl (G.2 0, 12, .inl (fun _ => 0))), (q15, .inl (G.2 0, 12, .inl (fun _ => 0))), (q23, .inl (G.2 0, 12, .inl (fun _ => 0))), (q31, .inl (G.2 0, 12, .inl (fun _ => 0)))] H := hP
  have hD : va_D A [(h0, .inr (0, [.int 0, .int 0, .ref q7, .ref q15, .ref q23, .ref q31, .int 0, .int 0, .int 0, .int 0, .int 0])), (q7, .inl (G.2 0, 12, .inl (fun _ => 0))), (q15, .inl (G.2 0, 12, .inl (fun _ => 0))), (q23, .inl (G.2 0, 12, .inl (fun _ => 0))), (q31, .inl (G.2 0, 12, .inl (fun _ => 0)))] := hD
  refine lv_aload_n hx hb dX0_init_36 rfl (lv_at hl 0 rfl) ?_
  refine lv_iconst (v := 0) hx hb dX0_init_37 (by decide) ?_
  refine va_put (D := G.1) (cl := vwCl) (ci := 0) (v := .int 0) (C := RX0) (T := TX0) (N := 11) hx hb hts (by decide +kernel) tyX0 tyX0_ok nmX0 hown hK hP hD hS 0 rfl rfl 6 (by decide) (hts (.fieldLink RX0 24 (TX0 6).1 (TX0 6).2.1 (TX0 6).2.2.1) (by decide +kernel)) (fun _ h9 => h9) rfl rfl rfl rfl (Nat.le_of_ble_eq_true rfl) dX0_init_38 (fun H locs hP hD hS => ?_)
  have hP : va_P G.1 vwCl [(h0, .inr (0, [.int 0, .int 0, .ref q7, .ref q15, .ref q23, .ref q31, .int 0, .int 0, .int 0, .int 0, .int 0])), (q7, .inl (G.2 0, 12, .inl (fun _ => 0))), (q15, .inl (G.2 0, 12, .inl (fun _ => 0))), (q23, .inl (G.2 0, 12, .inl (fun _ => 0))), (q31, .inl (G.2 0, 12, .inl (fun _ => 0)))] H := hP
  have hD : va_D A [(h0, .inr (0, [.int 0, .int 0, .ref q7, .ref q15, .ref q23, .ref q31, .int 0, .int 0, .int 0, .int 0, .int 0])), (q7, .inl (G.2 0, 12, .inl (fun _ => 0))), (q15, .inl (G.2 0, 12, .inl (fun _ => 0))), (q23, .inl (G.2 0, 12, .inl (fun _ => 0))), (q31, .inl (G.2 0, 12, .inl (fun _ => 0)))] := hD
  refine lv_aload_n hx hb dX0_init_41 rfl (lv_at hl 0 rfl) ?_
  refine lv_iconst (v := 0) hx hb dX0_init_42 (by decide) ?_
  refine va_put (D := G.1) (cl := vwCl) (ci := 0) (v := .int 0) (C := RX0) (T := TX0) (N := 11) hx hb hts (by decide +kernel) tyX0 tyX0_ok nmX0 hown hK hP hD hS 0 rfl rfl 7 (by decide) (hts (.fieldLink RX0 28 (TX0 7).1 (TX0 7).2.1 (TX0 7).2.2.1) (by decide +kernel)) (fun _ h9 => h9) rfl rfl rfl rfl (Nat.le_of_ble_eq_true rfl) dX0_init_43 (fun H locs hP hD hS => ?_)
  have hP : va_P G.1 vwCl [(h0, .inr (0, [.int 0, .int 0, .ref q7, .ref q15, .ref q23, .ref q31, .int 0, .int 0, .int 0, .int 0, .int 0])), (q7, .inl (G.2 0, 12, .inl (fun _ => 0))), (q15, .inl (G.2 0, 12, .inl (fun _ => 0))), (q23, .inl (G.2 0, 12, .inl (fun _ => 0))), (q31, .inl (G.2 0, 12, .inl (fun _ => 0)))] H := hP
  have hD : va_D A [(h0, .inr (0, [.int 0, .int 0, .ref q7, .ref q15, .ref q23, .ref q31, .int 0, .int 0, .int 0, .int 0, .int 0])), (q7, .inl (G.2 0, 12, .inl (fun _ => 0))), (q15, .inl (G.2 0, 12, .inl (fun _ => 0))), (q23, .inl (G.2 0, 12, .inl (fun _ => 0))), (q31, .inl (G.2 0, 12, .inl (fun _ => 0)))] := hD
  refine lv_aload_n hx hb dX0_init_46 rfl (lv_at hl 0 rfl) ?_
  refine lv_iconst (v := 0) hx hb dX0_init_47 (by decide) ?_
  refine va_put (D := G.1) (cl := vwCl) (ci := 0) (v := .int 0) (C := RX0) (T := TX0) (N := 11) hx hb hts (by decide +kernel) tyX0 tyX0_ok nmX0 hown hK hP hD hS 0 rfl rfl 8 (by decide) (hts (.fieldLink RX0 31 (TX0 8).1 (TX0 8).2.1 (TX0 8).2.2.1) (by decide +kernel)) (fun _ h9 => h9) rfl rfl rfl rfl (Nat.le_of_ble_eq_true rfl) dX0_init_48 (fun H locs hP hD hS => ?_)
  have hP : va_P G.1 vwCl [(h0, .inr (0, [.int 0, .int 0, .ref q7, .ref q15, .ref q23, .ref q31, .int 0, .int 0, .int 0, .int 0, .int 0])), (q7, .inl (G.2 0, 12, .inl (fun _ => 0))), (q15, .inl (G.2 0, 12, .inl (fun _ => 0))), (q23, .inl (G.2 0, 12, .inl (fun _ => 0))), (q31, .inl (G.2 0, 12, .inl (fun _ => 0)))] H := hP
  have hD : va_D A [(h0, .inr (0, [.int 0, .int 0, .ref q7, .ref q15, .ref q23, .ref q31, .int 0, .int 0, .int 0, .int 0, .int 0])), (q7, .inl (G.2 0, 12, .inl (fun _ => 0))), (q15, .inl (G.2 0, 12, .inl (fun _ => 0))), (q23, .inl (G.2 0, 12, .inl (fun _ => 0))), (q31, .inl (G.2 0, 12, .inl (fun _ => 0)))] := hD
  refine lv_aload_n hx hb dX0_init_51 rfl (lv_at hl 0 rfl) ?_
  refine lv_iconst (v := 0) hx hb dX0_init_52 (by decide) ?_
  refine va_put (D := G.1) (cl := vwCl) (ci := 0) (v := .int 0) (C := RX0) (T := TX0) (N := 11) hx hb hts (by decide +kernel) tyX0 tyX0_ok nmX0 hown hK hP hD hS 0 rfl rfl 9 (by decide) (hts (.fieldLink RX0 35 (TX0 9).1 (TX0 9).2.1 (TX0 9).2.2.1) (by decide +kernel)) (fun _ h9 => h9) rfl rfl rfl rfl (Nat.le_of_ble_eq_true rfl) dX0_init_53 (fun H locs hP hD hS => ?_)
  have hP : va_P G.1 vwCl [(h0, .inr (0, [.int 0, .int 0, .ref q7, .ref q15, .ref q23, .ref q31, .int 0, .int 0, .int 0, .int 0, .int 0])), (q7, .inl (G.2 0, 12, .inl (fun _ => 0))), (q15, .inl (G.2 0, 12, .inl (fun _ => 0))), (q23, .inl (G.2 0, 12, .inl (fun _ => 0))), (q31, .inl (G.2 0, 12, .inl (fun _ => 0)))] H := hP
  have hD : va_D A [(h0, .inr (0, [.int 0, .int 0, .ref q7, .ref q15, .ref q23, .ref q31, .int 0, .int 0, .int 0, .int 0, .int 0])), (q7, .inl (G.2 0, 12, .inl (fun _ => 0))), (q15, .inl (G.2 0, 12, .inl (fun _ => 0))), (q23, .inl (G.2 0, 12, .inl (fun _ => 0))), (q31, .inl (G.2 0, 12, .inl (fun _ => 0)))] := hD
  refine lv_aload_n hx hb dX0_init_56 rfl (lv_at hl 0 rfl) ?_
  refine lv_iconst (v := (-1)) hx hb dX0_init_57 (by decide) ?_
  refine va_put (D := G.1) (cl := vwCl) (ci := 0) (v := .int (-1)) (C := RX0) (T := TX0) (N := 11) hx hb hts (by decide +kernel) tyX0 tyX0_ok nmX0 hown hK hP hD hS 0 rfl rfl 10 (by decide) (hts (.fieldLink RX0 38 (TX0 10).1 (TX0 10).2.1 (TX0 10).2.2.1) (by decide +kernel)) (fun _ h9 => h9) rfl rfl rfl rfl (Nat.le_of_ble_eq_true rfl) dX0_init_58 (fun H locs hP hD hS => ?_)
  have hP : va_P G.1 vwCl [(h0, .inr (0, [.int 0, .int 0, .ref q7, .ref q15, .ref q23, .ref q31, .int 0, .int 0, .int 0, .int 0, .int (-1)])), (q7, .inl (G.2 0, 12, .inl (fun _ => 0))), (q15, .inl (G.2 0, 12, .inl (fun _ => 0))), (q23, .inl (G.2 0, 12, .inl (fun _ => 0))), (q31, .inl (G.2 0, 12, .inl (fun _ => 0)))] H := hP
  have hD : va_D A [(h0, .inr (0, [.int 0, .int 0, .ref q7, .ref q15, .ref q23, .ref q31, .int 0, .int 0, .int 0, .int 0, .int (-1)])), (q7, .inl (G.2 0, 12, .inl (fun _ => 0))), (q15, .inl (G.2 0, 12, .inl (fun _ => 0))), (q23, .inl (G.2 0, 12, .inl (fun _ => 0))), (q31, .inl (G.2 0, 12, .inl (fun _ => 0)))] := hD
  refine lv_aload_n hx hb dX0_init_61 rfl (lv_at hl 0 rfl) ?_
  refine lv_iload_n hx hb dX0_init_62 rfl (lv_at hl 1 rfl) ?_
  refine va_putF (D := G.1) (cl := vwCl) (ci := 0) (v := .int x) (C := RX0) (T := TX0) (N := 11) hx hb hts (by decide +kernel) tyX0 tyX0_ok nmX0 hown hK hP hD hS 0 rfl rfl 0 (by decide) (hts (.fieldLink RX0 41 (TX0 0).1 (TX0 0).2.1 (TX0 0).2.2.1) (by decide +kernel)) (fun _ h9 => h9) rfl hin rfl rfl rfl rfl (Nat.le_of_ble_eq_true rfl) dX0_init_63 (fun H locs hP hD hS => ?_)
  have hP : va_P G.1 vwCl [(h0, .inr (0, [.int x, .int 0, .ref q7, .ref q15, .ref q23, .ref q31, .int 0, .int 0, .int 0, .int 0, .int (-1)])), (q7, .inl (G.2 0, 12, .inl (fun _ => 0))), (q15, .inl (G.2 0, 12, .inl (fun _ => 0))), (q23, .inl (G.2 0, 12, .inl (fun _ => 0))), (q31, .inl (G.2 0, 12, .inl (fun _ => 0)))] H := hP
  have hD : va_D A [(h0, .inr (0, [.int x, .int 0, .ref q7, .ref q15, .ref q23, .ref q31, .int 0, .int 0, .int 0, .int 0, .int (-1)])), (q7, .inl (G.2 0, 12, .inl (fun _ => 0))), (q15, .inl (G.2 0, 12, .inl (fun _ => 0))), (q23, .inl (G.2 0, 12, .inl (fun _ => 0))), (q31, .inl (G.2 0, 12, .inl (fun _ => 0)))] := hD
  refine lv_aload_n hx hb dX0_init_66 rfl (lv_at hl 0 rfl) ?_
  refine lv_iload_n hx hb dX0_init_67 rfl (lv_at hl 2 rfl) ?_
  refine va_putF (D := G.1) (cl := vwCl) (ci := 0) (v := .int y) (C := RX0) (T := TX0) (N := 11) hx hb hts (by decide +kernel) tyX0 tyX0_ok nmX0 hown hK hP hD hS 0 rfl rfl 1 (by decide) (hts (.fieldLink RX0 44 (TX0 1).1 (TX0 1).2.1 (TX0 1).2.2.1) (by decide +kernel)) (fun _ h9 => h9) rfl hin rfl rfl rfl rfl (Nat.le_of_ble_eq_true rfl) dX0_init_68 (fun H locs hP hD hS => ?_)
  have hP : va_P G.1 vwCl [(h0, .inr (0, [.int x, .int y, .ref q7, .ref q15, .ref q23, .ref q31, .int 0, .int 0, .int 0, .int 0, .int (-1)])), (q7, .inl (G.2 0, 12, .inl (fun _ => 0))), (q15, .inl (G.2 0, 12, .inl (fun _ => 0))), (q23, .inl (G.2 0, 12, .inl (fun _ => 0))), (q31, .inl (G.2 0, 12, .inl (fun _ => 0)))] H := hP
  have hD : va_D A [(h0, .inr (0, [.int x, .int y, .ref q7, .ref q15, .ref q23, .ref q31, .int 0, .int 0, .int 0, .int 0, .int (-1)])), (q7, .inl (G.2 0, 12, .inl (fun _ => 0))), (q15, .inl (G.2 0, 12, .inl (fun _ => 0))), (q23, .inl (G.2 0, 12, .inl (fun _ => 0))), (q31, .inl (G.2 0, 12, .inl (fun _ => 0)))] := hD
  subst hAe
  exact W.widen (by omega) (by omega) (W.vret hx hb hr (fun t ht hW => ⟨⟨(q7, q15, q23, q31), rfl, trivial, by rw [ht]; exact hP, hD⟩, hS.F ht⟩) hS.2.2 dX0_init_71)

set_option maxHeartbeats 4000000 in
set_option maxRecDepth 100000 in
theorem k_X1_init (l : Launch) (G : kx_G) (h0 sz : Nat) : Met l yX1_init wsX1_init { frames := 1, cells := 0, slots := 0, locals := 20 } (va_Pc [.ref h0] (fun U => U.heap.size = sz ∧ va_P G.1 vwCl [(h0, .inr (1, [.int 0, .int 0, .int 0, .int 0, .int 0]))] U.heap ∧ va_K G.1 vwCl (kx_ty G.2) U ∧ va_D (fun _ => True) [(h0, .inr (1, [.int 0, .int 0, .int 0, .int 0, .int 0]))])) (va_Qv (fun _ : Unit => True) (fun u t => va_P G.1 vwCl ([(h0, .inr (1, [.int 3, .int 0, .int (-1), .int 0, .int 0]))]) t.heap ∧ va_D (va_A [(h0, .inr (1, [.int 0, .int 0, .int 0, .int 0, .int 0]))] sz) ([(h0, .inr (1, [.int 3, .int 0, .int (-1), .int 0, .int 0]))])) (va_A [(h0, .inr (1, [.int 0, .int 0, .int 0, .int 0, .int 0]))] sz)) 0 0 (va_A [(h0, .inr (1, [.int 0, .int 0, .int 0, .int 0, .int 0]))] sz) := by
  refine Met.ofW (cc := cX1_init) (maxL := 1) (ret := none) (by decide) rfl ?_
  intro p e s m args below meth c s₁ B hml hv
  obtain ⟨rfl, hsz, hP, hK, hD0⟩ := hv
  have hx := B.exec; have hb := B.bytes; have hr := B.returns; have hlocks := B.notSynchronized
  have hts := atoms_spec (ws := wsX1_init) B.pre
  have hown : s.vm.findClass RX1 = some m.cls := findClass_of_methodNamed B.named
  have hin : meth.name = "<init>" := (name_of_methodNamed B.named B.method).1
  subst hsz
  have hD := hD0.self (sz := s.heap.size)
  generalize hAe : va_A [(h0, .inr (1, [.int 0, .int 0, .int 0, .int 0, .int 0]))] s.heap.size = A at hD ⊢
  have hA : ∀ q : Nat, s.heap.size ≤ q → A q := fun q h => by rw [← hAe]; exact Or.inr h
  have hS : va_S A s.heap s.heap [] := va_S.rf
  have hP : va_P G.1 vwCl [(h0, .inr (1, [.int 0, .int 0, .int 0, .int 0, .int 0]))] s.heap := hP
  have hl := lv_entry ([.ref h0]) (n := 1) (Nat.le_of_ble_eq_true rfl)
  rw [lg_entry_eq]
  generalize (lg_sl ([.ref h0]) ++ List.replicate (1 - (lg_sl ([.ref h0])).length) Slot.unset).toArray = ls at hl ⊢
  have hl : lv_has ls 1 [(0, .ref h0)] := hl
  refine lv_aload_n hx hb dX1_init_0 rfl (lv_at hl 0 rfl) ?_
  refine W.objInit hx hb hown (hts (.methodLink RX1 3 objectInit) (by decide +kernel)) (hts (.instanceMethod objectInit) (by decide +kernel)) (hts (.code objectInit ⟨#[0xb1]⟩ 1 none) (by decide +kernel)) rfl (by rw [hml]; exact hl.1) rfl dX1_init_1 (Nat.le_of_ble_eq_true rfl) (Nat.le_of_ble_eq_true rfl) ?_
  refine W.eq (g2 := F0 m 4 ls []) rfl ?_
  refine lv_aload_n hx hb dX1_init_4 rfl (lv_at hl 0 rfl) ?_
  refine lv_iconst (v := 3) hx hb dX1_init_5 (by decide) ?_
  refine va_put (D := G.1) (cl := vwCl) (ci := 1) (v := .int 3) (C := RX1) (T := TX1) (N := 5) hx hb hts (by decide +kernel) tyX1 tyX1_ok nmX1 hown hK hP hD hS 0 rfl rfl 0 (by decide) (hts (.fieldLink RX1 9 (TX1 0).1 (TX1 0).2.1 (TX1 0).2.2.1) (by decide +kernel)) (fun _ h9 => h9) rfl rfl rfl rfl (Nat.le_of_ble_eq_true rfl) dX1_init_6 (fun H locs hP hD hS => ?_)
  have hP : va_P G.1 vwCl [(h0, .inr (1, [.int 3, .int 0, .int 0, .int 0, .int 0]))] H := hP
  have hD : va_D A [(h0, .inr (1, [.int 3, .int 0, .int 0, .int 0, .int 0]))] := hD
  refine lv_aload_n hx hb dX1_init_9 rfl (lv_at hl 0 rfl) ?_
  refine lv_iconst (v := 0) hx hb dX1_init_10 (by decide) ?_
  refine va_put (D := G.1) (cl := vwCl) (ci := 1) (v := .int 0) (C := RX1) (T := TX1) (N := 5) hx hb hts (by decide +kernel) tyX1 tyX1_ok nmX1 hown hK hP hD hS 0 rfl rfl 1 (by decide) (hts (.fieldLink RX1 15 (TX1 1).1 (TX1 1).2.1 (TX1 1).2.2.1) (by decide +kernel)) (fun _ h9 => h9) rfl rfl rfl rfl (Nat.le_of_ble_eq_true rfl) dX1_init_11 (fun H locs hP hD hS => ?_)
  have hP : va_P G.1 vwCl [(h0, .inr (1, [.int 3, .int 0, .int 0, .int 0, .int 0]))] H := hP
  have hD : va_D A [(h0, .inr (1, [.int 3, .int 0, .int 0, .int 0, .int 0]))] := hD
  refine lv_aload_n hx hb dX1_init_14 rfl (lv_at hl 0 rfl) ?_
  refine lv_iconst (v := (-1)) hx hb dX1_init_15 (by decide) ?_
  refine va_put (D := G.1) (cl := vwCl) (ci := 1) (v := .int (-1)) (C := RX1) (T := TX1) (N := 5) hx hb hts (by decide +kernel) tyX1 tyX1_ok nmX1 hown hK hP hD hS 0 rfl rfl 2 (by decide) (hts (.fieldLink RX1 19 (TX1 2).1 (TX1 2).2.1 (TX1 2).2.2.1) (by decide +kernel)) (fun _ h9 => h9) rfl rfl rfl rfl (Nat.le_of_ble_eq_true rfl) dX1_init_16 (fun H locs hP hD hS => ?_)
  have hP : va_P G.1 vwCl [(h0, .inr (1, [.int 3, .int 0, .int (-1), .int 0, .int 0]))] H := hP
  have hD : va_D A [(h0, .inr (1, [.int 3, .int 0, .int (-1), .int 0, .int 0]))] := hD
  refine lv_aload_n hx hb dX1_init_19 rfl (lv_at hl 0 rfl) ?_
  refine lv_iconst (v := 0) hx hb dX1_init_20 (by decide) ?_
  refine va_put (D := G.1) (cl := vwCl) (ci := 1) (v := .int 0) (C := RX1) (T := TX1) (N := 5) hx hb hts (by decide +kernel) tyX1 tyX1_ok nmX1 hown hK hP hD hS 0 rfl rfl 3 (by decide) (hts (.fieldLink RX1 22 (TX1 3).1 (TX1 3).2.1 (TX1 3).2.2.1) (by decide +kernel)) (fun _ h9 => h9) rfl rfl rfl rfl (Nat.le_of_ble_eq_true rfl) dX1_init_21 (fun H locs hP hD hS => ?_)
  have hP : va_P G.1 vwCl [(h0, .inr (1, [.int 3, .int 0, .int (-1), .int 0, .int 0]))] H := hP
  have hD : va_D A [(h0, .inr (1, [.int 3, .int 0, .int (-1), .int 0, .int 0]))] := hD
  refine lv_aload_n hx hb dX1_init_24 rfl (lv_at hl 0 rfl) ?_
  refine lv_iconst (v := 0) hx hb dX1_init_25 (by decide) ?_
  refine va_put (D := G.1) (cl := vwCl) (ci := 1) (v := .int 0) (C := RX1) (T := TX1) (N := 5) hx hb hts (by decide +kernel) tyX1 tyX1_ok nmX1 hown hK hP hD hS 0 rfl rfl 4 (by decide) (hts (.fieldLink RX1 25 (TX1 4).1 (TX1 4).2.1 (TX1 4).2.2.1) (by decide +kernel)) (fun _ h9 => h9) rfl rfl rfl rfl (Nat.le_of_ble_eq_true rfl) dX1_init_26 (fun H locs hP hD hS => ?_)
  have hP : va_P G.1 vwCl [(h0, .inr (1, [.int 3, .int 0, .int (-1), .int 0, .int 0]))] H := hP
  have hD : va_D A [(h0, .inr (1, [.int 3, .int 0, .int (-1), .int 0, .int 0]))] := hD
  subst hAe
  exact W.widen (by omega) (by omega) (W.vret hx hb hr (fun t ht hW => ⟨⟨(), rfl, trivial, by rw [ht]; exact hP, hD⟩, hS.F ht⟩) hS.2.2 dX1_init_29)

set_option maxHeartbeats 4000000 in
set_option maxRecDepth 100000 in
theorem k_X2_init (l : Launch) (G : kx_G) (h0 sz : Nat) : Met l yX2_init wsX2_init { frames := 1, cells := 1, slots := 4, locals := 20 } (va_Pc [.ref h0] (fun U => U.heap.size = sz ∧ va_P G.1 vwCl [(h0, .inr (2, [.null, .int 0, .int 0]))] U.heap ∧ va_K G.1 vwCl (kx_ty G.2) U ∧ va_D (fun _ => True) [(h0, .inr (2, [.null, .int 0, .int 0]))])) (va_Qv (fun _ : Nat => True) (fun u t => va_P G.1 vwCl ([(h0, .inr (2, [.ref u, .int 0, .int 0])), (u, .inl (G.2 0, 4, .inl (fun _ => 0)))]) t.heap ∧ va_D (va_A [(h0, .inr (2, [.null, .int 0, .int 0]))] sz) ([(h0, .inr (2, [.ref u, .int 0, .int 0])), (u, .inl (G.2 0, 4, .inl (fun _ => 0)))])) (va_A [(h0, .inr (2, [.null, .int 0, .int 0]))] sz)) 1 4 (va_A [(h0, .inr (2, [.null, .int 0, .int 0]))] sz) := by
  refine Met.ofW (cc := cX2_init) (maxL := 1) (ret := none) (by decide) rfl ?_
  intro p e s m args below meth c s₁ B hml hv
  obtain ⟨rfl, hsz, hP, hK, hD0⟩ := hv
  have hx := B.exec; have hb := B.bytes; have hr := B.returns; have hlocks := B.notSynchronized
  have hts := atoms_spec (ws := wsX2_init) B.pre
  have hown : s.vm.findClass RX2 = some m.cls := findClass_of_methodNamed B.named
  have hin : meth.name = "<init>" := (name_of_methodNamed B.named B.method).1
  subst hsz
  have hD := hD0.self (sz := s.heap.size)
  generalize hAe : va_A [(h0, .inr (2, [.null, .int 0, .int 0]))] s.heap.size = A at hD ⊢
  have hA : ∀ q : Nat, s.heap.size ≤ q → A q := fun q h => by rw [← hAe]; exact Or.inr h
  have hS : va_S A s.heap s.heap [] := va_S.rf
  have hP : va_P G.1 vwCl [(h0, .inr (2, [.null, .int 0, .int 0]))] s.heap := hP
  have hl := lv_entry ([.ref h0]) (n := 1) (Nat.le_of_ble_eq_true rfl)
  rw [lg_entry_eq]
  generalize (lg_sl ([.ref h0]) ++ List.replicate (1 - (lg_sl ([.ref h0])).length) Slot.unset).toArray = ls at hl ⊢
  have hl : lv_has ls 1 [(0, .ref h0)] := hl
  refine lv_aload_n hx hb dX2_init_0 rfl (lv_at hl 0 rfl) ?_
  refine W.objInit hx hb hown (hts (.methodLink RX2 3 objectInit) (by decide +kernel)) (hts (.instanceMethod objectInit) (by decide +kernel)) (hts (.code objectInit ⟨#[0xb1]⟩ 1 none) (by decide +kernel)) rfl (by rw [hml]; exact hl.1) rfl dX2_init_1 (Nat.le_of_ble_eq_true rfl) (Nat.le_of_ble_eq_true rfl) ?_
  refine W.eq (g2 := F0 m 4 ls []) rfl ?_
  refine lv_aload_n hx hb dX2_init_4 rfl (lv_at hl 0 rfl) ?_
  refine lv_iconst (v := 4) hx hb dX2_init_5 (by decide) ?_
  refine va_newa (atype := .int) (ty := .int) (a0 := (4, .inl (fun _ => 0))) hx hb (hts (.arrayClass .int) (by decide +kernel)) rfl hK hP hD hS hA (fun cA => rfl) (by decide) (N' := 4) rfl (by decide) (Nat.le_of_ble_eq_true rfl) (Nat.le_of_ble_eq_true rfl) dX2_init_6 (fun q6 cA H hK9 hP hD hS => ?_)
  obtain rfl : cA = G.2 0 := kx_cy0 hK hK9
  clear hK9
  have hP : va_P G.1 vwCl [(h0, .inr (2, [.null, .int 0, .int 0])), (q6, .inl (G.2 0, 4, .inl (fun _ => 0)))] H := hP
  have hD : va_D A [(h0, .inr (2, [.null, .int 0, .int 0])), (q6, .inl (G.2 0, 4, .inl (fun _ => 0)))] := hD
  refine W.widen (k := 1) (n := 4) (by omega) (by omega) ?_
  refine va_putF (D := G.1) (cl := vwCl) (ci := 2) (v := .ref q6) (C := RX2) (T := TX2) (N := 3) hx hb hts (by decide +kernel) tyX2 tyX2_ok nmX2 hown hK hP hD hS 0 rfl rfl 0 (by decide) (hts (.fieldLink RX2 9 (TX2 0).1 (TX2 0).2.1 (TX2 0).2.2.1) (by decide +kernel)) (fun _ h9 => h9) rfl hin rfl rfl rfl rfl (Nat.le_of_ble_eq_true rfl) dX2_init_8 (fun H locs hP hD hS => ?_)
  have hP : va_P G.1 vwCl [(h0, .inr (2, [.ref q6, .int 0, .int 0])), (q6, .inl (G.2 0, 4, .inl (fun _ => 0)))] H := hP
  have hD : va_D A [(h0, .inr (2, [.ref q6, .int 0, .int 0])), (q6, .inl (G.2 0, 4, .inl (fun _ => 0)))] := hD
  refine lv_aload_n hx hb dX2_init_11 rfl (lv_at hl 0 rfl) ?_
  refine lv_iconst (v := 0) hx hb dX2_init_12 (by decide) ?_
  refine va_put (D := G.1) (cl := vwCl) (ci := 2) (v := .int 0) (C := RX2) (T := TX2) (N := 3) hx hb hts (by decide +kernel) tyX2 tyX2_ok nmX2 hown hK hP hD hS 0 rfl rfl 1 (by decide) (hts (.fieldLink RX2 15 (TX2 1).1 (TX2 1).2.1 (TX2 1).2.2.1) (by decide +kernel)) (fun _ h9 => h9) rfl rfl rfl rfl (Nat.le_of_ble_eq_true rfl) dX2_init_13 (fun H locs hP hD hS => ?_)
  have hP : va_P G.1 vwCl [(h0, .inr (2, [.ref q6, .int 0, .int 0])), (q6, .inl (G.2 0, 4, .inl (fun _ => 0)))] H := hP
  have hD : va_D A [(h0, .inr (2, [.ref q6, .int 0, .int 0])), (q6, .inl (G.2 0, 4, .inl (fun _ => 0)))] := hD
  refine lv_aload_n hx hb dX2_init_16 rfl (lv_at hl 0 rfl) ?_
  refine lv_iconst (v := 0) hx hb dX2_init_17 (by decide) ?_
  refine va_put (D := G.1) (cl := vwCl) (ci := 2) (v := .int 0) (C := RX2) (T := TX2) (N := 3) hx hb hts (by decide +kernel) tyX2 tyX2_ok nmX2 hown hK hP hD hS 0 rfl rfl 2 (by decide) (hts (.fieldLink RX2 19 (TX2 2).1 (TX2 2).2.1 (TX2 2).2.2.1) (by decide +kernel)) (fun _ h9 => h9) rfl rfl rfl rfl (Nat.le_of_ble_eq_true rfl) dX2_init_18 (fun H locs hP hD hS => ?_)
  have hP : va_P G.1 vwCl [(h0, .inr (2, [.ref q6, .int 0, .int 0])), (q6, .inl (G.2 0, 4, .inl (fun _ => 0)))] H := hP
  have hD : va_D A [(h0, .inr (2, [.ref q6, .int 0, .int 0])), (q6, .inl (G.2 0, 4, .inl (fun _ => 0)))] := hD
  subst hAe
  exact W.widen (by omega) (by omega) (W.vret hx hb hr (fun t ht hW => ⟨⟨q6, rfl, trivial, by rw [ht]; exact hP, hD⟩, hS.F ht⟩) hS.2.2 dX2_init_21)

