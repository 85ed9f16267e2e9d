/-! the law's start: classes, tables, texts -/
theorem kx_ne_in : ∀ x ∈ kx_ne, Cond.methodLinkNest x.1 x.2.1 x.2.2.1 x.2.2.2 ∈ lw_tbl := by decide +kernel
theorem kx_tx_in : ∀ x ∈ kx_tx, Cond.stringRef RX3 x.1 x.2 ∈ lw_tbl := by decide +kernel
theorem kx_bd_in : ∀ w ∈ kx_bd, w ∈ lw_tbl := by decide +kernel
theorem kx_nc_in : ∀ x ∈ kx_nc, Cond.not (.castable x.1 x.2) ∈ flatC (Jvm.Cond.and given_1 narrow_1) := by decide +kernel

theorem kx_iX0 : ∀ w ∈ u_ws RX0 TX0 11, w ∈ lw_tbl := by decide +kernel
theorem kx_iX1 : ∀ w ∈ u_ws RX1 TX1 5, w ∈ lw_tbl := by decide +kernel
theorem kx_iX2 : ∀ w ∈ u_ws RX2 TX2 3, w ∈ lw_tbl := by decide +kernel
theorem kx_iX3 : ∀ w ∈ u_ws RX3 TX3 9, w ∈ lw_tbl := by decide +kernel
set_option maxHeartbeats 4000000 in
set_option maxRecDepth 100000 in
theorem kx_min_at {args : Array Value} {s : State} (hs : ∀ c ∈ flatC (Jvm.Cond.and given_1 narrow_1), c.before args s = true) : ∀ j : Nat, j < 16 → (Term.elem (.static "Whichbox" "MINUTES" "[I") (.int (Int32.ofNat j))).eval args s none [] s = some (.int (kx_min j)) := by
  intro j hj
  match j, hj with
  | 0, _ => exact va_eqt (show (Cond.eq (.elem (.static "Whichbox" "MINUTES" "[I") (.int (0 : Int32))) (.int (0 : Int32))).before args s = true from hs _ (by decide +kernel))
  | 1, _ => exact va_eqt (show (Cond.eq (.elem (.static "Whichbox" "MINUTES" "[I") (.int (1 : Int32))) (.int (5 : Int32))).before args s = true from hs _ (by decide +kernel))
  | 2, _ => exact va_eqt (show (Cond.eq (.elem (.static "Whichbox" "MINUTES" "[I") (.int (2 : Int32))) (.int (8 : Int32))).before args s = true from hs _ (by decide +kernel))
  | 3, _ => exact va_eqt (show (Cond.eq (.elem (.static "Whichbox" "MINUTES" "[I") (.int (3 : Int32))) (.int (9 : Int32))).before args s = true from hs _ (by decide +kernel))
  | 4, _ => exact va_eqt (show (Cond.eq (.elem (.static "Whichbox" "MINUTES" "[I") (.int (4 : Int32))) (.int (5 : Int32))).before args s = true from hs _ (by decide +kernel))
  | 5, _ => exact va_eqt (show (Cond.eq (.elem (.static "Whichbox" "MINUTES" "[I") (.int (5 : Int32))) (.int (10 : Int32))).before args s = true from hs _ (by decide +kernel))
  | 6, _ => exact va_eqt (show (Cond.eq (.elem (.static "Whichbox" "MINUTES" "[I") (.int (6 : Int32))) (.int (3 : Int32))).before args s = true from hs _ (by decide +kernel))
  | 7, _ => exact va_eqt (show (Cond.eq (.elem (.static "Whichbox" "MINUTES" "[I") (.int (7 : Int32))) (.int (4 : Int32))).before args s = true from hs _ (by decide +kernel))
  | 8, _ => exact va_eqt (show (Cond.eq (.elem (.static "Whichbox" "MINUTES" "[I") (.int (8 : Int32))) (.int (8 : Int32))).before args s = true from hs _ (by decide +kernel))
  | 9, _ => exact va_eqt (show (Cond.eq (.elem (.static "Whichbox" "MINUTES" "[I") (.int (9 : Int32))) (.int (3 : Int32))).before args s = true from hs _ (by decide +kernel))
  | 10, _ => exact va_eqt (show (Cond.eq (.elem (.static "Whichbox" "MINUTES" "[I") (.int (10 : Int32))) (.int (6 : Int32))).before args s = true from hs _ (by decide +kernel))
  | 11, _ => exact va_eqt (show (Cond.eq (.elem (.static "Whichbox" "MINUTES" "[I") (.int (11 : Int32))) (.int (2 : Int32))).before args s = true from hs _ (by decide +kernel))
  | 12, _ => exact va_eqt (show (Cond.eq (.elem (.static "Whichbox" "MINUTES" "[I") (.int (12 : Int32))) (.int (1000000 : Int32))).before args s = true from hs _ (by decide +kernel))
  | 13, _ => exact va_eqt (show (Cond.eq (.elem (.static "Whichbox" "MINUTES" "[I") (.int (13 : Int32))) (.int (1000000 : Int32))).before args s = true from hs _ (by decide +kernel))
  | 14, _ => exact va_eqt (show (Cond.eq (.elem (.static "Whichbox" "MINUTES" "[I") (.int (14 : Int32))) (.int (1000000 : Int32))).before args s = true from hs _ (by decide +kernel))
  | 15, _ => exact va_eqt (show (Cond.eq (.elem (.static "Whichbox" "MINUTES" "[I") (.int (15 : Int32))) (.int (0 : Int32))).before args s = true from hs _ (by decide +kernel))
  | j + 16, hj => exact absurd hj (by omega)
set_option maxHeartbeats 4000000 in
set_option maxRecDepth 100000 in
theorem kx_start_V {args : Array Value} {s : State} (hts : ∀ w ∈ lw_tbl, w.before args s = true) (hgv : (Jvm.Cond.and given_1 narrow_1).before args s = true) : ∃ G : kx_G, kx_V G s.heap.size s s.heap ∧ kx_Y G s := by
  have hs := flat_of_before _ hgv
  have hA : ∀ a : Nat, a < s.heap.size → ¬ kx_Ad s.heap.size a := fun a h => Nat.not_le.mpr h
  obtain ⟨c0, i0, hKn0⟩ := u_known (C := RX0) (T := TX0) (N := 11) (n := 11) hts kx_iX0 (hts (.instantiable RX0 11) (by decide +kernel))
  obtain ⟨c1, i1, hKn1⟩ := u_known (C := RX1) (T := TX1) (N := 5) (n := 5) hts kx_iX1 (hts (.instantiable RX1 5) (by decide +kernel))
  obtain ⟨c2, i2, hKn2⟩ := u_known (C := RX2) (T := TX2) (N := 3) (n := 3) hts kx_iX2 (hts (.instantiable RX2 3) (by decide +kernel))
  obtain ⟨c3, i3, hKn3⟩ := u_known (C := RX3) (T := TX3) (N := 9) (n := 9) hts kx_iX3 (hts (.instantiable RX3 9) (by decide +kernel))
  obtain ⟨dC, dI, hKc⟩ : ∃ (dC : Nat → ClassId) (dI : Nat → Nat → Nat), ∀ (k : Nat) (q : vw_C), vwCl[k]? = some q → u_Kn s q.1 q.2.1 q.2.2 (dC k) (dI k) := by
    refine ⟨fun k => match k with | 0 => c0 | 1 => c1 | 2 => c2 | _ => c3, fun k => match k with | 0 => i0 | 1 => i1 | 2 => i2 | _ => i3, ?_⟩
    intro k q hq
    match k, hq with
    | 0, hq => cases hq; exact hKn0
    | 1, hq => cases hq; exact hKn1
    | 2, hq => cases hq; exact hKn2
    | 3, hq => cases hq; exact hKn3
    | k + 4, hq => simp [vwCl] at hq
  obtain ⟨cI, kI, mI, fI, gI, hI⟩ := Cond.arrayClass_spec (hts (.arrayClass .int) (by decide +kernel))
  have oB := hts (.arrayOver (.object "Whichbox$Box")) (by decide +kernel)
  have oD := hts (.arrayOver (.object "Whichbox$Door")) (by decide +kernel)
  obtain ⟨pB, cB, kB, fB, -, gB, hB, nB⟩ := Cond.arrayOver_spec oB
  obtain ⟨pD, cD, kD, fD, -, gD, hD, nD⟩ := Cond.arrayOver_spec oD
  obtain ⟨cy, hcy⟩ : ∃ cy : Nat → ClassId, cy = fun k => match k with | 0 => cI | 2 => cB | 3 => cD | _ => cI := ⟨_, rfl⟩
  have hK : va_K (dC, dI) vwCl (kx_ty cy) s := by
    refine ⟨hKc, fun k q hk => ?_⟩
    subst hcy
    match k, hk with
    | 0, hk => cases hk; exact ⟨fun n z => ⟨fun k h => (by cases h), kI, gI, mI, hI⟩, fI⟩
    | 1, hk => cases hk; exact ⟨fun n z => ⟨fun k h => (by cases h), kI, gI, mI, hI⟩, fI⟩
    | 2, hk => cases hk; exact ⟨fun n z => ⟨fun k h => (by cases h), kB, gB, pB, hB⟩, kB, pB, gB, hB, fB, nB⟩
    | 3, hk => cases hk; exact ⟨fun n z => ⟨fun k h => (by cases h), kD, gD, pD, hD⟩, kD, pD, gD, hD, fD, nD⟩
    | k + 4, hk => simp [kx_ty] at hk
  have hne : ∀ x ∈ kx_ne, va_Nw (.methodLinkNest x.1 x.2.1 x.2.2.1 x.2.2.2) s := fun x hx => va_Nw.of rfl (hts _ (kx_ne_in x hx))
  obtain ⟨t, ht, hT⟩ := va_Tof (tm := .static "Whichbox" "MINUTES" "[I") (ty := .int) (N := 16) (f := fun j => .int (kx_min j)) (A := kx_Ad s.heap.size) (by decide) (hs _ (by decide +kernel)) (va_eqt (show (Cond.eq (.length (.static "Whichbox" "MINUTES" "[I")) (.int (16 : Int32))).before args s = true from hs _ (by decide +kernel))) (kx_min_at hs) hA
  have hZt := va_Zof (hts (.laysStatic "Whichbox" "MINUTES" "[I") (by decide +kernel)) (hts (.initialized "Whichbox") (by decide +kernel)) ht hA
  have hU := vx_Zqof (A := kx_Ad s.heap.size) (hts (.laysStatic Bundle.tN "UNASSIGNED_STACK" Bundle.steD) (by decide +kernel)) (hts (.initialized Bundle.tN) (by decide +kernel)) (hs (Cond.isRef (.static Bundle.tN "UNASSIGNED_STACK" Bundle.steD)) (by decide +kernel)) hA
  have hN := vx_Zqof (A := kx_Ad s.heap.size) (hts (.laysStatic Bundle.tN "SUPPRESSED_SENTINEL" Bundle.listD) (by decide +kernel)) (hts (.initialized Bundle.tN) (by decide +kernel)) (hs (Cond.isRef (.static Bundle.tN "SUPPRESSED_SENTINEL" Bundle.listD)) (by decide +kernel)) hA
  have htx : ∀ x ∈ kx_tx, ∃ sa, vk_R RX3 x.1 x.2 sa s := fun x hx => by
    have h9 := hts _ (kx_tx_in x hx)
    obtain ⟨k, cf, i, a, -, -, -, -, -, hev⟩ := Cond.stringRef_spec hKn3.2.1 h9
    exact ⟨a, vk_R.of h9 hev⟩
  exact ⟨((dC, dI), cy), ⟨hK, ⟨t, hZt, hT⟩, hU, hN, hne, htx, fun w hw => va_Nw.of (kx_bd_tab w hw) (hts _ (kx_bd_in w hw)), fun x hx => va_Nc.of (hs _ (kx_nc_in x hx))⟩, hK, hne, va_AO.of oB, va_AO.of oD⟩

