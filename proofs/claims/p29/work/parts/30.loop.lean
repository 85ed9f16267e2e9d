set_option maxHeartbeats 4000000 in
set_option maxRecDepth 100000 in
/-- the law's loop -/
theorem lo_loop {p : Program} {l : Launch} {e : Env} {s : State} {m : MethodId} {below : List Frame} {meth : Method} {c : Code} {b L mo pa pb : Nat} {xs : Nat → Int32} {G : kx_G} (hL : L ≤ 260) (C0 : lw_At p s m meth c b L xs) (hlf : l.stackTraces = false) (F : kx_F p s m c cL_law 15 RL #[Value.ref b] wsL_law G s.heap.size) (hmo : mo < 4) :
    ∀ (n k : Nat), k + n = 110 → ∀ (nb : Nat) (ad : kx_A) (sg : kx_S) (H : Heap) (locs : List Loc) (ls : Array Slot), ro_RR mo nb sg → ad 40 0 = nb → pa = ad 0 0 → pb = ad 14 0 → kx_Wd G s.heap.size ad nb sg H → va_S (kx_Ad s.heap.size) s.heap H locs → lv_has ls 15 [(5, .int (nI k)), (4, .int 1), (3, .int (nI mo)), (2, .ref pb), (1, .ref pa), (0, .ref b)] → W p l e room_1 s m #[Value.ref b] below meth c H locs (100 + 60 * k) (1000 + 600 * k) (lw_Z below #[Value.ref b] s) (F0 m 32 ls []) := by
  obtain ⟨hx, hb, hr, hml, hown, hts, hX, hbl, hlocks, hgv⟩ := C0
  have hbA : ¬ kx_Ad s.heap.size b := Nat.not_le.mpr hbl
  intro n
  induction n with
  | zero =>
    intro k hk nb ad sg H locs ls hR hn2 ea eb hW hS hl
    obtain rfl : k = 110 := by omega
    refine lv_iload hx hb dL_law_32 (lv_at hl 0 rfl) ?_
    refine lv_bipush (v := 110) hx hb dL_law_34 (by decide) ?_
    refine lv_icmp_ge (tgt := 1021) hx hb dL_law_36 (by decide) (fun c_36 => ?_) (fun c_36 => absurd (by decide) c_36)
    refine lv_iload hx hb dL_law_1021 (lv_at hl 1 rfl) ?_
    refine va_forget (fun q hq => hS.2.2 q hq) ?_
    refine W.widen (k := 600130) (n := 7301080) (by omega) (by omega) ?_
    exact lw_ret hx hb hr hlocks dL_law_1023
  | succ n ih =>
    intro k hk nb ad sg H locs ls hR hn2 ea eb hW hS hl
    refine lv_iload hx hb dL_law_32 (lv_at hl 0 rfl) ?_
    refine lv_bipush (v := 110) hx hb dL_law_34 (by decide) ?_
    refine lv_icmp_ge (tgt := 1021) hx hb dL_law_36 (by decide) (fun c_36 => absurd c_36 (nI_ge (a := k) (b := 110) (by omega) (by decide))) (fun c_36 => ?_)
    refine lv_iload hx hb dL_law_39 (lv_at hl 1 rfl) ?_
    refine lv_if_eq (tgt := 1021) hx hb dL_law_41 (by decide) (fun c_41 => absurd c_41 (by decide)) (fun c_41 => ?_)
    refine lo_turn hX hbl hL (by omega) F hlf hmo (by omega) (by omega) hR hn2 ea eb hW hS hl (fun nb1 ad1 sg1 H1 locs1 ls1 hR hn2 ea eb hW hS hl => ?_)
    exact W.widen (by omega) (by omega) (ih (k + 1) (by omega) nb1 ad1 sg1 H1 locs1 ls1 hR hn2 ea eb hW hS hl)
