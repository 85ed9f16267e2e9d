theorem lo_and31 (x : Int32) : ∃ k : Nat, k < 32 ∧ x &&& 31 = nI k := by
  refine ⟨(x.toBitVec &&& 31#32).toNat, ?_, ?_⟩
  · rw [BitVec.toNat_and]
    exact Nat.lt_of_le_of_lt Nat.and_le_right (by decide)
  · refine Int32.toBitVec_inj.mp ?_
    show (x &&& 31).toBitVec = BitVec.ofNat 32 (x.toBitVec &&& 31#32).toNat
    rw [BitVec.ofNat_toNat, BitVec.setWidth_eq]
    rfl
theorem lo_sub4 {L : Nat} (h : 4 ≤ L) : nI L - 4 = nI (L - 4) := by
  have h1 := nI_add (L - 4) 4
  rw [show L - 4 + 4 = L by omega] at h1
  rw [← h1]
  exact Int32.add_sub_cancel _ _
theorem lo_neg4 : ∀ L, L < 4 → nI L - 4 < 0 := by decide +kernel
theorem lo_gt1 {i L : Nat} (hi : i ≤ L) (hL : L ≤ 2048) (h : L < i + 4) : nI L - 4 < nI i := by
  rcases Nat.lt_or_ge L 4 with q | q
  · have h1 := lo_neg4 L q
    have h2 := nI_pos' (n := i) (by omega)
    rw [Int32.lt_iff_toInt_lt] at h1 ⊢
    rw [Int32.le_iff_toInt_le] at h2
    omega
  · rw [lo_sub4 q]
    exact nI_lt (by omega) (by omega)
theorem lo_gt2 {i L : Nat} (hi : i ≤ L) (hL : L ≤ 2048) (h : i + 4 ≤ L) : ¬ nI L - 4 < nI i := by
  rw [lo_sub4 (by omega)]
  exact nI_nlt (by omega) (by omega)
set_option maxHeartbeats 4000000 in
set_option maxRecDepth 100000 in
/-- the law's loop -/
theorem lo_loop {p : Program} {l : Launch} {e : Env} {s : State} {m : MethodId} {below : List Frame} {meth : Method} {c : Code} {b L : Nat} {xs : Nat → Int32} {G : kx_G} (hL : L ≤ 2048) (C0 : lw_At p s m meth c b L xs) (hlf : l.stackTraces = false) (F : kx_F p s m c cL_law 7 RL #[Value.ref b] wsL_law G s.heap.size) :
    ∀ (n i : Nat), i ≤ L → L < i + 4 * n → ∀ (nb : Nat) (ad : kx_A) (sg : kx_S) (H : Heap) (locs : List Loc) (ls : Array Slot), rl_PT nb sg sg → kx_Wd G s.heap.size ad nb sg H → va_S (kx_Ad s.heap.size) s.heap H locs → lv_has ls 7 [(4, .int (nI i)), (3, .ref (ad 32 0)), (2, .ref (ad 14 0)), (1, .ref (ad 0 0)), (0, .ref b)] → W p l e room_1 s m #[Value.ref b] below meth c H locs (100 + 15 * i) (1000 + 250 * i) (lw_Z below #[Value.ref b] s) (F0 m 23 ls []) := by
  obtain ⟨hx, hb, hr, hml, hown, hts, hX, hbl, hlocks, hgv⟩ := C0
  have hbA : ¬ kx_Ad s.heap.size b := Nat.not_le.mpr hbl
  intro n
  induction n with
  | zero =>
    intro i h1 h2
    exact absurd h2 (by omega)
  | succ n ih =>
    intro i hi hin nb ad sg H locs ls hR hW hS hl
    refine lv_iload hx hb dL_law_23 (lv_at hl 0 rfl) ?_
    refine lv_aload_n hx hb dL_law_25 rfl (lv_at hl 4 rfl) ?_
    refine va_slen hx hb hX hbl hbA hS dL_law_26 ?_
    refine lv_iconst (v := 4) hx hb dL_law_27 (by decide) ?_
    refine lv_isub hx hb dL_law_28 ?_
    refine lv_icmp_gt (tgt := 1610) hx hb dL_law_29 (by decide) (fun c_29 => ?_) (fun c_29 => ?_)
    · refine lv_iconst (v := 1) hx hb dL_law_1610 (by decide) ?_
      refine va_forget (fun q hq => hS.2.2 q hq) ?_
      refine W.widen (k := 601024) (n := 7293034) (by omega) (by omega) ?_
      exact lw_ret hx hb hr hlocks dL_law_1611
    · have hi4 : i + 4 ≤ L := by
        rcases Nat.lt_or_ge L (i + 4) with q | q
        · exact absurd (lo_gt1 hi hL q) c_29
        · exact q
      have hcl : 100 + 15 * i + 60 ≤ 601024 := by omega
      have hsl : 1000 + 250 * i + 1000 ≤ 7293034 := by omega
      have kk : ∀ (nb1 : Nat) (ad1 : kx_A) (sg1 : kx_S) (H1 : Heap) (locs1 : List Loc) (ls1 : Array Slot), rl_PT nb1 sg1 sg1 → kx_Wd G s.heap.size ad1 nb1 sg1 H1 → va_S (kx_Ad s.heap.size) s.heap H1 locs1 → lv_has ls1 7 [(4, .int (nI i)), (3, .ref (ad1 32 0)), (2, .ref (ad1 14 0)), (1, .ref (ad1 0 0)), (0, .ref b)] → W p l e room_1 s m #[Value.ref b] below meth c H1 locs1 (100 + 15 * i + 60) (1000 + 250 * i + 1000) (lw_Z below #[Value.ref b] s) (F0 m 1604 ls1 []) := by
        intro nb1 ad1 sg1 H1 locs1 ls1 hR hW hS hl
        refine lv_iinc (v := nI (i + 4)) (lv' := [(4, .int (nI (i + 4))), (3, .ref (ad1 32 0)), (2, .ref (ad1 14 0)), (1, .ref (ad1 0 0)), (0, .ref b)]) hx hb dL_law_1604 hl (k := 0) rfl (lo_n4 i) (by decide) rfl (fun ls hl => ?_)
        refine lv_goto (tgt := 23) hx hb dL_law_1607 (by decide) ?_
        exact W.widen (by omega) (by omega) (ih (i + 4) hi4 (by omega) nb1 ad1 sg1 H1 locs1 ls hR hW hS hl)
      refine lv_aload_n hx hb dL_law_32 rfl (lv_at hl 4 rfl) ?_
      refine lv_iload hx hb dL_law_33 (lv_at hl 0 rfl) ?_
      refine va_sld hx hb hX hbl hbA hS (vp_in_nI (by omega) (by omega)) dL_law_35 ?_
      rw [nI_clamp (n := i) (by omega)]
      refine lv_bipush (v := 31) hx hb dL_law_36 (by decide) ?_
      refine lv_iand hx hb dL_law_38 ?_
      obtain ⟨k, hk, ek⟩ := lo_and31 (xs i)
      rw [ek]
      exact match k, hk with
      | 0, _ => by
        refine lv_tableIn (tgt := 156) (off := 117) hx hb dL_law_39 (by decide +kernel) (by decide +kernel) (by decide +kernel) (by decide) ?_
        exact lo_box F hlf hX hbl hi4 hL hcl hsl hR hW hS hl kk
      | 1, _ => by
        refine lv_tableIn (tgt := 224) (off := 185) hx hb dL_law_39 (by decide +kernel) (by decide +kernel) (by decide +kernel) (by decide) ?_
        exact lo_setTrust F hlf hX hbl hi4 hL hcl hsl hR hW hS hl (kk nb ad)
      | 2, _ => by
        refine lv_tableIn (tgt := 292) (off := 253) hx hb dL_law_39 (by decide +kernel) (by decide +kernel) (by decide +kernel) (by decide) ?_
        exact lo_pass F hlf hX hbl hi4 hL hcl hsl hR hW hS hl (kk nb ad)
      | 3, _ => by
        refine lv_tableIn (tgt := 348) (off := 309) hx hb dL_law_39 (by decide +kernel) (by decide +kernel) (by decide +kernel) (by decide) ?_
        exact lo_scan F hlf hX hbl hi4 hL hcl hsl hR hW hS hl (kk nb ad)
      | 4, _ => by
        refine lv_tableIn (tgt := 428) (off := 389) hx hb dL_law_39 (by decide +kernel) (by decide +kernel) (by decide +kernel) (by decide) ?_
        exact lo_lay F hlf hX hbl hi4 hL hcl hsl hR hW hS hl (kk nb ad)
      | 5, _ => by
        refine lv_tableIn (tgt := 496) (off := 457) hx hb dL_law_39 (by decide +kernel) (by decide +kernel) (by decide +kernel) (by decide) ?_
        exact lo_find F hlf hX hbl hi4 hL hcl hsl hR hW hS hl (kk nb ad)
      | 6, _ => by
        refine lv_tableIn (tgt := 564) (off := 525) hx hb dL_law_39 (by decide +kernel) (by decide +kernel) (by decide +kernel) (by decide) ?_
        exact lo_setDoor F hlf hX hbl hi4 hL hcl hsl hR hW hS hl (kk nb ad)
      | 7, _ => by
        refine lv_tableIn (tgt := 632) (off := 593) hx hb dL_law_39 (by decide +kernel) (by decide +kernel) (by decide +kernel) (by decide) ?_
        exact lo_keep F hlf hX hbl hi4 hL hcl hsl hR hW hS hl (kk nb ad)
      | 8, _ => by
        refine lv_tableIn (tgt := 700) (off := 661) hx hb dL_law_39 (by decide +kernel) (by decide +kernel) (by decide +kernel) (by decide) ?_
        exact lo_open F hlf hX hbl hi4 hL hcl hsl hR hW hS hl (kk nb ad)
      | 9, _ => by
        refine lv_tableIn (tgt := 768) (off := 729) hx hb dL_law_39 (by decide +kernel) (by decide +kernel) (by decide +kernel) (by decide) ?_
        exact lo_jam F hlf hX hbl hi4 hL hcl hsl hR hW hS hl (kk nb ad)
      | 10, _ => by
        refine lv_tableIn (tgt := 859) (off := 820) hx hb dL_law_39 (by decide +kernel) (by decide +kernel) (by decide +kernel) (by decide) ?_
        exact lo_claim F hlf hX hbl hi4 hL hcl hsl hR hW hS hl (kk nb ad)
      | 11, _ => by
        refine lv_tableIn (tgt := 915) (off := 876) hx hb dL_law_39 (by decide +kernel) (by decide +kernel) (by decide +kernel) (by decide) ?_
        exact lo_time F hlf hX hbl hi4 hL hcl hsl hR hW hS hl (kk nb ad)
      | 12, _ => by
        refine lv_tableIn (tgt := 928) (off := 889) hx hb dL_law_39 (by decide +kernel) (by decide +kernel) (by decide +kernel) (by decide) ?_
        exact lo_boxes F hlf hX hbl hi4 hL hcl hsl hR hW hS hl (kk nb ad)
      | 13, _ => by
        refine lv_tableIn (tgt := 941) (off := 902) hx hb dL_law_39 (by decide +kernel) (by decide +kernel) (by decide +kernel) (by decide) ?_
        exact lo_scans F hlf hX hbl hi4 hL hcl hsl hR hW hS hl (kk nb ad)
      | 14, _ => by
        refine lv_tableIn (tgt := 997) (off := 958) hx hb dL_law_39 (by decide +kernel) (by decide +kernel) (by decide +kernel) (by decide) ?_
        exact lo_story F hlf hX hbl hi4 hL hcl hsl hR hW hS hl (kk nb ad)
      | 15, _ => by
        refine lv_tableIn (tgt := 1053) (off := 1014) hx hb dL_law_39 (by decide +kernel) (by decide +kernel) (by decide +kernel) (by decide) ?_
        exact lo_storyOfAll F hlf hX hbl hi4 hL hcl hsl hR hW hS hl (kk nb ad)
      | 16, _ => by
        refine lv_tableIn (tgt := 1109) (off := 1070) hx hb dL_law_39 (by decide +kernel) (by decide +kernel) (by decide +kernel) (by decide) ?_
        exact lo_placeOf F hlf hX hbl hi4 hL hcl hsl hR hW hS hl (kk nb ad)
      | 17, _ => by
        refine lv_tableIn (tgt := 1165) (off := 1126) hx hb dL_law_39 (by decide +kernel) (by decide +kernel) (by decide +kernel) (by decide) ?_
        exact lo_lies F hlf hX hbl hi4 hL hcl hsl hR hW hS hl (kk nb ad)
      | 18, _ => by
        refine lv_tableIn (tgt := 1221) (off := 1182) hx hb dL_law_39 (by decide +kernel) (by decide +kernel) (by decide +kernel) (by decide) ?_
        exact lo_hasFee F hlf hX hbl hi4 hL hcl hsl hR hW hS hl (kk nb ad)
      | 19, _ => by
        refine lv_tableIn (tgt := 1284) (off := 1245) hx hb dL_law_39 (by decide +kernel) (by decide +kernel) (by decide +kernel) (by decide) ?_
        exact lo_isInsured F hlf hX hbl hi4 hL hcl hsl hR hW hS hl (kk nb ad)
      | 20, _ => by
        refine lv_tableIn (tgt := 1347) (off := 1308) hx hb dL_law_39 (by decide +kernel) (by decide +kernel) (by decide +kernel) (by decide) ?_
        exact lo_fees F hlf hX hbl hi4 hL hcl hsl hR hW hS hl (kk nb ad)
      | 21, _ => by
        refine lv_tableIn (tgt := 1403) (off := 1364) hx hb dL_law_39 (by decide +kernel) (by decide +kernel) (by decide +kernel) (by decide) ?_
        exact lo_insurers F hlf hX hbl hi4 hL hcl hsl hR hW hS hl (kk nb ad)
      | 22, _ => by
        refine lv_tableIn (tgt := 1416) (off := 1377) hx hb dL_law_39 (by decide +kernel) (by decide +kernel) (by decide +kernel) (by decide) ?_
        exact lo_entries F hlf hX hbl hi4 hL hcl hsl hR hW hS hl (kk nb ad)
      | 23, _ => by
        refine lv_tableIn (tgt := 1429) (off := 1390) hx hb dL_law_39 (by decide +kernel) (by decide +kernel) (by decide +kernel) (by decide) ?_
        exact lo_fine F hlf hX hbl hi4 hL hcl hsl hR hW hS hl (kk nb ad)
      | 24, _ => by
        refine lv_tableIn (tgt := 1485) (off := 1446) hx hb dL_law_39 (by decide +kernel) (by decide +kernel) (by decide +kernel) (by decide) ?_
        exact lo_isJammed F hlf hX hbl hi4 hL hcl hsl hR hW hS hl (kk nb ad)
      | 25, _ => by
        refine lv_tableIn (tgt := 1548) (off := 1509) hx hb dL_law_39 (by decide +kernel) (by decide +kernel) (by decide +kernel) (by decide) ?_
        exact lo_keptFor F hlf hX hbl hi4 hL hcl hsl hR hW hS hl (kk nb ad)
      | 26, _ => by
        refine lv_tableOut (tgt := 1604) hx hb dL_law_39 (Or.inr (by decide +kernel)) (by decide) ?_
        exact W.widen (by omega) (by omega) (kk nb ad sg H locs ls hR hW hS hl)
      | 27, _ => by
        refine lv_tableOut (tgt := 1604) hx hb dL_law_39 (Or.inr (by decide +kernel)) (by decide) ?_
        exact W.widen (by omega) (by omega) (kk nb ad sg H locs ls hR hW hS hl)
      | 28, _ => by
        refine lv_tableOut (tgt := 1604) hx hb dL_law_39 (Or.inr (by decide +kernel)) (by decide) ?_
        exact W.widen (by omega) (by omega) (kk nb ad sg H locs ls hR hW hS hl)
      | 29, _ => by
        refine lv_tableOut (tgt := 1604) hx hb dL_law_39 (Or.inr (by decide +kernel)) (by decide) ?_
        exact W.widen (by omega) (by omega) (kk nb ad sg H locs ls hR hW hS hl)
      | 30, _ => by
        refine lv_tableOut (tgt := 1604) hx hb dL_law_39 (Or.inr (by decide +kernel)) (by decide) ?_
        exact W.widen (by omega) (by omega) (kk nb ad sg H locs ls hR hW hS hl)
      | 31, _ => by
        refine lv_tableOut (tgt := 1604) hx hb dL_law_39 (Or.inr (by decide +kernel)) (by decide) ?_
        exact W.widen (by omega) (by omega) (kk nb ad sg H locs ls hR hW hS hl)
      | k + 32, h => absurd h (by omega)

