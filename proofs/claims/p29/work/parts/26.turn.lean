section LOP
variable {p : Program} {l : Launch} {e : Env} {s : State} {m : MethodId} {below : List Frame} {meth : Method} {c : Code} {b L : Nat} {xs : Nat → Int32} {Q : State → Prop} {G : kx_G} {nb : Nat} {ad : kx_A} {sg : kx_S} {H : Heap} {locs : List Loc} {ls : Array Slot} {cells slots k mo w pa pb : Nat} {kd v bx dr : Int32}

theorem lo_drawn {pc : Nat} {rest : List Value} (F : kx_F p s m c cL_law 15 RL #[Value.ref b] wsL_law G s.heap.size) (hX : va_X b L xs s s.heap) (hbl : b < s.heap.size) (hL : L ≤ 260) (hk : k < 300) (hf : cells ≤ 600130 ∧ slots ≤ 7301080) (hW : kx_Wd G s.heap.size ad nb sg H) (hS : va_S (kx_Ad s.heap.size) s.heap H locs) (hsize : ls.size = 15) (hrm : (rest.map fun v => v.category).sum ≤ 8) (hdg : decode cL_law pc = .ok (.invokestatic 94, 3)) (kk : ∀ (H1 : Heap) (locs1 : List Loc), kx_Wd G s.heap.size ad nb sg H1 → va_S (kx_Ad s.heap.size) s.heap H1 locs1 → W p l e room_1 s m #[Value.ref b] below meth c H1 locs1 cells slots Q (F0 m (pc + 3) ls (.int (lo_dr L xs k) :: rest))) : W p l e room_1 s m #[Value.ref b] below meth c H locs cells slots Q (F0 m pc ls (.int (nI k) :: .ref b :: rest)) := by
  refine va_calli (va_runS (As := [.ref b, .int (nI k)]) (rest := rest) ⟨F.1, F.2.1, F.2.2.1, F.2.2.2.1, F.2.2.2.2.1⟩ (c_L_drawn l b L xs k hL hk) (va_cwS 2 F.2.2.2.2.1 gL_law_L_drawn rfl rfl rfl (by decide +kernel) ⟨Nat.le_of_ble_eq_true rfl, Nat.le_of_ble_eq_true rfl⟩) ⟨fun a U g mk q => ⟨q.1, va_X.moved (u := U) (U := U.calling g mk a) (Vm.Alike.refl U.vm) q.2.1, q.2.2⟩, fun U hU hW9 => ⟨rfl, by rw [hU]; exact (va_X.moved hW9.alike hX).kept (hS.2.1 b hbl (Nat.not_le.mpr hbl)), by rw [hU]; exact Nat.lt_of_lt_of_le hbl hS.1⟩⟩ rfl rfl hsize rfl (lv_room hrm) hdg hf) hS (fun q _ h => h.elim) (fun q h => h.elim) (fun r u t H1 locs1 ht hvm hr hB hz1 hk1 hS1 => ?_)
  subst hr
  exact kk H1 locs1 (hW.keep (fun a ha => hk1 a ha (fun z => z))) hS1
theorem lo_ne55 : ∀ k, k < 110 → ¬ 1 + nI k / 55 = 0 := by decide +kernel

set_option maxHeartbeats 4000000 in
set_option maxRecDepth 100000 in
theorem lo_A (hX : va_X b L xs s s.heap) (hbl : b < s.heap.size) (hL : L ≤ 260) (hk : k < 110) (F : kx_F p s m c cL_law 15 RL #[Value.ref b] wsL_law G s.heap.size) (hlf : l.stackTraces = false) (hmo : mo < 4) (hcl : cells + 0 ≤ 600130) (hsl : slots + 0 ≤ 7301080) (hR : ro_RR mo nb sg) (hn2 : ad 40 0 = nb) (ea : pa = ad 0 0) (eb : pb = ad 14 0) (hW : kx_Wd G s.heap.size ad nb sg H) (hS : va_S (kx_Ad s.heap.size) s.heap H locs) (hl : lv_has ls 15 [(5, .int (nI k)), (4, .int 1), (3, .int (nI mo)), (2, .ref pb), (1, .ref pa), (0, .ref b)]) (kk : ∀ (w : Nat) (kd v bx dr : Int32) (H1 : Heap) (locs1 : List Loc) (ls1 : Array Slot), w < 14 → kx_Wd G s.heap.size ad nb sg H1 → va_S (kx_Ad s.heap.size) s.heap H1 locs1 → lv_has ls1 15 [(12, .int dr), (11, .int (nI w)), (10, .int bx), (9, .int (nI nb)), (8, .int v), (7, .int kd), (5, .int (nI k)), (4, .int 1), (3, .int (nI mo)), (2, .ref pb), (1, .ref pa), (0, .ref b)] → W p l e room_1 s m #[Value.ref b] below meth c H1 locs1 cells slots Q (F0 m 138 ls1 [])) : W p l e room_1 s m #[Value.ref b] below meth c H locs cells slots Q (F0 m 44 ls []) := by
  have hx := F.1; have hb := F.2.1
  have h6 : sg 0 0 6 = nI nb := hR.2.1
  refine lv_aload_n hx hb dL_law_44 rfl (lv_at hl 5 rfl) ?_
  refine lv_iload hx hb dL_law_45 (lv_at hl 0 rfl) ?_
  refine lv_bipush (v := 55) hx hb dL_law_47 (by decide) ?_
  refine lv_irem hx hb dL_law_49 (by decide) ?_
  rw [lo_k55 k hk]
  refine lo_drawn F hX hbl hL (by omega) ⟨by omega, by omega⟩ hW hS hl.1 (Nat.le_of_ble_eq_true rfl) dL_law_50 (fun H locs hW hS => ?_)
  obtain ⟨d9, hd9, ed⟩ : ∃ n : Nat, n < 2 ^ 30 ∧ lo_dr L xs (k % 55) = nI n := lo_and30 _
  rw [ed]
  refine lv_iconst (v := 1) hx hb dL_law_53 (by decide) ?_
  refine lv_iload hx hb dL_law_54 (lv_at hl 0 rfl) ?_
  refine lv_bipush (v := 55) hx hb dL_law_56 (by decide) ?_
  refine lv_idiv hx hb dL_law_58 (by decide) ?_
  refine lv_iadd hx hb dL_law_59 ?_
  refine lv_idiv hx hb dL_law_60 (lo_ne55 k hk) ?_
  refine lv_bipush (v := 7) hx hb dL_law_61 (by decide) ?_
  refine lv_iload hx hb dL_law_63 (lv_at hl 0 rfl) ?_
  refine lv_bipush (v := 55) hx hb dL_law_65 (by decide) ?_
  refine lv_idiv hx hb dL_law_67 (by decide) ?_
  refine lv_imul hx hb dL_law_68 ?_
  refine lv_iadd hx hb dL_law_69 ?_
  rw [lo_z hd9 hk]
  obtain ⟨z, hz, ez⟩ : ∃ z : Nat, z < 2 ^ 31 ∧ z = d9 / (1 + k / 55) + 7 * (k / 55) := ⟨_, by have h8 := Nat.div_le_self d9 (1 + k / 55); omega, rfl⟩
  rw [← ez]
  refine lv_istore (lv' := [(6, .int (nI z)), (5, .int (nI k)), (4, .int 1), (3, .int (nI mo)), (2, .ref pb), (1, .ref pa), (0, .ref b)]) hx hb dL_law_70 hl (by decide) rfl (fun ls hl => ?_)
  have K87 : ∀ kd : Int32, W p l e room_1 s m #[Value.ref b] below meth c H locs cells slots Q (F0 m 87 ls [.int kd]) := by
    intro kd
    refine lv_istore (lv' := [(7, .int kd), (6, .int (nI z)), (5, .int (nI k)), (4, .int 1), (3, .int (nI mo)), (2, .ref pb), (1, .ref pa), (0, .ref b)]) hx hb dL_law_87 hl (by decide) rfl (fun ls hl => ?_)
    refine lv_iload hx hb dL_law_89 (lv_at hl 1 rfl) ?_
    refine lv_bipush (v := 18) hx hb dL_law_91 (by decide) ?_
    refine lv_idiv hx hb dL_law_93 (by decide) ?_
    rw [show nI z / 18 = nI (z / 18) from pk_div (a := z) (d := 18) hz (by decide) (by decide)]
    refine lv_istore (lv' := [(8, .int (nI (z / 18))), (7, .int kd), (6, .int (nI z)), (5, .int (nI k)), (4, .int 1), (3, .int (nI mo)), (2, .ref pb), (1, .ref pa), (0, .ref b)]) hx hb dL_law_94 hl (by decide) rfl (fun ls hl => ?_)
    refine lv_aload_n hx hb dL_law_96 rfl (lv_at hl 7 rfl) ?_
    refine lo_gA F (c_X3_boxes l G s.heap.size ad nb sg) gL_law_X3_boxes rfl (by decide +kernel) ⟨Nat.le_of_ble_eq_true rfl, Nat.le_of_ble_eq_true rfl⟩ hW hS hl.1 ea (Nat.le_of_ble_eq_true rfl) dL_law_97 ⟨by show _ ≤ 600130; omega, by show _ ≤ 7301080; omega⟩ (fun H locs hW hS => ?_)
    rw [h6]
    refine lv_istore (lv' := [(9, .int (nI nb)), (8, .int (nI (z / 18))), (7, .int kd), (6, .int (nI z)), (5, .int (nI k)), (4, .int 1), (3, .int (nI mo)), (2, .ref pb), (1, .ref pa), (0, .ref b)]) hx hb dL_law_100 hl (by decide) rfl (fun ls hl => ?_)
    refine lv_iload hx hb dL_law_102 (lv_at hl 0 rfl) ?_
    have K116 : ∀ bx : Int32, W p l e room_1 s m #[Value.ref b] below meth c H locs cells slots Q (F0 m 116 ls [.int bx]) := by
      intro bx
      refine lv_istore (lv' := [(10, .int bx), (9, .int (nI nb)), (8, .int (nI (z / 18))), (7, .int kd), (6, .int (nI z)), (5, .int (nI k)), (4, .int 1), (3, .int (nI mo)), (2, .ref pb), (1, .ref pa), (0, .ref b)]) hx hb dL_law_116 hl (by decide) rfl (fun ls hl => ?_)
      refine lv_iload hx hb dL_law_118 (lv_at hl 2 rfl) ?_
      refine lv_bipush (v := 16) hx hb dL_law_120 (by decide) ?_
      refine lv_idiv hx hb dL_law_122 (by decide) ?_
      refine lv_bipush (v := 14) hx hb dL_law_123 (by decide) ?_
      refine lv_irem hx hb dL_law_125 (by decide) ?_
      rw [lo_who (by omega)]
      refine lv_istore (lv' := [(11, .int (nI (z / 18 / 16 % 14))), (10, .int bx), (9, .int (nI nb)), (8, .int (nI (z / 18))), (7, .int kd), (6, .int (nI z)), (5, .int (nI k)), (4, .int 1), (3, .int (nI mo)), (2, .ref pb), (1, .ref pa), (0, .ref b)]) hx hb dL_law_126 hl (by decide) rfl (fun ls hl => ?_)
      refine lv_iload hx hb dL_law_128 (lv_at hl 3 rfl) ?_
      refine lv_bipush (v := 16) hx hb dL_law_130 (by decide) ?_
      refine lv_idiv hx hb dL_law_132 (by decide) ?_
      refine lv_bipush (v := 10) hx hb dL_law_133 (by decide) ?_
      refine lv_irem hx hb dL_law_135 (by decide) ?_
      refine lv_istore (lv' := [(12, .int (((nI (z / 18)) / 16) - ((nI (z / 18)) / 16) / 10 * 10)), (11, .int (nI (z / 18 / 16 % 14))), (10, .int bx), (9, .int (nI nb)), (8, .int (nI (z / 18))), (7, .int kd), (6, .int (nI z)), (5, .int (nI k)), (4, .int 1), (3, .int (nI mo)), (2, .ref pb), (1, .ref pa), (0, .ref b)]) hx hb dL_law_136 hl (by decide) rfl (fun ls hl => ?_)
      exact kk (z / 18 / 16 % 14) kd (nI (z / 18)) bx _ H locs ls (Nat.mod_lt _ (by decide)) hW hS (lv_sub hl [0, 1, 2, 3, 4, 5, 7, 8, 9, 10, 11, 12] rfl)
    refine lv_if_ne (tgt := 111) hx hb dL_law_104 (by decide) (fun c_104 => ?_) (fun c_104 => ?_)
    · refine lv_iload hx hb dL_law_111 (lv_at hl 1 rfl) ?_
      refine lv_iload hx hb dL_law_113 (lv_at hl 0 rfl) ?_
      refine lv_irem hx hb dL_law_115 c_104 ?_
      exact K116 _
    · refine lv_iconst (v := 0) hx hb dL_law_107 (by decide) ?_
      refine lv_goto (tgt := 116) hx hb dL_law_108 (by decide) ?_
      exact K116 _
  refine lv_iload hx hb dL_law_72 (lv_at hl 1 rfl) ?_
  refine lv_iconst (v := 3) hx hb dL_law_74 (by decide) ?_
  refine lv_icmp_ge (tgt := 82) hx hb dL_law_75 (by decide) (fun c_75 => ?_) (fun c_75 => ?_)
  · refine lv_iload hx hb dL_law_82 (lv_at hl 0 rfl) ?_
    refine lv_bipush (v := 18) hx hb dL_law_84 (by decide) ?_
    refine lv_irem hx hb dL_law_86 (by decide) ?_
    exact K87 _
  · refine lv_iconst (v := 0) hx hb dL_law_78 (by decide) ?_
    refine lv_goto (tgt := 87) hx hb dL_law_79 (by decide) ?_
    exact K87 _

set_option maxHeartbeats 4000000 in
set_option maxRecDepth 100000 in
theorem lo_C (F : kx_F p s m c cL_law 15 RL #[Value.ref b] wsL_law G s.heap.size) (hlf : l.stackTraces = false) (hmo : mo < 4) (hw : w < 14) (hcl : cells + 0 ≤ 600130) (hsl : slots + 0 ≤ 7301080) (hR : ro_RR mo nb sg) (hn2 : ad 40 0 = nb) (ea : pa = ad 0 0) (eb : pb = ad 14 0) (hW : kx_Wd G s.heap.size ad nb sg H) (hS : va_S (kx_Ad s.heap.size) s.heap H locs) (hl : lv_has ls 15 [(12, .int dr), (11, .int (nI w)), (10, .int bx), (5, .int (nI k)), (4, .int 1), (3, .int (nI mo)), (2, .ref pb), (1, .ref pa), (0, .ref b)]) (kk : ∀ (nb1 : Nat) (ad1 : kx_A) (sg1 : kx_S) (H1 : Heap) (locs1 : List Loc) (ls1 : Array Slot), ro_RR mo nb1 sg1 → ad1 40 0 = nb1 → pa = ad1 0 0 → pb = ad1 14 0 → kx_Wd G s.heap.size ad1 nb1 sg1 H1 → va_S (kx_Ad s.heap.size) s.heap H1 locs1 → lv_has ls1 15 [(12, .int dr), (11, .int (nI w)), (10, .int bx), (5, .int (nI k)), (4, .int 1), (3, .int (nI mo)), (2, .ref pb), (1, .ref pa), (0, .ref b)] → W p l e room_1 s m #[Value.ref b] below meth c H1 locs1 (cells + 0) (slots + 0) Q (F0 m 833 ls1 [])) : W p l e room_1 s m #[Value.ref b] below meth c H locs cells slots Q (F0 m 777 ls []) := by
  have hx := F.1; have hb := F.2.1
  obtain ⟨-, -, -, eboxes, etime, -, einsurers, eentries⟩ := ro_ctx hR
  refine lv_iload hx hb dL_law_777 (lv_at hl 4 rfl) ?_
  refine lv_if_eq (tgt := 830) hx hb dL_law_779 (by decide) (fun c_779 => absurd c_779 (by decide)) (fun c_779 => ?_)
  refine lv_aload_n hx hb dL_law_782 rfl (lv_at hl 7 rfl) ?_
  refine lo_gA F (c_X3_time l G s.heap.size ad nb sg) gL_law_X3_time rfl (by decide +kernel) ⟨Nat.le_of_ble_eq_true rfl, Nat.le_of_ble_eq_true rfl⟩ hW hS hl.1 ea (Nat.le_of_ble_eq_true rfl) dL_law_783 ⟨by show _ ≤ 600130; omega, by show _ ≤ 7301080; omega⟩ (fun H locs hW hS => ?_)
  refine lv_aload_n hx hb dL_law_786 rfl (lv_at hl 6 rfl) ?_
  refine lo_gB F hn2 (c_X3_time l G s.heap.size (kx_swA ad nb) nb (kx_swS sg)) gL_law_X3_time rfl (by decide +kernel) ⟨Nat.le_of_ble_eq_true rfl, Nat.le_of_ble_eq_true rfl⟩ hW hS hl.1 eb (Nat.le_of_ble_eq_true rfl) dL_law_787 ⟨by show _ ≤ 600130; omega, by show _ ≤ 7301080; omega⟩ (fun H locs hW hS => ?_)
  rw [etime]
  refine lv_icmp_ne (tgt := 830) hx hb dL_law_790 (by decide) (fun c_790 => absurd rfl c_790) (fun c_790 => ?_)
  refine lv_aload_n hx hb dL_law_793 rfl (lv_at hl 7 rfl) ?_
  refine lo_gA F (c_X3_boxes l G s.heap.size ad nb sg) gL_law_X3_boxes rfl (by decide +kernel) ⟨Nat.le_of_ble_eq_true rfl, Nat.le_of_ble_eq_true rfl⟩ hW hS hl.1 ea (Nat.le_of_ble_eq_true rfl) dL_law_794 ⟨by show _ ≤ 600130; omega, by show _ ≤ 7301080; omega⟩ (fun H locs hW hS => ?_)
  refine lv_aload_n hx hb dL_law_797 rfl (lv_at hl 6 rfl) ?_
  refine lo_gB F hn2 (c_X3_boxes l G s.heap.size (kx_swA ad nb) nb (kx_swS sg)) gL_law_X3_boxes rfl (by decide +kernel) ⟨Nat.le_of_ble_eq_true rfl, Nat.le_of_ble_eq_true rfl⟩ hW hS hl.1 eb (Nat.le_of_ble_eq_true rfl) dL_law_798 ⟨by show _ ≤ 600130; omega, by show _ ≤ 7301080; omega⟩ (fun H locs hW hS => ?_)
  rw [eboxes]
  refine lv_icmp_ne (tgt := 830) hx hb dL_law_801 (by decide) (fun c_801 => absurd rfl c_801) (fun c_801 => ?_)
  refine lv_aload_n hx hb dL_law_804 rfl (lv_at hl 7 rfl) ?_
  refine lo_gA F (c_X3_insurers l G s.heap.size ad nb sg) gL_law_X3_insurers rfl (by decide +kernel) ⟨Nat.le_of_ble_eq_true rfl, Nat.le_of_ble_eq_true rfl⟩ hW hS hl.1 ea (Nat.le_of_ble_eq_true rfl) dL_law_805 ⟨by show _ ≤ 600130; omega, by show _ ≤ 7301080; omega⟩ (fun H locs hW hS => ?_)
  refine lv_aload_n hx hb dL_law_808 rfl (lv_at hl 6 rfl) ?_
  refine lo_gB F hn2 (c_X3_insurers l G s.heap.size (kx_swA ad nb) nb (kx_swS sg)) gL_law_X3_insurers rfl (by decide +kernel) ⟨Nat.le_of_ble_eq_true rfl, Nat.le_of_ble_eq_true rfl⟩ hW hS hl.1 eb (Nat.le_of_ble_eq_true rfl) dL_law_809 ⟨by show _ ≤ 600130; omega, by show _ ≤ 7301080; omega⟩ (fun H locs hW hS => ?_)
  rw [einsurers]
  refine lv_icmp_ne (tgt := 830) hx hb dL_law_812 (by decide) (fun c_812 => absurd rfl c_812) (fun c_812 => ?_)
  refine lv_aload_n hx hb dL_law_815 rfl (lv_at hl 7 rfl) ?_
  refine lo_gA F (c_X3_entries l G s.heap.size ad nb sg) gL_law_X3_entries rfl (by decide +kernel) ⟨Nat.le_of_ble_eq_true rfl, Nat.le_of_ble_eq_true rfl⟩ hW hS hl.1 ea (Nat.le_of_ble_eq_true rfl) dL_law_816 ⟨by show _ ≤ 600130; omega, by show _ ≤ 7301080; omega⟩ (fun H locs hW hS => ?_)
  refine lv_aload_n hx hb dL_law_819 rfl (lv_at hl 6 rfl) ?_
  refine lo_gB F hn2 (c_X3_entries l G s.heap.size (kx_swA ad nb) nb (kx_swS sg)) gL_law_X3_entries rfl (by decide +kernel) ⟨Nat.le_of_ble_eq_true rfl, Nat.le_of_ble_eq_true rfl⟩ hW hS hl.1 eb (Nat.le_of_ble_eq_true rfl) dL_law_820 ⟨by show _ ≤ 600130; omega, by show _ ≤ 7301080; omega⟩ (fun H locs hW hS => ?_)
  rw [eentries]
  refine lv_icmp_ne (tgt := 830) hx hb dL_law_823 (by decide) (fun c_823 => absurd rfl c_823) (fun c_823 => ?_)
  refine lv_iconst (v := 1) hx hb dL_law_826 (by decide) ?_
  refine lv_goto (tgt := 831) hx hb dL_law_827 (by decide) ?_
  refine lv_istore (lv' := [(4, .int 1), (12, .int dr), (11, .int (nI w)), (10, .int bx), (5, .int (nI k)), (3, .int (nI mo)), (2, .ref pb), (1, .ref pa), (0, .ref b)]) hx hb dL_law_831 hl (by decide) rfl (fun ls hl => ?_)
  exact W.widen (by omega) (by omega) (kk nb ad sg H locs ls hR hn2 ea eb hW hS (lv_sub hl [1, 2, 3, 4, 0, 5, 6, 7, 8] rfl))

set_option maxHeartbeats 4000000 in
set_option maxRecDepth 100000 in
theorem lo_D8 (F : kx_F p s m c cL_law 15 RL #[Value.ref b] wsL_law G s.heap.size) (hlf : l.stackTraces = false) (hmo : mo < 4) (hw : w < 14) (hcl : cells + 0 ≤ 600130) (hsl : slots + 0 ≤ 7301080) (hR : ro_RR mo nb sg) (hn2 : ad 40 0 = nb) (ea : pa = ad 0 0) (eb : pb = ad 14 0) (hW : kx_Wd G s.heap.size ad nb sg H) (hS : va_S (kx_Ad s.heap.size) s.heap H locs) (hl : lv_has ls 15 [(13, .int 8), (12, .int dr), (11, .int (nI w)), (10, .int bx), (5, .int (nI k)), (4, .int 1), (3, .int (nI mo)), (2, .ref pb), (1, .ref pa), (0, .ref b)]) (kk : ∀ (nb1 : Nat) (ad1 : kx_A) (sg1 : kx_S) (H1 : Heap) (locs1 : List Loc) (ls1 : Array Slot), ro_RR mo nb1 sg1 → ad1 40 0 = nb1 → pa = ad1 0 0 → pb = ad1 14 0 → kx_Wd G s.heap.size ad1 nb1 sg1 H1 → va_S (kx_Ad s.heap.size) s.heap H1 locs1 → lv_has ls1 15 [(12, .int dr), (11, .int (nI w)), (10, .int bx), (5, .int (nI k)), (4, .int 1), (3, .int (nI mo)), (2, .ref pb), (1, .ref pa), (0, .ref b)] → W p l e room_1 s m #[Value.ref b] below meth c H1 locs1 (cells + 0) (slots + 0) Q (F0 m 918 ls1 [])) : W p l e room_1 s m #[Value.ref b] below meth c H locs cells slots Q (F0 m 836 ls []) := by
  have hx := F.1; have hb := F.2.1
  refine lv_iload hx hb dL_law_836 (lv_at hl 0 rfl) ?_
  refine lv_bipush (v := 8) hx hb dL_law_838 (by decide) ?_
  refine lv_icmp_ge (tgt := 918) hx hb dL_law_840 (by decide) (fun c_840 => ?_) (fun c_840 => absurd c_840 (by decide))
  exact W.widen (by omega) (by omega) (kk nb ad sg H locs ls hR hn2 ea eb hW hS (lv_sub hl [1, 2, 3, 4, 5, 6, 7, 8, 9] rfl))

set_option maxHeartbeats 4000000 in
set_option maxRecDepth 100000 in
theorem lo_D7 (F : kx_F p s m c cL_law 15 RL #[Value.ref b] wsL_law G s.heap.size) (hlf : l.stackTraces = false) (hmo : mo < 4) (hw : w < 14) (hcl : cells + 2 ≤ 600130) (hsl : slots + 12 ≤ 7301080) (hR : ro_RR mo nb sg) (hn2 : ad 40 0 = nb) (ea : pa = ad 0 0) (eb : pb = ad 14 0) (hW : kx_Wd G s.heap.size ad nb sg H) (hS : va_S (kx_Ad s.heap.size) s.heap H locs) (hl : lv_has ls 15 [(13, .int 7), (12, .int dr), (11, .int (nI w)), (10, .int bx), (5, .int (nI k)), (4, .int 1), (3, .int (nI mo)), (2, .ref pb), (1, .ref pa), (0, .ref b)]) (kk : ∀ (nb1 : Nat) (ad1 : kx_A) (sg1 : kx_S) (H1 : Heap) (locs1 : List Loc) (ls1 : Array Slot), ro_RR mo nb1 sg1 → ad1 40 0 = nb1 → pa = ad1 0 0 → pb = ad1 14 0 → kx_Wd G s.heap.size ad1 nb1 sg1 H1 → va_S (kx_Ad s.heap.size) s.heap H1 locs1 → lv_has ls1 15 [(12, .int dr), (11, .int (nI w)), (10, .int bx), (5, .int (nI k)), (4, .int 1), (3, .int (nI mo)), (2, .ref pb), (1, .ref pa), (0, .ref b)] → W p l e room_1 s m #[Value.ref b] below meth c H1 locs1 (cells + 2) (slots + 12) Q (F0 m 918 ls1 [])) : W p l e room_1 s m #[Value.ref b] below meth c H locs cells slots Q (F0 m 836 ls []) := by
  have hx := F.1; have hb := F.2.1
  refine lv_iload hx hb dL_law_836 (lv_at hl 0 rfl) ?_
  refine lv_bipush (v := 8) hx hb dL_law_838 (by decide) ?_
  refine lv_icmp_ge (tgt := 918) hx hb dL_law_840 (by decide) (fun c_840 => absurd c_840 (by decide)) (fun c_840 => ?_)
  refine lv_iload hx hb dL_law_843 (lv_at hl 5 rfl) ?_
  refine lv_if_eq (tgt := 918) hx hb dL_law_845 (by decide) (fun c_845 => absurd c_845 (by decide)) (fun c_845 => ?_)
  refine lv_iload hx hb dL_law_848 (lv_at hl 4 rfl) ?_
  refine lv_iconst (v := 3) hx hb dL_law_850 (by decide) ?_
  refine lv_irem hx hb dL_law_851 (by decide) ?_
  refine lv_iconst (v := 2) hx hb dL_law_852 (by decide) ?_
  refine lv_icmp_ne (tgt := 918) hx hb dL_law_853 (by decide) (fun c_853 => ?_) (fun c_853 => ?_)
  · exact W.widen (by omega) (by omega) (kk nb ad sg H locs ls hR hn2 ea eb hW hS (lv_sub hl [1, 2, 3, 4, 5, 6, 7, 8, 9] rfl))
  · refine lv_iload hx hb dL_law_856 (lv_at hl 0 rfl) ?_
    refine lv_iconst (v := 5) hx hb dL_law_858 (by decide) ?_
    refine lv_icmp_le (tgt := 867) hx hb dL_law_859 (by decide) (fun c_859 => absurd c_859 (by decide)) (fun c_859 => ?_)
    refine lv_iload hx hb dL_law_862 (lv_at hl 1 rfl) ?_
    refine lv_goto (tgt := 869) hx hb dL_law_864 (by decide) ?_
    refine lv_istore (lv' := [(14, .int dr), (13, .int 7), (12, .int dr), (11, .int (nI w)), (10, .int bx), (5, .int (nI k)), (4, .int 1), (3, .int (nI mo)), (2, .ref pb), (1, .ref pa), (0, .ref b)]) hx hb dL_law_869 hl (by decide) rfl (fun ls hl => ?_)
    refine lv_iload hx hb dL_law_871 (lv_at hl 1 rfl) ?_
    refine lv_iconst (v := 2) hx hb dL_law_873 (by decide) ?_
    refine lv_icmp_ne (tgt := 886) hx hb dL_law_874 (by decide) (fun c_874 => ?_) (fun c_874 => absurd c_874 (by decide))
    refine lv_aload_n hx hb dL_law_886 rfl (lv_at hl 9 rfl) ?_
    refine lv_iload hx hb dL_law_887 (lv_at hl 1 rfl) ?_
    refine lv_iload hx hb dL_law_889 (lv_at hl 0 rfl) ?_
    refine lo_cA (na := 3) F (c_L_of_keptFor l hlf G s.heap.size ad nb sg (ro_CI1 hR) dr) gL_law_L_of rfl (by decide +kernel) ⟨Nat.le_of_ble_eq_true rfl, Nat.le_of_ble_eq_true rfl⟩ hW hS (As := [.ref (ad 0 0), .int 7, .int dr]) (rest := []) rfl hl.1 (by rw [ea]; rfl) (Nat.le_of_ble_eq_true rfl) dL_law_891 ⟨by show _ ≤ 600130; omega, by show _ ≤ 7301080; omega⟩ (fun a1 s1 H locs h1 hW hS => ?_)
    refine lv_aload_n hx hb dL_law_894 rfl (lv_at hl 8 rfl) ?_
    refine lv_iload hx hb dL_law_895 (lv_at hl 1 rfl) ?_
    refine lv_iload hx hb dL_law_897 (lv_at hl 0 rfl) ?_
    have hR2 := ro_in2 hR (rf_keptFor h1)
    refine lo_cB (na := 3) F hn2 (c_L_of_keptFor l hlf G s.heap.size (kx_swA ad nb) nb (kx_swS s1) (ro_CI2 hR2) dr) gL_law_L_of rfl (by decide +kernel) ⟨Nat.le_of_ble_eq_true rfl, Nat.le_of_ble_eq_true rfl⟩ hW hS (As := [.ref (kx_swA ad nb 0 0), .int 7, .int dr]) (rest := [.int a1]) rfl hl.1 (by rw [eb]; rfl) (Nat.le_of_ble_eq_true rfl) dL_law_899 ⟨by show _ ≤ 600130; omega, by show _ ≤ 7301080; omega⟩ (fun b1 t1 H locs g1 hW hS => ?_)
    obtain ⟨e1, hR⟩ := ry_keptFor hR h1 g1
    subst e1
    refine lv_icmp_ne (tgt := 909) hx hb dL_law_902 (by decide) (fun c_902 => absurd rfl c_902) (fun c_902 => ?_)
    refine lv_iconst (v := 1) hx hb dL_law_905 (by decide) ?_
    refine lv_goto (tgt := 910) hx hb dL_law_906 (by decide) ?_
    refine lv_istore (lv' := [(4, .int 1), (14, .int dr), (13, .int 7), (12, .int dr), (11, .int (nI w)), (10, .int bx), (5, .int (nI k)), (3, .int (nI mo)), (2, .ref pb), (1, .ref pa), (0, .ref b)]) hx hb dL_law_910 hl (by decide) rfl (fun ls hl => ?_)
    refine lv_iinc (v := 8) (lv' := [(13, .int 8), (4, .int 1), (14, .int dr), (12, .int dr), (11, .int (nI w)), (10, .int bx), (5, .int (nI k)), (3, .int (nI mo)), (2, .ref pb), (1, .ref pa), (0, .ref b)]) hx hb dL_law_912 hl (k := 2) rfl (by decide) (by decide) rfl (fun ls hl => ?_)
    refine lv_goto (tgt := 836) hx hb dL_law_915 (by decide) ?_
    exact W.widen (k := cells + 2) (n := slots + 12) (by omega) (by omega) (lo_D8 (cells := cells + 2) (slots := slots + 12) F hlf hmo hw (by omega) (by omega) hR hn2 ea eb hW hS (lv_sub hl [0, 3, 4, 5, 6, 1, 7, 8, 9, 10] rfl) (fun nb1 ad1 sg1 H1 locs1 ls1 r1 r2 r3 r4 r5 r6 r7 => W.widen (by omega) (by omega) (kk nb1 ad1 sg1 H1 locs1 ls1 r1 r2 r3 r4 r5 r6 r7)))

set_option maxHeartbeats 4000000 in
set_option maxRecDepth 100000 in
theorem lo_D6 (F : kx_F p s m c cL_law 15 RL #[Value.ref b] wsL_law G s.heap.size) (hlf : l.stackTraces = false) (hmo : mo < 4) (hw : w < 14) (hcl : cells + 4 ≤ 600130) (hsl : slots + 24 ≤ 7301080) (hR : ro_RR mo nb sg) (hn2 : ad 40 0 = nb) (ea : pa = ad 0 0) (eb : pb = ad 14 0) (hW : kx_Wd G s.heap.size ad nb sg H) (hS : va_S (kx_Ad s.heap.size) s.heap H locs) (hl : lv_has ls 15 [(13, .int 6), (12, .int dr), (11, .int (nI w)), (10, .int bx), (5, .int (nI k)), (4, .int 1), (3, .int (nI mo)), (2, .ref pb), (1, .ref pa), (0, .ref b)]) (kk : ∀ (nb1 : Nat) (ad1 : kx_A) (sg1 : kx_S) (H1 : Heap) (locs1 : List Loc) (ls1 : Array Slot), ro_RR mo nb1 sg1 → ad1 40 0 = nb1 → pa = ad1 0 0 → pb = ad1 14 0 → kx_Wd G s.heap.size ad1 nb1 sg1 H1 → va_S (kx_Ad s.heap.size) s.heap H1 locs1 → lv_has ls1 15 [(12, .int dr), (11, .int (nI w)), (10, .int bx), (5, .int (nI k)), (4, .int 1), (3, .int (nI mo)), (2, .ref pb), (1, .ref pa), (0, .ref b)] → W p l e room_1 s m #[Value.ref b] below meth c H1 locs1 (cells + 4) (slots + 24) Q (F0 m 918 ls1 [])) : W p l e room_1 s m #[Value.ref b] below meth c H locs cells slots Q (F0 m 836 ls []) := by
  have hx := F.1; have hb := F.2.1
  refine lv_iload hx hb dL_law_836 (lv_at hl 0 rfl) ?_
  refine lv_bipush (v := 8) hx hb dL_law_838 (by decide) ?_
  refine lv_icmp_ge (tgt := 918) hx hb dL_law_840 (by decide) (fun c_840 => absurd c_840 (by decide)) (fun c_840 => ?_)
  refine lv_iload hx hb dL_law_843 (lv_at hl 5 rfl) ?_
  refine lv_if_eq (tgt := 918) hx hb dL_law_845 (by decide) (fun c_845 => absurd c_845 (by decide)) (fun c_845 => ?_)
  refine lv_iload hx hb dL_law_848 (lv_at hl 4 rfl) ?_
  refine lv_iconst (v := 3) hx hb dL_law_850 (by decide) ?_
  refine lv_irem hx hb dL_law_851 (by decide) ?_
  refine lv_iconst (v := 2) hx hb dL_law_852 (by decide) ?_
  refine lv_icmp_ne (tgt := 918) hx hb dL_law_853 (by decide) (fun c_853 => ?_) (fun c_853 => ?_)
  · exact W.widen (by omega) (by omega) (kk nb ad sg H locs ls hR hn2 ea eb hW hS (lv_sub hl [1, 2, 3, 4, 5, 6, 7, 8, 9] rfl))
  · refine lv_iload hx hb dL_law_856 (lv_at hl 0 rfl) ?_
    refine lv_iconst (v := 5) hx hb dL_law_858 (by decide) ?_
    refine lv_icmp_le (tgt := 867) hx hb dL_law_859 (by decide) (fun c_859 => absurd c_859 (by decide)) (fun c_859 => ?_)
    refine lv_iload hx hb dL_law_862 (lv_at hl 1 rfl) ?_
    refine lv_goto (tgt := 869) hx hb dL_law_864 (by decide) ?_
    refine lv_istore (lv' := [(14, .int dr), (13, .int 6), (12, .int dr), (11, .int (nI w)), (10, .int bx), (5, .int (nI k)), (4, .int 1), (3, .int (nI mo)), (2, .ref pb), (1, .ref pa), (0, .ref b)]) hx hb dL_law_869 hl (by decide) rfl (fun ls hl => ?_)
    refine lv_iload hx hb dL_law_871 (lv_at hl 1 rfl) ?_
    refine lv_iconst (v := 2) hx hb dL_law_873 (by decide) ?_
    refine lv_icmp_ne (tgt := 886) hx hb dL_law_874 (by decide) (fun c_874 => ?_) (fun c_874 => absurd c_874 (by decide))
    refine lv_aload_n hx hb dL_law_886 rfl (lv_at hl 9 rfl) ?_
    refine lv_iload hx hb dL_law_887 (lv_at hl 1 rfl) ?_
    refine lv_iload hx hb dL_law_889 (lv_at hl 0 rfl) ?_
    refine lo_cA (na := 3) F (c_L_of_isJammed l hlf G s.heap.size ad nb sg (ro_CI1 hR) dr) gL_law_L_of rfl (by decide +kernel) ⟨Nat.le_of_ble_eq_true rfl, Nat.le_of_ble_eq_true rfl⟩ hW hS (As := [.ref (ad 0 0), .int 6, .int dr]) (rest := []) rfl hl.1 (by rw [ea]; rfl) (Nat.le_of_ble_eq_true rfl) dL_law_891 ⟨by show _ ≤ 600130; omega, by show _ ≤ 7301080; omega⟩ (fun a1 s1 H locs h1 hW hS => ?_)
    refine lv_aload_n hx hb dL_law_894 rfl (lv_at hl 8 rfl) ?_
    refine lv_iload hx hb dL_law_895 (lv_at hl 1 rfl) ?_
    refine lv_iload hx hb dL_law_897 (lv_at hl 0 rfl) ?_
    have hR2 := ro_in2 hR (rf_isJammed h1)
    refine lo_cB (na := 3) F hn2 (c_L_of_isJammed l hlf G s.heap.size (kx_swA ad nb) nb (kx_swS s1) (ro_CI2 hR2) dr) gL_law_L_of rfl (by decide +kernel) ⟨Nat.le_of_ble_eq_true rfl, Nat.le_of_ble_eq_true rfl⟩ hW hS (As := [.ref (kx_swA ad nb 0 0), .int 6, .int dr]) (rest := [.int a1]) rfl hl.1 (by rw [eb]; rfl) (Nat.le_of_ble_eq_true rfl) dL_law_899 ⟨by show _ ≤ 600130; omega, by show _ ≤ 7301080; omega⟩ (fun b1 t1 H locs g1 hW hS => ?_)
    obtain ⟨e1, hR⟩ := ry_isJammed hR h1 g1
    subst e1
    refine lv_icmp_ne (tgt := 909) hx hb dL_law_902 (by decide) (fun c_902 => absurd rfl c_902) (fun c_902 => ?_)
    refine lv_iconst (v := 1) hx hb dL_law_905 (by decide) ?_
    refine lv_goto (tgt := 910) hx hb dL_law_906 (by decide) ?_
    refine lv_istore (lv' := [(4, .int 1), (14, .int dr), (13, .int 6), (12, .int dr), (11, .int (nI w)), (10, .int bx), (5, .int (nI k)), (3, .int (nI mo)), (2, .ref pb), (1, .ref pa), (0, .ref b)]) hx hb dL_law_910 hl (by decide) rfl (fun ls hl => ?_)
    refine lv_iinc (v := 7) (lv' := [(13, .int 7), (4, .int 1), (14, .int dr), (12, .int dr), (11, .int (nI w)), (10, .int bx), (5, .int (nI k)), (3, .int (nI mo)), (2, .ref pb), (1, .ref pa), (0, .ref b)]) hx hb dL_law_912 hl (k := 2) rfl (by decide) (by decide) rfl (fun ls hl => ?_)
    refine lv_goto (tgt := 836) hx hb dL_law_915 (by decide) ?_
    exact W.widen (k := cells + 2) (n := slots + 12) (by omega) (by omega) (lo_D7 (cells := cells + 2) (slots := slots + 12) F hlf hmo hw (by omega) (by omega) hR hn2 ea eb hW hS (lv_sub hl [0, 3, 4, 5, 6, 1, 7, 8, 9, 10] rfl) (fun nb1 ad1 sg1 H1 locs1 ls1 r1 r2 r3 r4 r5 r6 r7 => W.widen (by omega) (by omega) (kk nb1 ad1 sg1 H1 locs1 ls1 r1 r2 r3 r4 r5 r6 r7)))

set_option maxHeartbeats 4000000 in
set_option maxRecDepth 100000 in
theorem lo_D5 (F : kx_F p s m c cL_law 15 RL #[Value.ref b] wsL_law G s.heap.size) (hlf : l.stackTraces = false) (hmo : mo < 4) (hw : w < 14) (hcl : cells + 6 ≤ 600130) (hsl : slots + 36 ≤ 7301080) (hR : ro_RR mo nb sg) (hn2 : ad 40 0 = nb) (ea : pa = ad 0 0) (eb : pb = ad 14 0) (hW : kx_Wd G s.heap.size ad nb sg H) (hS : va_S (kx_Ad s.heap.size) s.heap H locs) (hl : lv_has ls 15 [(13, .int 5), (12, .int dr), (11, .int (nI w)), (10, .int bx), (5, .int (nI k)), (4, .int 1), (3, .int (nI mo)), (2, .ref pb), (1, .ref pa), (0, .ref b)]) (kk : ∀ (nb1 : Nat) (ad1 : kx_A) (sg1 : kx_S) (H1 : Heap) (locs1 : List Loc) (ls1 : Array Slot), ro_RR mo nb1 sg1 → ad1 40 0 = nb1 → pa = ad1 0 0 → pb = ad1 14 0 → kx_Wd G s.heap.size ad1 nb1 sg1 H1 → va_S (kx_Ad s.heap.size) s.heap H1 locs1 → lv_has ls1 15 [(12, .int dr), (11, .int (nI w)), (10, .int bx), (5, .int (nI k)), (4, .int 1), (3, .int (nI mo)), (2, .ref pb), (1, .ref pa), (0, .ref b)] → W p l e room_1 s m #[Value.ref b] below meth c H1 locs1 (cells + 6) (slots + 36) Q (F0 m 918 ls1 [])) : W p l e room_1 s m #[Value.ref b] below meth c H locs cells slots Q (F0 m 836 ls []) := by
  have hx := F.1; have hb := F.2.1
  refine lv_iload hx hb dL_law_836 (lv_at hl 0 rfl) ?_
  refine lv_bipush (v := 8) hx hb dL_law_838 (by decide) ?_
  refine lv_icmp_ge (tgt := 918) hx hb dL_law_840 (by decide) (fun c_840 => absurd c_840 (by decide)) (fun c_840 => ?_)
  refine lv_iload hx hb dL_law_843 (lv_at hl 5 rfl) ?_
  refine lv_if_eq (tgt := 918) hx hb dL_law_845 (by decide) (fun c_845 => absurd c_845 (by decide)) (fun c_845 => ?_)
  refine lv_iload hx hb dL_law_848 (lv_at hl 4 rfl) ?_
  refine lv_iconst (v := 3) hx hb dL_law_850 (by decide) ?_
  refine lv_irem hx hb dL_law_851 (by decide) ?_
  refine lv_iconst (v := 2) hx hb dL_law_852 (by decide) ?_
  refine lv_icmp_ne (tgt := 918) hx hb dL_law_853 (by decide) (fun c_853 => ?_) (fun c_853 => ?_)
  · exact W.widen (by omega) (by omega) (kk nb ad sg H locs ls hR hn2 ea eb hW hS (lv_sub hl [1, 2, 3, 4, 5, 6, 7, 8, 9] rfl))
  · refine lv_iload hx hb dL_law_856 (lv_at hl 0 rfl) ?_
    refine lv_iconst (v := 5) hx hb dL_law_858 (by decide) ?_
    refine lv_icmp_le (tgt := 867) hx hb dL_law_859 (by decide) (fun c_859 => ?_) (fun c_859 => absurd c_859 (by decide))
    refine lv_iload hx hb dL_law_867 (lv_at hl 3 rfl) ?_
    refine lv_istore (lv' := [(14, .int bx), (13, .int 5), (12, .int dr), (11, .int (nI w)), (10, .int bx), (5, .int (nI k)), (4, .int 1), (3, .int (nI mo)), (2, .ref pb), (1, .ref pa), (0, .ref b)]) hx hb dL_law_869 hl (by decide) rfl (fun ls hl => ?_)
    refine lv_iload hx hb dL_law_871 (lv_at hl 1 rfl) ?_
    refine lv_iconst (v := 2) hx hb dL_law_873 (by decide) ?_
    refine lv_icmp_ne (tgt := 886) hx hb dL_law_874 (by decide) (fun c_874 => ?_) (fun c_874 => absurd c_874 (by decide))
    refine lv_aload_n hx hb dL_law_886 rfl (lv_at hl 9 rfl) ?_
    refine lv_iload hx hb dL_law_887 (lv_at hl 1 rfl) ?_
    refine lv_iload hx hb dL_law_889 (lv_at hl 0 rfl) ?_
    refine lo_cA (na := 3) F (c_L_of_fine l hlf G s.heap.size ad nb sg (ro_CI1 hR) bx) gL_law_L_of rfl (by decide +kernel) ⟨Nat.le_of_ble_eq_true rfl, Nat.le_of_ble_eq_true rfl⟩ hW hS (As := [.ref (ad 0 0), .int 5, .int bx]) (rest := []) rfl hl.1 (by rw [ea]; rfl) (Nat.le_of_ble_eq_true rfl) dL_law_891 ⟨by show _ ≤ 600130; omega, by show _ ≤ 7301080; omega⟩ (fun a1 s1 H locs h1 hW hS => ?_)
    refine lv_aload_n hx hb dL_law_894 rfl (lv_at hl 8 rfl) ?_
    refine lv_iload hx hb dL_law_895 (lv_at hl 1 rfl) ?_
    refine lv_iload hx hb dL_law_897 (lv_at hl 0 rfl) ?_
    have hR2 := ro_in2 hR (rf_fine h1)
    refine lo_cB (na := 3) F hn2 (c_L_of_fine l hlf G s.heap.size (kx_swA ad nb) nb (kx_swS s1) (ro_CI2 hR2) bx) gL_law_L_of rfl (by decide +kernel) ⟨Nat.le_of_ble_eq_true rfl, Nat.le_of_ble_eq_true rfl⟩ hW hS (As := [.ref (kx_swA ad nb 0 0), .int 5, .int bx]) (rest := [.int a1]) rfl hl.1 (by rw [eb]; rfl) (Nat.le_of_ble_eq_true rfl) dL_law_899 ⟨by show _ ≤ 600130; omega, by show _ ≤ 7301080; omega⟩ (fun b1 t1 H locs g1 hW hS => ?_)
    obtain ⟨e1, hR⟩ := ry_fine hR h1 g1
    subst e1
    refine lv_icmp_ne (tgt := 909) hx hb dL_law_902 (by decide) (fun c_902 => absurd rfl c_902) (fun c_902 => ?_)
    refine lv_iconst (v := 1) hx hb dL_law_905 (by decide) ?_
    refine lv_goto (tgt := 910) hx hb dL_law_906 (by decide) ?_
    refine lv_istore (lv' := [(4, .int 1), (14, .int bx), (13, .int 5), (12, .int dr), (11, .int (nI w)), (10, .int bx), (5, .int (nI k)), (3, .int (nI mo)), (2, .ref pb), (1, .ref pa), (0, .ref b)]) hx hb dL_law_910 hl (by decide) rfl (fun ls hl => ?_)
    refine lv_iinc (v := 6) (lv' := [(13, .int 6), (4, .int 1), (14, .int bx), (12, .int dr), (11, .int (nI w)), (10, .int bx), (5, .int (nI k)), (3, .int (nI mo)), (2, .ref pb), (1, .ref pa), (0, .ref b)]) hx hb dL_law_912 hl (k := 2) rfl (by decide) (by decide) rfl (fun ls hl => ?_)
    refine lv_goto (tgt := 836) hx hb dL_law_915 (by decide) ?_
    exact W.widen (k := cells + 2) (n := slots + 12) (by omega) (by omega) (lo_D6 (cells := cells + 2) (slots := slots + 12) F hlf hmo hw (by omega) (by omega) hR hn2 ea eb hW hS (lv_sub hl [0, 3, 4, 5, 6, 1, 7, 8, 9, 10] rfl) (fun nb1 ad1 sg1 H1 locs1 ls1 r1 r2 r3 r4 r5 r6 r7 => W.widen (by omega) (by omega) (kk nb1 ad1 sg1 H1 locs1 ls1 r1 r2 r3 r4 r5 r6 r7)))

set_option maxHeartbeats 4000000 in
set_option maxRecDepth 100000 in
theorem lo_D4 (F : kx_F p s m c cL_law 15 RL #[Value.ref b] wsL_law G s.heap.size) (hlf : l.stackTraces = false) (hmo : mo < 4) (hw : w < 14) (hcl : cells + 8 ≤ 600130) (hsl : slots + 48 ≤ 7301080) (hR : ro_RR mo nb sg) (hn2 : ad 40 0 = nb) (ea : pa = ad 0 0) (eb : pb = ad 14 0) (hW : kx_Wd G s.heap.size ad nb sg H) (hS : va_S (kx_Ad s.heap.size) s.heap H locs) (hl : lv_has ls 15 [(13, .int 4), (12, .int dr), (11, .int (nI w)), (10, .int bx), (5, .int (nI k)), (4, .int 1), (3, .int (nI mo)), (2, .ref pb), (1, .ref pa), (0, .ref b)]) (kk : ∀ (nb1 : Nat) (ad1 : kx_A) (sg1 : kx_S) (H1 : Heap) (locs1 : List Loc) (ls1 : Array Slot), ro_RR mo nb1 sg1 → ad1 40 0 = nb1 → pa = ad1 0 0 → pb = ad1 14 0 → kx_Wd G s.heap.size ad1 nb1 sg1 H1 → va_S (kx_Ad s.heap.size) s.heap H1 locs1 → lv_has ls1 15 [(12, .int dr), (11, .int (nI w)), (10, .int bx), (5, .int (nI k)), (4, .int 1), (3, .int (nI mo)), (2, .ref pb), (1, .ref pa), (0, .ref b)] → W p l e room_1 s m #[Value.ref b] below meth c H1 locs1 (cells + 8) (slots + 48) Q (F0 m 918 ls1 [])) : W p l e room_1 s m #[Value.ref b] below meth c H locs cells slots Q (F0 m 836 ls []) := by
  have hx := F.1; have hb := F.2.1
  refine lv_iload hx hb dL_law_836 (lv_at hl 0 rfl) ?_
  refine lv_bipush (v := 8) hx hb dL_law_838 (by decide) ?_
  refine lv_icmp_ge (tgt := 918) hx hb dL_law_840 (by decide) (fun c_840 => absurd c_840 (by decide)) (fun c_840 => ?_)
  refine lv_iload hx hb dL_law_843 (lv_at hl 5 rfl) ?_
  refine lv_if_eq (tgt := 918) hx hb dL_law_845 (by decide) (fun c_845 => absurd c_845 (by decide)) (fun c_845 => ?_)
  refine lv_iload hx hb dL_law_848 (lv_at hl 4 rfl) ?_
  refine lv_iconst (v := 3) hx hb dL_law_850 (by decide) ?_
  refine lv_irem hx hb dL_law_851 (by decide) ?_
  refine lv_iconst (v := 2) hx hb dL_law_852 (by decide) ?_
  refine lv_icmp_ne (tgt := 918) hx hb dL_law_853 (by decide) (fun c_853 => ?_) (fun c_853 => ?_)
  · exact W.widen (by omega) (by omega) (kk nb ad sg H locs ls hR hn2 ea eb hW hS (lv_sub hl [1, 2, 3, 4, 5, 6, 7, 8, 9] rfl))
  · refine lv_iload hx hb dL_law_856 (lv_at hl 0 rfl) ?_
    refine lv_iconst (v := 5) hx hb dL_law_858 (by decide) ?_
    refine lv_icmp_le (tgt := 867) hx hb dL_law_859 (by decide) (fun c_859 => ?_) (fun c_859 => absurd c_859 (by decide))
    refine lv_iload hx hb dL_law_867 (lv_at hl 3 rfl) ?_
    refine lv_istore (lv' := [(14, .int bx), (13, .int 4), (12, .int dr), (11, .int (nI w)), (10, .int bx), (5, .int (nI k)), (4, .int 1), (3, .int (nI mo)), (2, .ref pb), (1, .ref pa), (0, .ref b)]) hx hb dL_law_869 hl (by decide) rfl (fun ls hl => ?_)
    refine lv_iload hx hb dL_law_871 (lv_at hl 1 rfl) ?_
    refine lv_iconst (v := 2) hx hb dL_law_873 (by decide) ?_
    refine lv_icmp_ne (tgt := 886) hx hb dL_law_874 (by decide) (fun c_874 => ?_) (fun c_874 => absurd c_874 (by decide))
    refine lv_aload_n hx hb dL_law_886 rfl (lv_at hl 9 rfl) ?_
    refine lv_iload hx hb dL_law_887 (lv_at hl 1 rfl) ?_
    refine lv_iload hx hb dL_law_889 (lv_at hl 0 rfl) ?_
    refine lo_cA (na := 3) F (c_L_of_isInsured l hlf G s.heap.size ad nb sg (ro_CI1 hR) bx) gL_law_L_of rfl (by decide +kernel) ⟨Nat.le_of_ble_eq_true rfl, Nat.le_of_ble_eq_true rfl⟩ hW hS (As := [.ref (ad 0 0), .int 4, .int bx]) (rest := []) rfl hl.1 (by rw [ea]; rfl) (Nat.le_of_ble_eq_true rfl) dL_law_891 ⟨by show _ ≤ 600130; omega, by show _ ≤ 7301080; omega⟩ (fun a1 s1 H locs h1 hW hS => ?_)
    refine lv_aload_n hx hb dL_law_894 rfl (lv_at hl 8 rfl) ?_
    refine lv_iload hx hb dL_law_895 (lv_at hl 1 rfl) ?_
    refine lv_iload hx hb dL_law_897 (lv_at hl 0 rfl) ?_
    have hR2 := ro_in2 hR (rf_isInsured h1)
    refine lo_cB (na := 3) F hn2 (c_L_of_isInsured l hlf G s.heap.size (kx_swA ad nb) nb (kx_swS s1) (ro_CI2 hR2) bx) gL_law_L_of rfl (by decide +kernel) ⟨Nat.le_of_ble_eq_true rfl, Nat.le_of_ble_eq_true rfl⟩ hW hS (As := [.ref (kx_swA ad nb 0 0), .int 4, .int bx]) (rest := [.int a1]) rfl hl.1 (by rw [eb]; rfl) (Nat.le_of_ble_eq_true rfl) dL_law_899 ⟨by show _ ≤ 600130; omega, by show _ ≤ 7301080; omega⟩ (fun b1 t1 H locs g1 hW hS => ?_)
    obtain ⟨e1, hR⟩ := ry_isInsured hR h1 g1
    subst e1
    refine lv_icmp_ne (tgt := 909) hx hb dL_law_902 (by decide) (fun c_902 => absurd rfl c_902) (fun c_902 => ?_)
    refine lv_iconst (v := 1) hx hb dL_law_905 (by decide) ?_
    refine lv_goto (tgt := 910) hx hb dL_law_906 (by decide) ?_
    refine lv_istore (lv' := [(4, .int 1), (14, .int bx), (13, .int 4), (12, .int dr), (11, .int (nI w)), (10, .int bx), (5, .int (nI k)), (3, .int (nI mo)), (2, .ref pb), (1, .ref pa), (0, .ref b)]) hx hb dL_law_910 hl (by decide) rfl (fun ls hl => ?_)
    refine lv_iinc (v := 5) (lv' := [(13, .int 5), (4, .int 1), (14, .int bx), (12, .int dr), (11, .int (nI w)), (10, .int bx), (5, .int (nI k)), (3, .int (nI mo)), (2, .ref pb), (1, .ref pa), (0, .ref b)]) hx hb dL_law_912 hl (k := 2) rfl (by decide) (by decide) rfl (fun ls hl => ?_)
    refine lv_goto (tgt := 836) hx hb dL_law_915 (by decide) ?_
    exact W.widen (k := cells + 2) (n := slots + 12) (by omega) (by omega) (lo_D5 (cells := cells + 2) (slots := slots + 12) F hlf hmo hw (by omega) (by omega) hR hn2 ea eb hW hS (lv_sub hl [0, 3, 4, 5, 6, 1, 7, 8, 9, 10] rfl) (fun nb1 ad1 sg1 H1 locs1 ls1 r1 r2 r3 r4 r5 r6 r7 => W.widen (by omega) (by omega) (kk nb1 ad1 sg1 H1 locs1 ls1 r1 r2 r3 r4 r5 r6 r7)))

set_option maxHeartbeats 4000000 in
set_option maxRecDepth 100000 in
theorem lo_D3 (F : kx_F p s m c cL_law 15 RL #[Value.ref b] wsL_law G s.heap.size) (hlf : l.stackTraces = false) (hmo : mo < 4) (hw : w < 14) (hcl : cells + 10 ≤ 600130) (hsl : slots + 60 ≤ 7301080) (hR : ro_RR mo nb sg) (hn2 : ad 40 0 = nb) (ea : pa = ad 0 0) (eb : pb = ad 14 0) (hW : kx_Wd G s.heap.size ad nb sg H) (hS : va_S (kx_Ad s.heap.size) s.heap H locs) (hl : lv_has ls 15 [(13, .int 3), (12, .int dr), (11, .int (nI w)), (10, .int bx), (5, .int (nI k)), (4, .int 1), (3, .int (nI mo)), (2, .ref pb), (1, .ref pa), (0, .ref b)]) (kk : ∀ (nb1 : Nat) (ad1 : kx_A) (sg1 : kx_S) (H1 : Heap) (locs1 : List Loc) (ls1 : Array Slot), ro_RR mo nb1 sg1 → ad1 40 0 = nb1 → pa = ad1 0 0 → pb = ad1 14 0 → kx_Wd G s.heap.size ad1 nb1 sg1 H1 → va_S (kx_Ad s.heap.size) s.heap H1 locs1 → lv_has ls1 15 [(12, .int dr), (11, .int (nI w)), (10, .int bx), (5, .int (nI k)), (4, .int 1), (3, .int (nI mo)), (2, .ref pb), (1, .ref pa), (0, .ref b)] → W p l e room_1 s m #[Value.ref b] below meth c H1 locs1 (cells + 10) (slots + 60) Q (F0 m 918 ls1 [])) : W p l e room_1 s m #[Value.ref b] below meth c H locs cells slots Q (F0 m 836 ls []) := by
  have hx := F.1; have hb := F.2.1
  refine lv_iload hx hb dL_law_836 (lv_at hl 0 rfl) ?_
  refine lv_bipush (v := 8) hx hb dL_law_838 (by decide) ?_
  refine lv_icmp_ge (tgt := 918) hx hb dL_law_840 (by decide) (fun c_840 => absurd c_840 (by decide)) (fun c_840 => ?_)
  refine lv_iload hx hb dL_law_843 (lv_at hl 5 rfl) ?_
  refine lv_if_eq (tgt := 918) hx hb dL_law_845 (by decide) (fun c_845 => absurd c_845 (by decide)) (fun c_845 => ?_)
  refine lv_iload hx hb dL_law_848 (lv_at hl 4 rfl) ?_
  refine lv_iconst (v := 3) hx hb dL_law_850 (by decide) ?_
  refine lv_irem hx hb dL_law_851 (by decide) ?_
  refine lv_iconst (v := 2) hx hb dL_law_852 (by decide) ?_
  refine lv_icmp_ne (tgt := 918) hx hb dL_law_853 (by decide) (fun c_853 => ?_) (fun c_853 => ?_)
  · exact W.widen (by omega) (by omega) (kk nb ad sg H locs ls hR hn2 ea eb hW hS (lv_sub hl [1, 2, 3, 4, 5, 6, 7, 8, 9] rfl))
  · refine lv_iload hx hb dL_law_856 (lv_at hl 0 rfl) ?_
    refine lv_iconst (v := 5) hx hb dL_law_858 (by decide) ?_
    refine lv_icmp_le (tgt := 867) hx hb dL_law_859 (by decide) (fun c_859 => ?_) (fun c_859 => absurd c_859 (by decide))
    refine lv_iload hx hb dL_law_867 (lv_at hl 3 rfl) ?_
    refine lv_istore (lv' := [(14, .int bx), (13, .int 3), (12, .int dr), (11, .int (nI w)), (10, .int bx), (5, .int (nI k)), (4, .int 1), (3, .int (nI mo)), (2, .ref pb), (1, .ref pa), (0, .ref b)]) hx hb dL_law_869 hl (by decide) rfl (fun ls hl => ?_)
    refine lv_iload hx hb dL_law_871 (lv_at hl 1 rfl) ?_
    refine lv_iconst (v := 2) hx hb dL_law_873 (by decide) ?_
    refine lv_icmp_ne (tgt := 886) hx hb dL_law_874 (by decide) (fun c_874 => ?_) (fun c_874 => absurd c_874 (by decide))
    refine lv_aload_n hx hb dL_law_886 rfl (lv_at hl 9 rfl) ?_
    refine lv_iload hx hb dL_law_887 (lv_at hl 1 rfl) ?_
    refine lv_iload hx hb dL_law_889 (lv_at hl 0 rfl) ?_
    refine lo_cA (na := 3) F (c_L_of_hasFee l hlf G s.heap.size ad nb sg (ro_CI1 hR) bx) gL_law_L_of rfl (by decide +kernel) ⟨Nat.le_of_ble_eq_true rfl, Nat.le_of_ble_eq_true rfl⟩ hW hS (As := [.ref (ad 0 0), .int 3, .int bx]) (rest := []) rfl hl.1 (by rw [ea]; rfl) (Nat.le_of_ble_eq_true rfl) dL_law_891 ⟨by show _ ≤ 600130; omega, by show _ ≤ 7301080; omega⟩ (fun a1 s1 H locs h1 hW hS => ?_)
    refine lv_aload_n hx hb dL_law_894 rfl (lv_at hl 8 rfl) ?_
    refine lv_iload hx hb dL_law_895 (lv_at hl 1 rfl) ?_
    refine lv_iload hx hb dL_law_897 (lv_at hl 0 rfl) ?_
    have hR2 := ro_in2 hR (rf_hasFee h1)
    refine lo_cB (na := 3) F hn2 (c_L_of_hasFee l hlf G s.heap.size (kx_swA ad nb) nb (kx_swS s1) (ro_CI2 hR2) bx) gL_law_L_of rfl (by decide +kernel) ⟨Nat.le_of_ble_eq_true rfl, Nat.le_of_ble_eq_true rfl⟩ hW hS (As := [.ref (kx_swA ad nb 0 0), .int 3, .int bx]) (rest := [.int a1]) rfl hl.1 (by rw [eb]; rfl) (Nat.le_of_ble_eq_true rfl) dL_law_899 ⟨by show _ ≤ 600130; omega, by show _ ≤ 7301080; omega⟩ (fun b1 t1 H locs g1 hW hS => ?_)
    obtain ⟨e1, hR⟩ := ry_hasFee hR h1 g1
    subst e1
    refine lv_icmp_ne (tgt := 909) hx hb dL_law_902 (by decide) (fun c_902 => absurd rfl c_902) (fun c_902 => ?_)
    refine lv_iconst (v := 1) hx hb dL_law_905 (by decide) ?_
    refine lv_goto (tgt := 910) hx hb dL_law_906 (by decide) ?_
    refine lv_istore (lv' := [(4, .int 1), (14, .int bx), (13, .int 3), (12, .int dr), (11, .int (nI w)), (10, .int bx), (5, .int (nI k)), (3, .int (nI mo)), (2, .ref pb), (1, .ref pa), (0, .ref b)]) hx hb dL_law_910 hl (by decide) rfl (fun ls hl => ?_)
    refine lv_iinc (v := 4) (lv' := [(13, .int 4), (4, .int 1), (14, .int bx), (12, .int dr), (11, .int (nI w)), (10, .int bx), (5, .int (nI k)), (3, .int (nI mo)), (2, .ref pb), (1, .ref pa), (0, .ref b)]) hx hb dL_law_912 hl (k := 2) rfl (by decide) (by decide) rfl (fun ls hl => ?_)
    refine lv_goto (tgt := 836) hx hb dL_law_915 (by decide) ?_
    exact W.widen (k := cells + 2) (n := slots + 12) (by omega) (by omega) (lo_D4 (cells := cells + 2) (slots := slots + 12) F hlf hmo hw (by omega) (by omega) hR hn2 ea eb hW hS (lv_sub hl [0, 3, 4, 5, 6, 1, 7, 8, 9, 10] rfl) (fun nb1 ad1 sg1 H1 locs1 ls1 r1 r2 r3 r4 r5 r6 r7 => W.widen (by omega) (by omega) (kk nb1 ad1 sg1 H1 locs1 ls1 r1 r2 r3 r4 r5 r6 r7)))

set_option maxHeartbeats 4000000 in
set_option maxRecDepth 100000 in
theorem lo_D2 (F : kx_F p s m c cL_law 15 RL #[Value.ref b] wsL_law G s.heap.size) (hlf : l.stackTraces = false) (hmo : mo < 4) (hw : w < 14) (hcl : cells + 12 ≤ 600130) (hsl : slots + 72 ≤ 7301080) (hR : ro_RR mo nb sg) (hn2 : ad 40 0 = nb) (ea : pa = ad 0 0) (eb : pb = ad 14 0) (hW : kx_Wd G s.heap.size ad nb sg H) (hS : va_S (kx_Ad s.heap.size) s.heap H locs) (hl : lv_has ls 15 [(13, .int 2), (12, .int dr), (11, .int (nI w)), (10, .int bx), (5, .int (nI k)), (4, .int 1), (3, .int (nI mo)), (2, .ref pb), (1, .ref pa), (0, .ref b)]) (kk : ∀ (nb1 : Nat) (ad1 : kx_A) (sg1 : kx_S) (H1 : Heap) (locs1 : List Loc) (ls1 : Array Slot), ro_RR mo nb1 sg1 → ad1 40 0 = nb1 → pa = ad1 0 0 → pb = ad1 14 0 → kx_Wd G s.heap.size ad1 nb1 sg1 H1 → va_S (kx_Ad s.heap.size) s.heap H1 locs1 → lv_has ls1 15 [(12, .int dr), (11, .int (nI w)), (10, .int bx), (5, .int (nI k)), (4, .int 1), (3, .int (nI mo)), (2, .ref pb), (1, .ref pa), (0, .ref b)] → W p l e room_1 s m #[Value.ref b] below meth c H1 locs1 (cells + 12) (slots + 72) Q (F0 m 918 ls1 [])) : W p l e room_1 s m #[Value.ref b] below meth c H locs cells slots Q (F0 m 836 ls []) := by
  have hx := F.1; have hb := F.2.1
  refine lv_iload hx hb dL_law_836 (lv_at hl 0 rfl) ?_
  refine lv_bipush (v := 8) hx hb dL_law_838 (by decide) ?_
  refine lv_icmp_ge (tgt := 918) hx hb dL_law_840 (by decide) (fun c_840 => absurd c_840 (by decide)) (fun c_840 => ?_)
  refine lv_iload hx hb dL_law_843 (lv_at hl 5 rfl) ?_
  refine lv_if_eq (tgt := 918) hx hb dL_law_845 (by decide) (fun c_845 => absurd c_845 (by decide)) (fun c_845 => ?_)
  refine lv_iload hx hb dL_law_848 (lv_at hl 4 rfl) ?_
  refine lv_iconst (v := 3) hx hb dL_law_850 (by decide) ?_
  refine lv_irem hx hb dL_law_851 (by decide) ?_
  refine lv_iconst (v := 2) hx hb dL_law_852 (by decide) ?_
  refine lv_icmp_ne (tgt := 918) hx hb dL_law_853 (by decide) (fun c_853 => ?_) (fun c_853 => ?_)
  · exact W.widen (by omega) (by omega) (kk nb ad sg H locs ls hR hn2 ea eb hW hS (lv_sub hl [1, 2, 3, 4, 5, 6, 7, 8, 9] rfl))
  · refine lv_iload hx hb dL_law_856 (lv_at hl 0 rfl) ?_
    refine lv_iconst (v := 5) hx hb dL_law_858 (by decide) ?_
    refine lv_icmp_le (tgt := 867) hx hb dL_law_859 (by decide) (fun c_859 => ?_) (fun c_859 => absurd c_859 (by decide))
    refine lv_iload hx hb dL_law_867 (lv_at hl 3 rfl) ?_
    refine lv_istore (lv' := [(14, .int bx), (13, .int 2), (12, .int dr), (11, .int (nI w)), (10, .int bx), (5, .int (nI k)), (4, .int 1), (3, .int (nI mo)), (2, .ref pb), (1, .ref pa), (0, .ref b)]) hx hb dL_law_869 hl (by decide) rfl (fun ls hl => ?_)
    refine lv_iload hx hb dL_law_871 (lv_at hl 1 rfl) ?_
    refine lv_iconst (v := 2) hx hb dL_law_873 (by decide) ?_
    refine lv_icmp_ne (tgt := 886) hx hb dL_law_874 (by decide) (fun c_874 => absurd c_874 (by decide)) (fun c_874 => ?_)
    refine lv_iload hx hb dL_law_877 (lv_at hl 5 rfl) ?_
    refine lv_bipush (v := 9) hx hb dL_law_879 (by decide) ?_
    refine lv_irem hx hb dL_law_881 (by decide) ?_
    refine lv_iconst (v := 2) hx hb dL_law_882 (by decide) ?_
    refine lv_icmp_gt (tgt := 905) hx hb dL_law_883 (by decide) (fun c_883 => ?_) (fun c_883 => ?_)
    · refine lv_iconst (v := 1) hx hb dL_law_905 (by decide) ?_
      refine lv_goto (tgt := 910) hx hb dL_law_906 (by decide) ?_
      refine lv_istore (lv' := [(4, .int 1), (14, .int bx), (13, .int 2), (12, .int dr), (11, .int (nI w)), (10, .int bx), (5, .int (nI k)), (3, .int (nI mo)), (2, .ref pb), (1, .ref pa), (0, .ref b)]) hx hb dL_law_910 hl (by decide) rfl (fun ls hl => ?_)
      refine lv_iinc (v := 3) (lv' := [(13, .int 3), (4, .int 1), (14, .int bx), (12, .int dr), (11, .int (nI w)), (10, .int bx), (5, .int (nI k)), (3, .int (nI mo)), (2, .ref pb), (1, .ref pa), (0, .ref b)]) hx hb dL_law_912 hl (k := 2) rfl (by decide) (by decide) rfl (fun ls hl => ?_)
      refine lv_goto (tgt := 836) hx hb dL_law_915 (by decide) ?_
      exact W.widen (k := cells + 2) (n := slots + 12) (by omega) (by omega) (lo_D3 (cells := cells + 2) (slots := slots + 12) F hlf hmo hw (by omega) (by omega) hR hn2 ea eb hW hS (lv_sub hl [0, 3, 4, 5, 6, 1, 7, 8, 9, 10] rfl) (fun nb1 ad1 sg1 H1 locs1 ls1 r1 r2 r3 r4 r5 r6 r7 => W.widen (by omega) (by omega) (kk nb1 ad1 sg1 H1 locs1 ls1 r1 r2 r3 r4 r5 r6 r7)))
    · refine lv_aload_n hx hb dL_law_886 rfl (lv_at hl 9 rfl) ?_
      refine lv_iload hx hb dL_law_887 (lv_at hl 1 rfl) ?_
      refine lv_iload hx hb dL_law_889 (lv_at hl 0 rfl) ?_
      refine lo_cA (na := 3) F (c_L_of_storyOfAll l hlf G s.heap.size ad nb sg (ro_CI1 hR) bx) gL_law_L_of rfl (by decide +kernel) ⟨Nat.le_of_ble_eq_true rfl, Nat.le_of_ble_eq_true rfl⟩ hW hS (As := [.ref (ad 0 0), .int 2, .int bx]) (rest := []) rfl hl.1 (by rw [ea]; rfl) (Nat.le_of_ble_eq_true rfl) dL_law_891 ⟨by show _ ≤ 600130; omega, by show _ ≤ 7301080; omega⟩ (fun a1 s1 H locs h1 hW hS => ?_)
      refine lv_aload_n hx hb dL_law_894 rfl (lv_at hl 8 rfl) ?_
      refine lv_iload hx hb dL_law_895 (lv_at hl 1 rfl) ?_
      refine lv_iload hx hb dL_law_897 (lv_at hl 0 rfl) ?_
      have hR2 := ro_in2 hR (rf_storyOfAll h1)
      refine lo_cB (na := 3) F hn2 (c_L_of_storyOfAll l hlf G s.heap.size (kx_swA ad nb) nb (kx_swS s1) (ro_CI2 hR2) bx) gL_law_L_of rfl (by decide +kernel) ⟨Nat.le_of_ble_eq_true rfl, Nat.le_of_ble_eq_true rfl⟩ hW hS (As := [.ref (kx_swA ad nb 0 0), .int 2, .int bx]) (rest := [.int a1]) rfl hl.1 (by rw [eb]; rfl) (Nat.le_of_ble_eq_true rfl) dL_law_899 ⟨by show _ ≤ 600130; omega, by show _ ≤ 7301080; omega⟩ (fun b1 t1 H locs g1 hW hS => ?_)
      obtain ⟨e1, hR⟩ := ry_storyOfAll hR h1 g1
      subst e1
      refine lv_icmp_ne (tgt := 909) hx hb dL_law_902 (by decide) (fun c_902 => absurd rfl c_902) (fun c_902 => ?_)
      refine lv_iconst (v := 1) hx hb dL_law_905 (by decide) ?_
      refine lv_goto (tgt := 910) hx hb dL_law_906 (by decide) ?_
      refine lv_istore (lv' := [(4, .int 1), (14, .int bx), (13, .int 2), (12, .int dr), (11, .int (nI w)), (10, .int bx), (5, .int (nI k)), (3, .int (nI mo)), (2, .ref pb), (1, .ref pa), (0, .ref b)]) hx hb dL_law_910 hl (by decide) rfl (fun ls hl => ?_)
      refine lv_iinc (v := 3) (lv' := [(13, .int 3), (4, .int 1), (14, .int bx), (12, .int dr), (11, .int (nI w)), (10, .int bx), (5, .int (nI k)), (3, .int (nI mo)), (2, .ref pb), (1, .ref pa), (0, .ref b)]) hx hb dL_law_912 hl (k := 2) rfl (by decide) (by decide) rfl (fun ls hl => ?_)
      refine lv_goto (tgt := 836) hx hb dL_law_915 (by decide) ?_
      exact W.widen (k := cells + 2) (n := slots + 12) (by omega) (by omega) (lo_D3 (cells := cells + 2) (slots := slots + 12) F hlf hmo hw (by omega) (by omega) hR hn2 ea eb hW hS (lv_sub hl [0, 3, 4, 5, 6, 1, 7, 8, 9, 10] rfl) (fun nb1 ad1 sg1 H1 locs1 ls1 r1 r2 r3 r4 r5 r6 r7 => W.widen (by omega) (by omega) (kk nb1 ad1 sg1 H1 locs1 ls1 r1 r2 r3 r4 r5 r6 r7)))

set_option maxHeartbeats 4000000 in
set_option maxRecDepth 100000 in
theorem lo_D1 (F : kx_F p s m c cL_law 15 RL #[Value.ref b] wsL_law G s.heap.size) (hlf : l.stackTraces = false) (hmo : mo < 4) (hw : w < 14) (hcl : cells + 14 ≤ 600130) (hsl : slots + 84 ≤ 7301080) (hR : ro_RR mo nb sg) (hn2 : ad 40 0 = nb) (ea : pa = ad 0 0) (eb : pb = ad 14 0) (hW : kx_Wd G s.heap.size ad nb sg H) (hS : va_S (kx_Ad s.heap.size) s.heap H locs) (hl : lv_has ls 15 [(13, .int 1), (12, .int dr), (11, .int (nI w)), (10, .int bx), (5, .int (nI k)), (4, .int 1), (3, .int (nI mo)), (2, .ref pb), (1, .ref pa), (0, .ref b)]) (kk : ∀ (nb1 : Nat) (ad1 : kx_A) (sg1 : kx_S) (H1 : Heap) (locs1 : List Loc) (ls1 : Array Slot), ro_RR mo nb1 sg1 → ad1 40 0 = nb1 → pa = ad1 0 0 → pb = ad1 14 0 → kx_Wd G s.heap.size ad1 nb1 sg1 H1 → va_S (kx_Ad s.heap.size) s.heap H1 locs1 → lv_has ls1 15 [(12, .int dr), (11, .int (nI w)), (10, .int bx), (5, .int (nI k)), (4, .int 1), (3, .int (nI mo)), (2, .ref pb), (1, .ref pa), (0, .ref b)] → W p l e room_1 s m #[Value.ref b] below meth c H1 locs1 (cells + 14) (slots + 84) Q (F0 m 918 ls1 [])) : W p l e room_1 s m #[Value.ref b] below meth c H locs cells slots Q (F0 m 836 ls []) := by
  have hx := F.1; have hb := F.2.1
  refine lv_iload hx hb dL_law_836 (lv_at hl 0 rfl) ?_
  refine lv_bipush (v := 8) hx hb dL_law_838 (by decide) ?_
  refine lv_icmp_ge (tgt := 918) hx hb dL_law_840 (by decide) (fun c_840 => absurd c_840 (by decide)) (fun c_840 => ?_)
  refine lv_iload hx hb dL_law_843 (lv_at hl 5 rfl) ?_
  refine lv_if_eq (tgt := 918) hx hb dL_law_845 (by decide) (fun c_845 => absurd c_845 (by decide)) (fun c_845 => ?_)
  refine lv_iload hx hb dL_law_848 (lv_at hl 4 rfl) ?_
  refine lv_iconst (v := 3) hx hb dL_law_850 (by decide) ?_
  refine lv_irem hx hb dL_law_851 (by decide) ?_
  refine lv_iconst (v := 2) hx hb dL_law_852 (by decide) ?_
  refine lv_icmp_ne (tgt := 918) hx hb dL_law_853 (by decide) (fun c_853 => ?_) (fun c_853 => ?_)
  · exact W.widen (by omega) (by omega) (kk nb ad sg H locs ls hR hn2 ea eb hW hS (lv_sub hl [1, 2, 3, 4, 5, 6, 7, 8, 9] rfl))
  · refine lv_iload hx hb dL_law_856 (lv_at hl 0 rfl) ?_
    refine lv_iconst (v := 5) hx hb dL_law_858 (by decide) ?_
    refine lv_icmp_le (tgt := 867) hx hb dL_law_859 (by decide) (fun c_859 => ?_) (fun c_859 => absurd c_859 (by decide))
    refine lv_iload hx hb dL_law_867 (lv_at hl 3 rfl) ?_
    refine lv_istore (lv' := [(14, .int bx), (13, .int 1), (12, .int dr), (11, .int (nI w)), (10, .int bx), (5, .int (nI k)), (4, .int 1), (3, .int (nI mo)), (2, .ref pb), (1, .ref pa), (0, .ref b)]) hx hb dL_law_869 hl (by decide) rfl (fun ls hl => ?_)
    refine lv_iload hx hb dL_law_871 (lv_at hl 1 rfl) ?_
    refine lv_iconst (v := 2) hx hb dL_law_873 (by decide) ?_
    refine lv_icmp_ne (tgt := 886) hx hb dL_law_874 (by decide) (fun c_874 => ?_) (fun c_874 => absurd c_874 (by decide))
    refine lv_aload_n hx hb dL_law_886 rfl (lv_at hl 9 rfl) ?_
    refine lv_iload hx hb dL_law_887 (lv_at hl 1 rfl) ?_
    refine lv_iload hx hb dL_law_889 (lv_at hl 0 rfl) ?_
    refine lo_cA (na := 3) F (c_L_of_story l hlf G s.heap.size ad nb sg (ro_CI1 hR) bx) gL_law_L_of rfl (by decide +kernel) ⟨Nat.le_of_ble_eq_true rfl, Nat.le_of_ble_eq_true rfl⟩ hW hS (As := [.ref (ad 0 0), .int 1, .int bx]) (rest := []) rfl hl.1 (by rw [ea]; rfl) (Nat.le_of_ble_eq_true rfl) dL_law_891 ⟨by show _ ≤ 600130; omega, by show _ ≤ 7301080; omega⟩ (fun a1 s1 H locs h1 hW hS => ?_)
    refine lv_aload_n hx hb dL_law_894 rfl (lv_at hl 8 rfl) ?_
    refine lv_iload hx hb dL_law_895 (lv_at hl 1 rfl) ?_
    refine lv_iload hx hb dL_law_897 (lv_at hl 0 rfl) ?_
    have hR2 := ro_in2 hR (rf_story h1)
    refine lo_cB (na := 3) F hn2 (c_L_of_story l hlf G s.heap.size (kx_swA ad nb) nb (kx_swS s1) (ro_CI2 hR2) bx) gL_law_L_of rfl (by decide +kernel) ⟨Nat.le_of_ble_eq_true rfl, Nat.le_of_ble_eq_true rfl⟩ hW hS (As := [.ref (kx_swA ad nb 0 0), .int 1, .int bx]) (rest := [.int a1]) rfl hl.1 (by rw [eb]; rfl) (Nat.le_of_ble_eq_true rfl) dL_law_899 ⟨by show _ ≤ 600130; omega, by show _ ≤ 7301080; omega⟩ (fun b1 t1 H locs g1 hW hS => ?_)
    obtain ⟨e1, hR⟩ := ry_story hR h1 g1
    subst e1
    refine lv_icmp_ne (tgt := 909) hx hb dL_law_902 (by decide) (fun c_902 => absurd rfl c_902) (fun c_902 => ?_)
    refine lv_iconst (v := 1) hx hb dL_law_905 (by decide) ?_
    refine lv_goto (tgt := 910) hx hb dL_law_906 (by decide) ?_
    refine lv_istore (lv' := [(4, .int 1), (14, .int bx), (13, .int 1), (12, .int dr), (11, .int (nI w)), (10, .int bx), (5, .int (nI k)), (3, .int (nI mo)), (2, .ref pb), (1, .ref pa), (0, .ref b)]) hx hb dL_law_910 hl (by decide) rfl (fun ls hl => ?_)
    refine lv_iinc (v := 2) (lv' := [(13, .int 2), (4, .int 1), (14, .int bx), (12, .int dr), (11, .int (nI w)), (10, .int bx), (5, .int (nI k)), (3, .int (nI mo)), (2, .ref pb), (1, .ref pa), (0, .ref b)]) hx hb dL_law_912 hl (k := 2) rfl (by decide) (by decide) rfl (fun ls hl => ?_)
    refine lv_goto (tgt := 836) hx hb dL_law_915 (by decide) ?_
    exact W.widen (k := cells + 2) (n := slots + 12) (by omega) (by omega) (lo_D2 (cells := cells + 2) (slots := slots + 12) F hlf hmo hw (by omega) (by omega) hR hn2 ea eb hW hS (lv_sub hl [0, 3, 4, 5, 6, 1, 7, 8, 9, 10] rfl) (fun nb1 ad1 sg1 H1 locs1 ls1 r1 r2 r3 r4 r5 r6 r7 => W.widen (by omega) (by omega) (kk nb1 ad1 sg1 H1 locs1 ls1 r1 r2 r3 r4 r5 r6 r7)))

set_option maxHeartbeats 4000000 in
set_option maxRecDepth 100000 in
theorem lo_D0 (F : kx_F p s m c cL_law 15 RL #[Value.ref b] wsL_law G s.heap.size) (hlf : l.stackTraces = false) (hmo : mo < 4) (hw : w < 14) (hcl : cells + 16 ≤ 600130) (hsl : slots + 96 ≤ 7301080) (hR : ro_RR mo nb sg) (hn2 : ad 40 0 = nb) (ea : pa = ad 0 0) (eb : pb = ad 14 0) (hW : kx_Wd G s.heap.size ad nb sg H) (hS : va_S (kx_Ad s.heap.size) s.heap H locs) (hl : lv_has ls 15 [(13, .int 0), (12, .int dr), (11, .int (nI w)), (10, .int bx), (5, .int (nI k)), (4, .int 1), (3, .int (nI mo)), (2, .ref pb), (1, .ref pa), (0, .ref b)]) (kk : ∀ (nb1 : Nat) (ad1 : kx_A) (sg1 : kx_S) (H1 : Heap) (locs1 : List Loc) (ls1 : Array Slot), ro_RR mo nb1 sg1 → ad1 40 0 = nb1 → pa = ad1 0 0 → pb = ad1 14 0 → kx_Wd G s.heap.size ad1 nb1 sg1 H1 → va_S (kx_Ad s.heap.size) s.heap H1 locs1 → lv_has ls1 15 [(12, .int dr), (11, .int (nI w)), (10, .int bx), (5, .int (nI k)), (4, .int 1), (3, .int (nI mo)), (2, .ref pb), (1, .ref pa), (0, .ref b)] → W p l e room_1 s m #[Value.ref b] below meth c H1 locs1 (cells + 16) (slots + 96) Q (F0 m 918 ls1 [])) : W p l e room_1 s m #[Value.ref b] below meth c H locs cells slots Q (F0 m 836 ls []) := by
  have hx := F.1; have hb := F.2.1
  refine lv_iload hx hb dL_law_836 (lv_at hl 0 rfl) ?_
  refine lv_bipush (v := 8) hx hb dL_law_838 (by decide) ?_
  refine lv_icmp_ge (tgt := 918) hx hb dL_law_840 (by decide) (fun c_840 => absurd c_840 (by decide)) (fun c_840 => ?_)
  refine lv_iload hx hb dL_law_843 (lv_at hl 5 rfl) ?_
  refine lv_if_eq (tgt := 918) hx hb dL_law_845 (by decide) (fun c_845 => absurd c_845 (by decide)) (fun c_845 => ?_)
  refine lv_iload hx hb dL_law_848 (lv_at hl 4 rfl) ?_
  refine lv_iconst (v := 3) hx hb dL_law_850 (by decide) ?_
  refine lv_irem hx hb dL_law_851 (by decide) ?_
  refine lv_iconst (v := 2) hx hb dL_law_852 (by decide) ?_
  refine lv_icmp_ne (tgt := 918) hx hb dL_law_853 (by decide) (fun c_853 => ?_) (fun c_853 => ?_)
  · exact W.widen (by omega) (by omega) (kk nb ad sg H locs ls hR hn2 ea eb hW hS (lv_sub hl [1, 2, 3, 4, 5, 6, 7, 8, 9] rfl))
  · refine lv_iload hx hb dL_law_856 (lv_at hl 0 rfl) ?_
    refine lv_iconst (v := 5) hx hb dL_law_858 (by decide) ?_
    refine lv_icmp_le (tgt := 867) hx hb dL_law_859 (by decide) (fun c_859 => ?_) (fun c_859 => absurd c_859 (by decide))
    refine lv_iload hx hb dL_law_867 (lv_at hl 3 rfl) ?_
    refine lv_istore (lv' := [(14, .int bx), (13, .int 0), (12, .int dr), (11, .int (nI w)), (10, .int bx), (5, .int (nI k)), (4, .int 1), (3, .int (nI mo)), (2, .ref pb), (1, .ref pa), (0, .ref b)]) hx hb dL_law_869 hl (by decide) rfl (fun ls hl => ?_)
    refine lv_iload hx hb dL_law_871 (lv_at hl 1 rfl) ?_
    refine lv_iconst (v := 2) hx hb dL_law_873 (by decide) ?_
    refine lv_icmp_ne (tgt := 886) hx hb dL_law_874 (by decide) (fun c_874 => ?_) (fun c_874 => absurd c_874 (by decide))
    refine lv_aload_n hx hb dL_law_886 rfl (lv_at hl 9 rfl) ?_
    refine lv_iload hx hb dL_law_887 (lv_at hl 1 rfl) ?_
    refine lv_iload hx hb dL_law_889 (lv_at hl 0 rfl) ?_
    refine lo_cA (na := 3) F (c_L_of_scans l hlf G s.heap.size ad nb sg (ro_CI1 hR) bx) gL_law_L_of rfl (by decide +kernel) ⟨Nat.le_of_ble_eq_true rfl, Nat.le_of_ble_eq_true rfl⟩ hW hS (As := [.ref (ad 0 0), .int 0, .int bx]) (rest := []) rfl hl.1 (by rw [ea]; rfl) (Nat.le_of_ble_eq_true rfl) dL_law_891 ⟨by show _ ≤ 600130; omega, by show _ ≤ 7301080; omega⟩ (fun a1 s1 H locs h1 hW hS => ?_)
    refine lv_aload_n hx hb dL_law_894 rfl (lv_at hl 8 rfl) ?_
    refine lv_iload hx hb dL_law_895 (lv_at hl 1 rfl) ?_
    refine lv_iload hx hb dL_law_897 (lv_at hl 0 rfl) ?_
    have hR2 := ro_in2 hR (rf_scans h1)
    refine lo_cB (na := 3) F hn2 (c_L_of_scans l hlf G s.heap.size (kx_swA ad nb) nb (kx_swS s1) (ro_CI2 hR2) bx) gL_law_L_of rfl (by decide +kernel) ⟨Nat.le_of_ble_eq_true rfl, Nat.le_of_ble_eq_true rfl⟩ hW hS (As := [.ref (kx_swA ad nb 0 0), .int 0, .int bx]) (rest := [.int a1]) rfl hl.1 (by rw [eb]; rfl) (Nat.le_of_ble_eq_true rfl) dL_law_899 ⟨by show _ ≤ 600130; omega, by show _ ≤ 7301080; omega⟩ (fun b1 t1 H locs g1 hW hS => ?_)
    obtain ⟨e1, hR⟩ := ry_scans hR h1 g1
    subst e1
    refine lv_icmp_ne (tgt := 909) hx hb dL_law_902 (by decide) (fun c_902 => absurd rfl c_902) (fun c_902 => ?_)
    refine lv_iconst (v := 1) hx hb dL_law_905 (by decide) ?_
    refine lv_goto (tgt := 910) hx hb dL_law_906 (by decide) ?_
    refine lv_istore (lv' := [(4, .int 1), (14, .int bx), (13, .int 0), (12, .int dr), (11, .int (nI w)), (10, .int bx), (5, .int (nI k)), (3, .int (nI mo)), (2, .ref pb), (1, .ref pa), (0, .ref b)]) hx hb dL_law_910 hl (by decide) rfl (fun ls hl => ?_)
    refine lv_iinc (v := 1) (lv' := [(13, .int 1), (4, .int 1), (14, .int bx), (12, .int dr), (11, .int (nI w)), (10, .int bx), (5, .int (nI k)), (3, .int (nI mo)), (2, .ref pb), (1, .ref pa), (0, .ref b)]) hx hb dL_law_912 hl (k := 2) rfl (by decide) (by decide) rfl (fun ls hl => ?_)
    refine lv_goto (tgt := 836) hx hb dL_law_915 (by decide) ?_
    exact W.widen (k := cells + 2) (n := slots + 12) (by omega) (by omega) (lo_D1 (cells := cells + 2) (slots := slots + 12) F hlf hmo hw (by omega) (by omega) hR hn2 ea eb hW hS (lv_sub hl [0, 3, 4, 5, 6, 1, 7, 8, 9, 10] rfl) (fun nb1 ad1 sg1 H1 locs1 ls1 r1 r2 r3 r4 r5 r6 r7 => W.widen (by omega) (by omega) (kk nb1 ad1 sg1 H1 locs1 ls1 r1 r2 r3 r4 r5 r6 r7)))

set_option maxHeartbeats 4000000 in
set_option maxRecDepth 100000 in
theorem lo_E (F : kx_F p s m c cL_law 15 RL #[Value.ref b] wsL_law G s.heap.size) (hlf : l.stackTraces = false) (hmo : mo < 4) (hw : w < 14) (hcl : cells + 6 ≤ 600130) (hsl : slots + 36 ≤ 7301080) (hR : ro_RR mo nb sg) (hn2 : ad 40 0 = nb) (ea : pa = ad 0 0) (eb : pb = ad 14 0) (hW : kx_Wd G s.heap.size ad nb sg H) (hS : va_S (kx_Ad s.heap.size) s.heap H locs) (hl : lv_has ls 15 [(12, .int dr), (11, .int (nI w)), (10, .int bx), (5, .int (nI k)), (4, .int 1), (3, .int (nI mo)), (2, .ref pb), (1, .ref pa), (0, .ref b)]) (kk : ∀ (nb1 : Nat) (ad1 : kx_A) (sg1 : kx_S) (H1 : Heap) (locs1 : List Loc) (ls1 : Array Slot), ro_RR mo nb1 sg1 → ad1 40 0 = nb1 → pa = ad1 0 0 → pb = ad1 14 0 → kx_Wd G s.heap.size ad1 nb1 sg1 H1 → va_S (kx_Ad s.heap.size) s.heap H1 locs1 → lv_has ls1 15 [(5, .int (nI (k + 1))), (4, .int 1), (3, .int (nI mo)), (2, .ref pb), (1, .ref pa), (0, .ref b)] → W p l e room_1 s m #[Value.ref b] below meth c H1 locs1 (cells + 6) (slots + 36) Q (F0 m 32 ls1 [])) : W p l e room_1 s m #[Value.ref b] below meth c H locs cells slots Q (F0 m 918 ls []) := by
  have hx := F.1; have hb := F.2.1
  refine lv_iload hx hb dL_law_918 (lv_at hl 3 rfl) ?_
  refine lv_iconst (v := 3) hx hb dL_law_920 (by decide) ?_
  refine lv_irem hx hb dL_law_921 (by decide) ?_
  refine lv_iconst (v := 2) hx hb dL_law_922 (by decide) ?_
  refine lv_icmp_ne (tgt := 1015) hx hb dL_law_923 (by decide) (fun c_923 => ?_) (fun c_923 => ?_)
  · refine lv_iinc (v := (nI (k + 1))) (lv' := [(5, .int (nI (k + 1))), (12, .int dr), (11, .int (nI w)), (10, .int bx), (4, .int 1), (3, .int (nI mo)), (2, .ref pb), (1, .ref pa), (0, .ref b)]) hx hb dL_law_1015 hl (k := 3) rfl (nI_1 k) (by decide) rfl (fun ls hl => ?_)
    refine lv_goto (tgt := 32) hx hb dL_law_1018 (by decide) ?_
    exact W.widen (by omega) (by omega) (kk nb ad sg H locs ls hR hn2 ea eb hW hS (lv_sub hl [0, 4, 5, 6, 7, 8] rfl))
  · refine lv_aload_n hx hb dL_law_926 rfl (lv_at hl 7 rfl) ?_
    refine lv_bipush (v := 8) hx hb dL_law_927 (by decide) ?_
    refine lv_iload hx hb dL_law_929 (lv_at hl 2 rfl) ?_
    refine lo_cA (na := 3) F (c_L_of_placeOf l hlf G s.heap.size ad nb sg (ro_CI1 hR) bx) gL_law_L_of rfl (by decide +kernel) ⟨Nat.le_of_ble_eq_true rfl, Nat.le_of_ble_eq_true rfl⟩ hW hS (As := [.ref (ad 0 0), .int 8, .int bx]) (rest := []) rfl hl.1 (by rw [ea]; rfl) (Nat.le_of_ble_eq_true rfl) dL_law_931 ⟨by show _ ≤ 600130; omega, by show _ ≤ 7301080; omega⟩ (fun a1 s1 H locs h1 hW hS => ?_)
    refine lv_istore (lv' := [(13, .int a1), (12, .int dr), (11, .int (nI w)), (10, .int bx), (5, .int (nI k)), (4, .int 1), (3, .int (nI mo)), (2, .ref pb), (1, .ref pa), (0, .ref b)]) hx hb dL_law_934 hl (by decide) rfl (fun ls hl => ?_)
    refine lv_iload hx hb dL_law_936 (lv_at hl 5 rfl) ?_
    refine lv_if_eq (tgt := 1012) hx hb dL_law_938 (by decide) (fun c_938 => absurd c_938 (by decide)) (fun c_938 => ?_)
    refine lv_aload_n hx hb dL_law_941 rfl (lv_at hl 7 rfl) ?_
    refine lv_bipush (v := 8) hx hb dL_law_942 (by decide) ?_
    refine lv_iload hx hb dL_law_944 (lv_at hl 3 rfl) ?_
    have hR2 := ro_in2 hR (rf_placeOf h1)
    refine lo_cB (na := 3) F hn2 (c_L_of_placeOf l hlf G s.heap.size (kx_swA ad nb) nb (kx_swS s1) (ro_CI2 hR2) bx) gL_law_L_of rfl (by decide +kernel) ⟨Nat.le_of_ble_eq_true rfl, Nat.le_of_ble_eq_true rfl⟩ hW hS (As := [.ref (kx_swA ad nb 0 0), .int 8, .int bx]) (rest := []) rfl hl.1 (by rw [eb]; rfl) (Nat.le_of_ble_eq_true rfl) dL_law_946 ⟨by show _ ≤ 600130; omega, by show _ ≤ 7301080; omega⟩ (fun b1 t1 H locs g1 hW hS => ?_)
    obtain ⟨e1, hR⟩ := ry_placeOf hR h1 g1
    subst e1
    refine lv_iload hx hb dL_law_949 (lv_at hl 0 rfl) ?_
    refine lv_iload_n hx hb dL_law_951 rfl (lv_at hl 6 rfl) ?_
    refine kx_cS (na := 2) F (c_L_place l G s.heap.size ad nb _ a1 (nI mo)) gL_law_L_place rfl (by decide +kernel) ⟨Nat.le_of_ble_eq_true rfl, Nat.le_of_ble_eq_true rfl⟩ hW hS (As := [.int a1, .int (nI mo)]) (rest := [.int (ro_p mo a1)]) rfl hl.1 rfl (Nat.le_of_ble_eq_true rfl) dL_law_952 ⟨by show _ ≤ 600130; omega, by show _ ≤ 7301080; omega⟩ (fun r9 sg9 H locs hq hW hS => ?_)
    obtain ⟨rfl, e9⟩ := hq
    rw [e9] at hW
    refine W.eq (g2 := F0 m 955 ls [.int (lo_pl a1 (nI mo)), .int (ro_p mo a1)]) rfl ?_
    rw [lo_pl_eq hmo]
    refine lv_icmp_ne (tgt := 1012) hx hb dL_law_955 (by decide) (fun c_955 => absurd rfl c_955) (fun c_955 => ?_)
    refine lv_aload_n hx hb dL_law_958 rfl (lv_at hl 8 rfl) ?_
    refine lv_bipush (v := 9) hx hb dL_law_959 (by decide) ?_
    refine lv_iload hx hb dL_law_961 (lv_at hl 2 rfl) ?_
    refine lo_cA (na := 3) F (c_L_of_lies l hlf G s.heap.size ad nb (kx_swS t1) (ro_CI1 hR) (nI w)) gL_law_L_of rfl (by decide +kernel) ⟨Nat.le_of_ble_eq_true rfl, Nat.le_of_ble_eq_true rfl⟩ hW hS (As := [.ref (ad 0 0), .int 9, .int (nI w)]) (rest := []) rfl hl.1 (by rw [ea]; rfl) (Nat.le_of_ble_eq_true rfl) dL_law_963 ⟨by show _ ≤ 600130; omega, by show _ ≤ 7301080; omega⟩ (fun a2 s2 H locs h2 hW hS => ?_)
    refine lv_aload_n hx hb dL_law_966 rfl (lv_at hl 7 rfl) ?_
    refine lv_bipush (v := 9) hx hb dL_law_967 (by decide) ?_
    refine lv_iload hx hb dL_law_969 (lv_at hl 2 rfl) ?_
    refine lv_iload_n hx hb dL_law_971 rfl (lv_at hl 6 rfl) ?_
    refine kx_cS (na := 2) F (c_L_there l G s.heap.size ad nb _ (nI w) (nI mo)) gL_law_L_there rfl (by decide +kernel) ⟨Nat.le_of_ble_eq_true rfl, Nat.le_of_ble_eq_true rfl⟩ hW hS (As := [.int (nI w), .int (nI mo)]) (rest := [.int 9, .ref pb, .int a2]) rfl hl.1 rfl (Nat.le_of_ble_eq_true rfl) dL_law_972 ⟨by show _ ≤ 600130; omega, by show _ ≤ 7301080; omega⟩ (fun r9 sg9 H locs hq hW hS => ?_)
    obtain ⟨rfl, e9⟩ := hq
    rw [e9] at hW
    refine W.eq (g2 := F0 m 975 ls [.int (lo_th (nI w) (nI mo)), .int 9, .ref pb, .int a2]) rfl ?_
    rw [lo_th_eq w (by omega) mo hmo]
    have hR2 := ro_in2 hR (rf_lies h2)
    refine lo_cB (na := 3) F hn2 (c_L_of_lies l hlf G s.heap.size (kx_swA ad nb) nb (kx_swS s2) (ro_CI2 hR2) (nI (ro_s mo w))) gL_law_L_of rfl (by decide +kernel) ⟨Nat.le_of_ble_eq_true rfl, Nat.le_of_ble_eq_true rfl⟩ hW hS (As := [.ref (kx_swA ad nb 0 0), .int 9, .int (nI (ro_s mo w))]) (rest := [.int a2]) rfl hl.1 (by rw [eb]; rfl) (Nat.le_of_ble_eq_true rfl) dL_law_975 ⟨by show _ ≤ 600130; omega, by show _ ≤ 7301080; omega⟩ (fun b2 t2 H locs g2 hW hS => ?_)
    obtain ⟨e2, hR⟩ := ry_lies hR hw h2 g2
    subst e2
    refine lv_icmp_ne (tgt := 1012) hx hb dL_law_978 (by decide) (fun c_978 => absurd rfl c_978) (fun c_978 => ?_)
    refine lv_aload_n hx hb dL_law_981 rfl (lv_at hl 8 rfl) ?_
    refine lv_bipush (v := 10) hx hb dL_law_982 (by decide) ?_
    refine lv_iload hx hb dL_law_984 (lv_at hl 2 rfl) ?_
    refine lv_iconst (v := 4) hx hb dL_law_986 (by decide) ?_
    refine lv_irem hx hb dL_law_987 (by decide) ?_
    rw [lo_r4 hw]
    refine lo_cA (na := 3) F (c_L_of_fees l hlf G s.heap.size ad nb (kx_swS t2) (ro_CI1 hR) (nI (w % 4))) gL_law_L_of rfl (by decide +kernel) ⟨Nat.le_of_ble_eq_true rfl, Nat.le_of_ble_eq_true rfl⟩ hW hS (As := [.ref (ad 0 0), .int 10, .int (nI (w % 4))]) (rest := []) rfl hl.1 (by rw [ea]; rfl) (Nat.le_of_ble_eq_true rfl) dL_law_988 ⟨by show _ ≤ 600130; omega, by show _ ≤ 7301080; omega⟩ (fun a3 s3 H locs h3 hW hS => ?_)
    refine lv_aload_n hx hb dL_law_991 rfl (lv_at hl 7 rfl) ?_
    refine lv_bipush (v := 10) hx hb dL_law_992 (by decide) ?_
    refine lv_iload hx hb dL_law_994 (lv_at hl 2 rfl) ?_
    refine lv_iconst (v := 4) hx hb dL_law_996 (by decide) ?_
    refine lv_irem hx hb dL_law_997 (by decide) ?_
    rw [lo_r4 hw]
    refine lv_iload_n hx hb dL_law_998 rfl (lv_at hl 6 rfl) ?_
    refine kx_cS (na := 2) F (c_L_there l G s.heap.size ad nb _ (nI (w % 4)) (nI mo)) gL_law_L_there rfl (by decide +kernel) ⟨Nat.le_of_ble_eq_true rfl, Nat.le_of_ble_eq_true rfl⟩ hW hS (As := [.int (nI (w % 4)), .int (nI mo)]) (rest := [.int 10, .ref pb, .int a3]) rfl hl.1 rfl (Nat.le_of_ble_eq_true rfl) dL_law_999 ⟨by show _ ≤ 600130; omega, by show _ ≤ 7301080; omega⟩ (fun r9 sg9 H locs hq hW hS => ?_)
    obtain ⟨rfl, e9⟩ := hq
    rw [e9] at hW
    refine W.eq (g2 := F0 m 1002 ls [.int (lo_th (nI (w % 4)) (nI mo)), .int 10, .ref pb, .int a3]) rfl ?_
    rw [lo_th_eq (w % 4) (by omega) mo hmo]
    have hR2 := ro_in2 hR (rf_fees h3)
    refine lo_cB (na := 3) F hn2 (c_L_of_fees l hlf G s.heap.size (kx_swA ad nb) nb (kx_swS s3) (ro_CI2 hR2) (nI (ro_s mo (w % 4)))) gL_law_L_of rfl (by decide +kernel) ⟨Nat.le_of_ble_eq_true rfl, Nat.le_of_ble_eq_true rfl⟩ hW hS (As := [.ref (kx_swA ad nb 0 0), .int 10, .int (nI (ro_s mo (w % 4)))]) (rest := [.int a3]) rfl hl.1 (by rw [eb]; rfl) (Nat.le_of_ble_eq_true rfl) dL_law_1002 ⟨by show _ ≤ 600130; omega, by show _ ≤ 7301080; omega⟩ (fun b3 t3 H locs g3 hW hS => ?_)
    obtain ⟨e3, hR⟩ := ry_fees hR (by omega) h3 g3
    subst e3
    refine lv_icmp_ne (tgt := 1012) hx hb dL_law_1005 (by decide) (fun c_1005 => absurd rfl c_1005) (fun c_1005 => ?_)
    refine lv_iconst (v := 1) hx hb dL_law_1008 (by decide) ?_
    refine lv_goto (tgt := 1013) hx hb dL_law_1009 (by decide) ?_
    refine lv_istore (lv' := [(4, .int 1), (13, .int a1), (12, .int dr), (11, .int (nI w)), (10, .int bx), (5, .int (nI k)), (3, .int (nI mo)), (2, .ref pb), (1, .ref pa), (0, .ref b)]) hx hb dL_law_1013 hl (by decide) rfl (fun ls hl => ?_)
    refine lv_iinc (v := (nI (k + 1))) (lv' := [(5, .int (nI (k + 1))), (4, .int 1), (13, .int a1), (12, .int dr), (11, .int (nI w)), (10, .int bx), (3, .int (nI mo)), (2, .ref pb), (1, .ref pa), (0, .ref b)]) hx hb dL_law_1015 hl (k := 5) rfl (nI_1 k) (by decide) rfl (fun ls hl => ?_)
    refine lv_goto (tgt := 32) hx hb dL_law_1018 (by decide) ?_
    exact W.widen (by omega) (by omega) (kk nb ad (kx_swS t3) H locs ls hR hn2 ea eb hW hS (lv_sub hl [0, 1, 6, 7, 8, 9] rfl))

set_option maxHeartbeats 4000000 in
set_option maxRecDepth 100000 in
theorem lo_turn (hX : va_X b L xs s s.heap) (hbl : b < s.heap.size) (hL : L ≤ 260) (hk : k < 110) (F : kx_F p s m c cL_law 15 RL #[Value.ref b] wsL_law G s.heap.size) (hlf : l.stackTraces = false) (hmo : mo < 4) (hcl : cells + 60 ≤ 600130) (hsl : slots + 600 ≤ 7301080) (hR : ro_RR mo nb sg) (hn2 : ad 40 0 = nb) (ea : pa = ad 0 0) (eb : pb = ad 14 0) (hW : kx_Wd G s.heap.size ad nb sg H) (hS : va_S (kx_Ad s.heap.size) s.heap H locs) (hl : lv_has ls 15 [(5, .int (nI k)), (4, .int 1), (3, .int (nI mo)), (2, .ref pb), (1, .ref pa), (0, .ref b)]) (kk : ∀ (nb1 : Nat) (ad1 : kx_A) (sg1 : kx_S) (H1 : Heap) (locs1 : List Loc) (ls1 : Array Slot), ro_RR mo nb1 sg1 → ad1 40 0 = nb1 → pa = ad1 0 0 → pb = ad1 14 0 → kx_Wd G s.heap.size ad1 nb1 sg1 H1 → va_S (kx_Ad s.heap.size) s.heap H1 locs1 → lv_has ls1 15 [(5, .int (nI (k + 1))), (4, .int 1), (3, .int (nI mo)), (2, .ref pb), (1, .ref pa), (0, .ref b)] → W p l e room_1 s m #[Value.ref b] below meth c H1 locs1 (cells + 60) (slots + 600) Q (F0 m 32 ls1 [])) : W p l e room_1 s m #[Value.ref b] below meth c H locs cells slots Q (F0 m 44 ls []) := by
  have hx := F.1; have hb := F.2.1
  refine lo_A hX hbl hL hk F hlf hmo (by omega) (by omega) hR hn2 ea eb hW hS hl (fun w kd v bx dr H locs ls hw hW hS hl => ?_)
  refine lo_call F hlf hmo hw (by omega) (by omega) hR hn2 ea eb hW hS hl (fun nb ad sg H locs ls hR hn2 ea eb hW hS hl => ?_)
  refine lo_C F hlf hmo hw (by omega) (by omega) hR hn2 ea eb hW hS hl (fun nb ad sg H locs ls hR hn2 ea eb hW hS hl => ?_)
  refine lv_iconst (v := 0) hx hb dL_law_833 (by decide) ?_
  refine lv_istore (lv' := [(13, .int 0), (12, .int dr), (11, .int (nI w)), (10, .int bx), (5, .int (nI k)), (4, .int 1), (3, .int (nI mo)), (2, .ref pb), (1, .ref pa), (0, .ref b)]) hx hb dL_law_834 hl (by decide) rfl (fun ls hl => ?_)
  refine lo_D0 F hlf hmo hw (by omega) (by omega) hR hn2 ea eb hW hS hl (fun nb ad sg H locs ls hR hn2 ea eb hW hS hl => ?_)
  refine lo_E F hlf hmo hw (by omega) (by omega) hR hn2 ea eb hW hS hl (fun nb ad sg H locs ls hR hn2 ea eb hW hS hl => ?_)
  exact W.widen (by omega) (by omega) (kk nb ad sg H locs ls hR hn2 ea eb hW hS hl)
end LOP
