section KXD
variable {p : Program} {l : Launch} {e : Env} {R : Room} {s : State} {m : MethodId} {args : Array Value} {below : List Frame} {meth : Method} {c : Code} {H : Heap} {locs : List Loc} {cells slots : Nat} {Q : State → Prop}
variable {cc : ByteArray} {nL pc : Nat} {own : String} {ls : Array Slot} {rest st0 : List Value} {Ts : List Cond} {G : kx_G} {z0 : Nat} {ad : kx_A} {nb : Nat} {sg : kx_S} {H0 : Heap} {a : Array Value} {mc ms : Nat}
theorem kx_goXg {post : Option Value → kx_A → Nat → kx_S → Prop} {px : String → Prop} (hr : vx_Run p l e R s m args below meth c H locs cells slots mc ms (F0 m pc ls st0) rest (kx_Qg G z0 post a) (kx_X G z0 ad nb sg px) (kx_Ad z0)) (hS : va_S (kx_Ad z0) H0 H locs)
    (kx : ∀ (E : String) (ce : Cell) (q9 : Addr) (H1 : Heap) (locs1 : List Loc), px E → kx_Wd G z0 ad nb sg H1 → va_S (kx_Ad z0) H0 H1 locs1 → H1[q9]? = some ce → ce.vm = .none → s.vm.findClass E = some ce.cls → vx_W p l e R s m args below meth c H1 locs1 (cells + mc) (slots + ms) Q (F0 m pc ls rest) q9)
    (kk : ∀ (r : Option Value) (ad' : kx_A) (nb' : Nat) (sg' : kx_S) (H1 : Heap) (locs1 : List Loc), post r ad' nb' sg' → kx_Wd G z0 ad' nb' sg' H1 → va_S (kx_Ad z0) H0 H1 locs1 → W p l e R s m args below meth c H1 locs1 (cells + mc) (slots + ms) Q (F0 m (pc + 3) ls (r.toList ++ rest))) : W p l e R s m args below meth c H locs cells slots Q (F0 m pc ls st0) := by
  intro T hT X
  rcases hr T hT X with ⟨v, st₀, t, T', L, h0, X', hL, e1, e2, ⟨⟨r, ad', nb', sg', hv, hp, hb⟩, hF⟩, st⟩ | ⟨q, st₀, t, T', L, E, ce, h0, X', hL, e1, e2, ⟨hp, hb, hF⟩, hce, hcv, hcl, st⟩
  · cases Outcome.returned.inj hv
    obtain ⟨k1, k2, k3⟩ := vx_keep h0 e1 hS (fun _ _ h => h) (fun _ h => h) hL hF
    obtain ⟨t2, a1, b1⟩ := kk v ad' nb' sg' T'.heap (locs ++ L) hp (by rw [e1]; exact hb) k3 T' rfl X'
    exact ⟨t2, st t2 a1, b1⟩
  · obtain ⟨k1, k2, k3⟩ := vx_keep h0 e1 hS (fun _ _ h => h) (fun _ h => h) hL hF
    obtain ⟨t2, a1, b1⟩ := kx E ce q T'.heap (locs ++ L) hp (by rw [e1]; exact hb) k3 (by rw [e1]; exact hce) hcv hcl T' rfl X'
    exact ⟨t2, st.trans a1, b1⟩
theorem kx_xVg {y : MethodName} {ws ws' : List Cond} {fr lo index na maxL : Nat} {C : String} {bytes : ByteArray} {ret : Option FieldType} {As : List Value} {post : Option Value → kx_A → Nat → kx_S → Prop} {px : String → Prop} (F : kx_F p s m c cc nL own args Ts G z0) {q n : Nat} (hM : kx_MXg l y ws fr lo mc ms G z0 ad nb sg (.ref (ad q n) :: As) post px) (hT : GoodIn Ts (wsV own index C y ws)) (hw : ws = Cond.code y bytes maxL ret :: ws') (hd : y.cls = C ∧ y.cls ≠ "java/lang/invoke/MethodHandle" ∧ y.cls ≠ "java/lang/invoke/VarHandle" ∧ (parseMethodDescriptor y.desc).map (fun d => d.parameters.length) = some na) (hR : fr + 1 ≤ R.frames ∧ 8 + (maxL + 11) + lo ≤ R.locals)
    (hW : kx_Wd G z0 ad nb sg H) (hS : va_S (kx_Ad z0) s.heap H locs) (hq : kx_live nb q n) {ci : Nat} {fs : List Value} (he : kx_cell G.2 ad nb q n (sg q n) = .inr (ci, fs)) {T : u_T} {N : Nat} (hc : vwCl[ci]? = some (C, T, N)) (hn : As.length = na) (hsize : ls.size = nL) (hst : st0 = As.reverse ++ .ref (ad q n) :: rest) (hrm : (rest.map fun v => v.category).sum ≤ 8) (hdg : decode cc pc = .ok (.invokevirtual index, 3)) (hf : cells + mc ≤ R.cells ∧ slots + ms ≤ R.slots)
    (kx : ∀ (E : String) (ce : Cell) (q9 : Addr) (H1 : Heap) (locs1 : List Loc), px E → kx_Wd G z0 ad nb sg H1 → va_S (kx_Ad z0) s.heap H1 locs1 → H1[q9]? = some ce → ce.vm = .none → s.vm.findClass E = some ce.cls → vx_W p l e R s m args below meth c H1 locs1 (cells + mc) (slots + ms) Q (F0 m pc ls rest) q9)
    (kk : ∀ (r : Option Value) (ad' : kx_A) (nb' : Nat) (sg' : kx_S) (H1 : Heap) (locs1 : List Loc), post r ad' nb' sg' → kx_Wd G z0 ad' nb' sg' H1 → va_S (kx_Ad z0) s.heap H1 locs1 → W p l e R s m args below meth c H1 locs1 (cells + mc) (slots + ms) Q (F0 m (pc + 3) ls (r.toList ++ rest))) : W p l e R s m args below meth c H locs cells slots Q (F0 m pc ls st0) :=
  kx_goXg (vx_runV (As := As) (rest := rest) ⟨F.1, F.2.1, F.2.2.1, F.2.2.2.1, F.2.2.2.2.1⟩ hM (cwV na F.2.2.2.2.1 hT hw rfl rfl hd hR) (kx_preV F.2.2.2.2.2 hW hS hq he hc) rfl hn hsize hst (lv_room hrm) hdg hf) hS kx kk
theorem kx_xSg {y : MethodName} {ws ws' : List Cond} {fr lo index na maxL : Nat} {bytes : ByteArray} {ret : Option FieldType} {As : List Value} {post : Option Value → kx_A → Nat → kx_S → Prop} {px : String → Prop} (F : kx_F p s m c cc nL own args Ts G z0) (hM : kx_MXg l y ws fr lo mc ms G z0 ad nb sg As post px) (hT : GoodIn Ts (va_wsS own index y ws)) (hw : ws = Cond.code y bytes maxL ret :: ws') (hd : y.cls ≠ "java/lang/invoke/MethodHandle" ∧ y.cls ≠ "java/lang/invoke/VarHandle" ∧ (parseMethodDescriptor y.desc).map (fun d => d.parameters.length) = some na) (hR : fr + 1 ≤ R.frames ∧ 8 + (maxL + 11) + lo ≤ R.locals)
    (hW : kx_Wd G z0 ad nb sg H) (hS : va_S (kx_Ad z0) s.heap H locs) (hn : As.length = na) (hsize : ls.size = nL) (hst : st0 = As.reverse ++ rest) (hrm : (rest.map fun v => v.category).sum ≤ 8) (hdg : decode cc pc = .ok (.invokestatic index, 3)) (hf : cells + mc ≤ R.cells ∧ slots + ms ≤ R.slots)
    (kx : ∀ (E : String) (ce : Cell) (q9 : Addr) (H1 : Heap) (locs1 : List Loc), px E → kx_Wd G z0 ad nb sg H1 → va_S (kx_Ad z0) s.heap H1 locs1 → H1[q9]? = some ce → ce.vm = .none → s.vm.findClass E = some ce.cls → vx_W p l e R s m args below meth c H1 locs1 (cells + mc) (slots + ms) Q (F0 m pc ls rest) q9)
    (kk : ∀ (r : Option Value) (ad' : kx_A) (nb' : Nat) (sg' : kx_S) (H1 : Heap) (locs1 : List Loc), post r ad' nb' sg' → kx_Wd G z0 ad' nb' sg' H1 → va_S (kx_Ad z0) s.heap H1 locs1 → W p l e R s m args below meth c H1 locs1 (cells + mc) (slots + ms) Q (F0 m (pc + 3) ls (r.toList ++ rest))) : W p l e R s m args below meth c H locs cells slots Q (F0 m pc ls st0) :=
  kx_goXg (vx_runS (As := As) (rest := rest) ⟨F.1, F.2.1, F.2.2.1, F.2.2.2.1, F.2.2.2.2.1⟩ hM (va_cwS na F.2.2.2.2.1 hT hw rfl rfl hd hR) (kx_preS F.2.2.2.2.2 hW hS) rfl hn hsize hst (lv_room hrm) hdg hf) hS kx kk
theorem kx_rig {post : Option Value → kx_A → Nat → kx_S → Prop} (F : kx_F p s m c cc nL own args Ts G z0) (hr : meth.sig.returnType = some .int) (hlocks : meth.locks = false) (hW : kx_Wd G z0 ad nb sg H) (hS : va_S (kx_Ad z0) s.heap H locs) (hc : cells ≤ mc) (hs : slots ≤ ms) {v : Int32} (hp : post (some (.int v)) ad nb sg) (hdg : decode cc pc = .ok (.ireturn, 1)) : W p l e R s m args below meth c H locs cells slots (MQ below (kx_Qg G z0 post) args s mc ms (kx_Ad z0)) (F0 m pc ls [.int v]) :=
  W.widen hc hs (W.iret F.1 F.2.1 hr (fun t ht _ => ⟨⟨_, ad, nb, sg, rfl, hp, by rw [ht]; exact hW⟩, hS.F ht⟩) hS.2.2 hdg hlocks)
end KXD

set_option maxHeartbeats 4000000 in
set_option maxRecDepth 100000 in
theorem c_L_box (l : Launch) (hlf : l.stackTraces = false) (G : kx_G) (z0 : Nat) (ad : kx_A) (nb : Nat) (sg : kx_S) (hC : tw_CI nb sg) (x y : Int32) : kx_MXg l yL_box wsL_box 7 112 5 59 G z0 ad nb sg [.ref (ad 0 0), .int x, .int y, .ref (ad 32 0)] (fun r ad' nb' sg' => (∃ (a : Int32) (sgc : kx_S), r = some (.int 0) ∧ nb' = nb + 1 ∧ (∀ k n, kx_live nb k n → ad' k n = ad k n) ∧ cn_box nb sg x y a sgc ∧ sg' = kx_up sgc 32 0 (upd (sgc 32 0) 0 a)) ∨ (∃ (k : Int32) (E : String), r = some (.int k) ∧ nb' = nb ∧ ad' = ad ∧ sg' = sg ∧ cx_box nb x y E ∧ ((E = kx_iae ∧ k = 1) ∨ (E = kx_ise ∧ k = 2)))) (fun _ => False) := by
  refine vx_ofWH (hh := [(0, 10, 13, 13), (0, 10, 17, 15)]) (cc := cL_box) (maxL := 5) (ret := (some .int)) (by decide) rfl ?_
  intro p e s m args below meth c s₁ B hml hv
  obtain ⟨rfl, hW, hV⟩ := hv
  have hts := atoms_spec (ws := wsL_box) B.pre
  have F : kx_F p s m c cL_box 5 RL _ wsL_box G z0 := ⟨B.exec, B.bytes, hml, findClass_of_methodNamed B.named, hts, hV⟩
  have htb : c.exceptionTable.toList = tableOf [(0, 10, 13, 13), (0, 10, 17, 15)] := vx_table (x := yL_box) B (hts (.codeWith yL_box cL_box 5 (some .int) [(0, 10, 13, 13), (0, 10, 17, 15)]) List.mem_cons_self)
  have hx := B.exec; have hb := B.bytes; have hr := B.returns; have hlocks := B.notSynchronized
  have hS : va_S (kx_Ad z0) s.heap s.heap [] := va_S.rf
  have hl := lv_entry ([.ref (ad 0 0), .int x, .int y, .ref (ad 32 0)]) (n := 5) (Nat.le_of_ble_eq_true rfl)
  rw [lg_entry_eq]
  generalize (lg_sl ([.ref (ad 0 0), .int x, .int y, .ref (ad 32 0)]) ++ List.replicate (5 - (lg_sl ([.ref (ad 0 0), .int x, .int y, .ref (ad 32 0)])).length) Slot.unset).toArray = ls at hl ⊢
  have hl : lv_has ls 5 [(0, .ref (ad 0 0)), (1, .int x), (2, .int y), (3, .ref (ad 32 0))] := hl
  refine lv_aload_n hx hb dL_box_0 rfl (lv_at hl 3 rfl) ?_
  refine lv_iconst (v := 0) hx hb dL_box_1 (by decide) ?_
  refine lv_aload_n hx hb dL_box_2 rfl (lv_at hl 0 rfl) ?_
  refine lv_iload_n hx hb dL_box_3 rfl (lv_at hl 1 rfl) ?_
  refine lv_iload_n hx hb dL_box_4 rfl (lv_at hl 2 rfl) ?_
  refine kx_xVg (na := 2) F (q := 0) (n := 0) (c_X3_box l hlf G z0 ad nb sg hC x y) gL_box_X3_box rfl (by decide +kernel) ⟨Nat.le_of_ble_eq_true rfl, Nat.le_of_ble_eq_true rfl⟩ hW hS ⟨by decide, rfl⟩ rfl rfl (As := [.int x, .int y]) (rest := [.int 0, .ref (ad 32 0)]) rfl hl.1 rfl (Nat.le_of_ble_eq_true rfl) dL_box_5 ⟨Nat.le_of_ble_eq_true rfl, Nat.le_of_ble_eq_true rfl⟩ (fun E9 ce9 q9 H locs hp9 hW hS h7 h8 h9 => ?_) (fun r9 ad9 nb9 sg9 H locs hq hW hS => ?_)
  · have hp9 : cx_box nb x y E9 := hp9
    have he9 : E9 = kx_iae ∨ E9 = kx_ise := hp9.imp (fun z => z.1) (fun z => z.1)
    rcases he9 with rfl | rfl
    · refine kx_ct F htb [] ⟨0, 10, 13, 13⟩ [⟨0, 10, 17, 15⟩] rfl (by simp) (by decide) (by decide) (by decide +kernel) (by decide +kernel) h7 h8 h9 ?_
      refine lv_astore (lv' := [(4, .ref q9), (0, .ref (ad 0 0)), (1, .int x), (2, .int y), (3, .ref (ad 32 0))]) hx hb dL_box_13 hl (by decide) rfl (fun ls hl => ?_)
      refine lv_iconst (v := 1) hx hb dL_box_15 (by decide) ?_
      refine vx_ret ?_
      exact kx_rig F hr hlocks hW hS (Nat.le_of_ble_eq_true rfl) (Nat.le_of_ble_eq_true rfl) (Or.inr ⟨1, _, rfl, rfl, rfl, rfl, hp9, Or.inl ⟨rfl, rfl⟩⟩) dL_box_16
    · refine kx_ct F htb [⟨0, 10, 13, 13⟩] ⟨0, 10, 17, 15⟩ [] rfl (by intro z hz; simp only [List.mem_cons, List.not_mem_nil, or_false] at hz; subst hz; exact ⟨by decide, "java/lang/IllegalArgumentException", by decide +kernel, by decide +kernel⟩) (by decide) (by decide) (by decide +kernel) (by decide +kernel) h7 h8 h9 ?_
      refine lv_astore (lv' := [(4, .ref q9), (0, .ref (ad 0 0)), (1, .int x), (2, .int y), (3, .ref (ad 32 0))]) hx hb dL_box_17 hl (by decide) rfl (fun ls hl => ?_)
      refine lv_iconst (v := 2) hx hb dL_box_19 (by decide) ?_
      refine vx_ret ?_
      exact kx_rig F hr hlocks hW hS (Nat.le_of_ble_eq_true rfl) (Nat.le_of_ble_eq_true rfl) (Or.inr ⟨2, _, rfl, rfl, rfl, rfl, hp9, Or.inr ⟨rfl, rfl⟩⟩) dL_box_20
  obtain ⟨v9, rfl, rfl, had, hq⟩ := hq
  have ha32 : ad9 32 0 = ad 32 0 := had 32 0 ⟨by decide, rfl⟩
  refine W.eq (g2 := F0 m 8 ls [.int v9, .int 0, .ref (ad9 32 0)]) (by rw [ha32]; rfl) ?_
  refine lv_i2l (v := Int32.toInt64 v9) hx hb dL_box_8 rfl ?_
  refine kx_last F hW hS (x := v9) rfl dL_box_9 (fun H locs hW hS => ?_)
  refine lv_goto (tgt := 21) hx hb dL_box_10 (by decide) ?_
  refine lv_iconst (v := 0) hx hb dL_box_21 (by decide) ?_
  refine vx_ret ?_
  exact kx_rig F hr hlocks hW hS (Nat.le_of_ble_eq_true rfl) (Nat.le_of_ble_eq_true rfl) (Or.inl ⟨v9, sg9, rfl, rfl, had, hq, rfl⟩) dL_box_22

