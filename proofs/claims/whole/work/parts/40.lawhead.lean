/-! calls of static methods that have a table of their own -/
section KXH
variable {p : Program} {l : Launch} {e : Env} {R : Room} {s : State} {m : MethodId} {args : Array Value} {below : List Frame} {meth : Method} {c : Code} {H : Heap} {locs : List Loc} {cells slots : Nat} {Q : State → Prop}
variable {cc : ByteArray} {nL pc : Nat} {own : String} {ls : Array Slot} {rest st0 : List Value} {Ts : List Cond} {G : kx_G} {z0 : Nat} {ad : kx_A} {nb : Nat} {sg : kx_S} {mc ms : Nat}
theorem kx_xSH {y : MethodName} {ws ws' : List Cond} {fr lo index na maxL : Nat} {bytes : ByteArray} {ret : Option FieldType} {hh : List (Nat × Nat × Nat × Nat)} {As : List Value} {post : Option Value → kx_S → Prop} {px : String → Prop} (F : kx_F p s m c cc nL own args Ts G z0) (hM : kx_MX l y ws fr lo mc ms G z0 ad nb sg As post px) (hT : GoodIn Ts (va_wsS own index y ws)) (hw : ws = Cond.codeWith y bytes maxL ret hh :: ws') (hd : y.cls ≠ "java/lang/invoke/MethodHandle" ∧ y.cls ≠ "java/lang/invoke/VarHandle" ∧ (parseMethodDescriptor y.desc).map (fun d => d.parameters.length) = some na) (hR : fr + 1 ≤ R.frames ∧ 8 + (maxL + 11) + lo ≤ R.locals)
    (hW : kx_Wd G z0 ad nb sg H) (hS : va_S (kx_Ad z0) s.heap H locs) (hn : As.length = na) (hsize : ls.size = nL) (hst : st0 = As.reverse ++ rest) (hrm : (rest.map fun v => v.category).sum ≤ 8) (hdg : decode cc pc = .ok (.invokestatic index, 3)) (hf : cells + mc ≤ R.cells ∧ slots + ms ≤ R.slots)
    (kx : ∀ (E : String) (ce : Cell) (q9 : Addr) (H1 : Heap) (locs1 : List Loc), px E → kx_Wd G z0 ad nb sg H1 → va_S (kx_Ad z0) s.heap H1 locs1 → H1[q9]? = some ce → ce.vm = .none → s.vm.findClass E = some ce.cls → vx_W p l e R s m args below meth c H1 locs1 (cells + mc) (slots + ms) Q (F0 m pc ls rest) q9)
    (kk : ∀ (r : Option Value) (sg' : kx_S) (H1 : Heap) (locs1 : List Loc), post r sg' → kx_Wd G z0 ad nb sg' H1 → va_S (kx_Ad z0) s.heap H1 locs1 → W p l e R s m args below meth c H1 locs1 (cells + mc) (slots + ms) Q (F0 m (pc + 3) ls (r.toList ++ rest))) : W p l e R s m args below meth c H locs cells slots Q (F0 m pc ls st0) :=
  kx_goX (vx_runSX (As := As) (rest := rest) ⟨F.1, F.2.1, F.2.2.1, F.2.2.2.1, F.2.2.2.2.1⟩ hM (vx_cwSW na F.2.2.2.2.1 hT hw rfl rfl hd hR) (kx_preS F.2.2.2.2.2 hW hS) rfl hn hsize hst (lv_room hrm) hdg hf) hS kx kk
theorem kx_xSHg {y : MethodName} {ws ws' : List Cond} {fr lo index na maxL : Nat} {bytes : ByteArray} {ret : Option FieldType} {hh : List (Nat × Nat × Nat × Nat)} {As : List Value} {post : Option Value → kx_A → Nat → kx_S → Prop} {px : String → Prop} (F : kx_F p s m c cc nL own args Ts G z0) (hM : kx_MXg l y ws fr lo mc ms G z0 ad nb sg As post px) (hT : GoodIn Ts (va_wsS own index y ws)) (hw : ws = Cond.codeWith y bytes maxL ret hh :: ws') (hd : y.cls ≠ "java/lang/invoke/MethodHandle" ∧ y.cls ≠ "java/lang/invoke/VarHandle" ∧ (parseMethodDescriptor y.desc).map (fun d => d.parameters.length) = some na) (hR : fr + 1 ≤ R.frames ∧ 8 + (maxL + 11) + lo ≤ R.locals)
    (hW : kx_Wd G z0 ad nb sg H) (hS : va_S (kx_Ad z0) s.heap H locs) (hn : As.length = na) (hsize : ls.size = nL) (hst : st0 = As.reverse ++ rest) (hrm : (rest.map fun v => v.category).sum ≤ 8) (hdg : decode cc pc = .ok (.invokestatic index, 3)) (hf : cells + mc ≤ R.cells ∧ slots + ms ≤ R.slots)
    (kx : ∀ (E : String) (ce : Cell) (q9 : Addr) (H1 : Heap) (locs1 : List Loc), px E → kx_Wd G z0 ad nb sg H1 → va_S (kx_Ad z0) s.heap H1 locs1 → H1[q9]? = some ce → ce.vm = .none → s.vm.findClass E = some ce.cls → vx_W p l e R s m args below meth c H1 locs1 (cells + mc) (slots + ms) Q (F0 m pc ls rest) q9)
    (kk : ∀ (r : Option Value) (ad' : kx_A) (nb' : Nat) (sg' : kx_S) (H1 : Heap) (locs1 : List Loc), post r ad' nb' sg' → kx_Wd G z0 ad' nb' sg' H1 → va_S (kx_Ad z0) s.heap H1 locs1 → W p l e R s m args below meth c H1 locs1 (cells + mc) (slots + ms) Q (F0 m (pc + 3) ls (r.toList ++ rest))) : W p l e R s m args below meth c H locs cells slots Q (F0 m pc ls st0) :=
  kx_goXg (vx_runSX (As := As) (rest := rest) ⟨F.1, F.2.1, F.2.2.1, F.2.2.2.1, F.2.2.2.2.1⟩ hM (vx_cwSW na F.2.2.2.2.1 hT hw rfl rfl hd hR) (kx_preS F.2.2.2.2.2 hW hS) rfl hn hsize hst (lv_room hrm) hdg hf) hS kx kk
end KXH
theorem lo_n1 (i : Nat) : nI i + 1 = nI (i + 1) := nI_1 i
theorem lo_n2 (i : Nat) : nI i + 2 = nI (i + 2) := nI_add i 2
theorem lo_n3 (i : Nat) : nI i + 3 = nI (i + 3) := nI_add i 3
theorem lo_n4 (i : Nat) : nI i + 4 = nI (i + 4) := nI_add i 4

theorem ci_time {nb : Nat} {s s1 : kx_S} {r : Option Value} (h : cq_time nb s r s1) : ∃ a : Int32, r = some (.int a) := ⟨_, h.1⟩

theorem ci_boxes {nb : Nat} {s s1 : kx_S} {r : Option Value} (h : cq_boxes nb s r s1) : ∃ a : Int32, r = some (.int a) := ⟨_, h.1⟩

theorem ci_insurers {nb : Nat} {s s1 : kx_S} {r : Option Value} (h : cq_insurers nb s r s1) : ∃ a : Int32, r = some (.int a) := ⟨_, h.1⟩

theorem ci_entries {nb : Nat} {s s1 : kx_S} {r : Option Value} (h : cq_entries nb s r s1) : ∃ a : Int32, r = some (.int a) := ⟨_, h.1⟩

theorem lb_hasFee {nb : Nat} {t t2 : kx_S} {x b : Int32} (h : mq_hasFee nb t x (some (.int b)) t2) : tw_01 b := by
  unfold mq_hasFee at h
  rcases h with ⟨-, h, -⟩ | ⟨k, -, -, h, -⟩
  · exact Or.inl (Value.int.inj (Option.some.inj h))
  · rw [Value.int.inj (Option.some.inj h)]; exact tw_b_01 _

theorem lb_isInsured {nb : Nat} {t t2 : kx_S} {x b : Int32} (h : mq_isInsured nb t x (some (.int b)) t2) : tw_01 b := by
  unfold mq_isInsured at h
  rcases h with ⟨-, h, -⟩ | ⟨k, -, -, h, -⟩
  · exact Or.inl (Value.int.inj (Option.some.inj h))
  · rw [Value.int.inj (Option.some.inj h)]; exact tw_b_01 _

theorem lb_isJammed {nb : Nat} {t t2 : kx_S} {x b : Int32} (h : mq_isJammed nb t x (some (.int b)) t2) : tw_01 b := by
  unfold mq_isJammed at h
  rcases h with ⟨-, h, -⟩ | ⟨k, -, -, h, -⟩
  · exact Or.inl (Value.int.inj (Option.some.inj h))
  · rw [Value.int.inj (Option.some.inj h)]; exact tw_b_01 _

theorem lb_jam {nb : Nat} {s t t2 : kx_S} {x z b : Int32} (hR : rl_PT nb s t) (h : mq_jam nb t x z (some (.int b)) t2) : tw_01 b := by
  unfold mq_jam at h
  rcases h with ⟨-, h, -⟩ | ⟨d, hd, -, h, -⟩
  · exact Or.inl (Value.int.inj (Option.some.inj h))
  · rw [Value.int.inj (Option.some.inj h)]; exact (hR.1.2.2.2.2.2.2.2.2.1 d hd).2.2.1
