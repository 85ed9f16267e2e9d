/-! ROWS over the world kx_Wd -/
abbrev kx_F (p : Program) (s : State) (m : MethodId) (c : Code) (cc : ByteArray) (nL : Nat) (own : String) (args : Array Value) (Ts : List Cond) (G : kx_G) (z0 : Nat) : Prop :=
  p.tables.exec = Jvm.exec ∧ c.code = cc ∧ c.maxLocals = nL ∧ s.vm.findClass own = some m.cls ∧ (∀ w ∈ Ts, w.before args s = true) ∧ kx_V G z0 s s.heap
def kx_P (G : kx_G) (z0 : Nat) (ad : kx_A) (nb : Nat) (sg : kx_S) (av : List Value) : Array Value → State → Prop := va_Pc av (fun U => kx_Wd G z0 ad nb sg U.heap ∧ kx_V G z0 U U.heap)
def kx_Q (G : kx_G) (z0 : Nat) (ad : kx_A) (nb : Nat) (post : Option Value → kx_S → Prop) : Array Value → State → Outcome → State → Prop := fun _ st oc t => (∃ (r : Option Value) (sg' : kx_S), oc = .returned r ∧ post r sg' ∧ kx_Wd G z0 ad nb sg' t.heap) ∧ va_F (kx_Ad z0) st t
def kx_X (G : kx_G) (z0 : Nat) (ad : kx_A) (nb : Nat) (sg : kx_S) (px : String → Prop) : String → State → State → Prop := fun E st t => px E ∧ kx_Wd G z0 ad nb sg t.heap ∧ va_F (kx_Ad z0) st t
abbrev kx_M (l : Launch) (y : MethodName) (ws : List Cond) (fr lo mc ms : Nat) (G : kx_G) (z0 : Nat) (ad : kx_A) (nb : Nat) (sg : kx_S) (av : List Value) (post : Option Value → kx_S → Prop) : Prop :=
  Met l y ws { frames := fr, cells := mc, slots := ms, locals := lo } (kx_P G z0 ad nb sg av) (kx_Q G z0 ad nb post) mc ms (kx_Ad z0)
abbrev kx_MX (l : Launch) (y : MethodName) (ws : List Cond) (fr lo mc ms : Nat) (G : kx_G) (z0 : Nat) (ad : kx_A) (nb : Nat) (sg : kx_S) (av : List Value) (post : Option Value → kx_S → Prop) (px : String → Prop) : Prop :=
  vx_Met l y ws { frames := fr, cells := mc, slots := ms, locals := lo } (kx_P G z0 ad nb sg av) (kx_Q G z0 ad nb post) (kx_X G z0 ad nb sg px) mc ms (kx_Ad z0)
theorem kx_blind {G : kx_G} {z0 : Nat} {ad : kx_A} {nb : Nat} {sg : kx_S} {av : List Value} : FrameBlind (kx_P G z0 ad nb sg av) := fun a U g mk q => ⟨q.1, q.2.1, q.2.2.call g mk a⟩
theorem kx_preS {G : kx_G} {z0 : Nat} {ad : kx_A} {nb : Nat} {sg : kx_S} {av : List Value} {s : State} {H : Heap} {locs : List Loc} (hV : kx_V G z0 s s.heap) (hW : kx_Wd G z0 ad nb sg H) (hS : va_S (kx_Ad z0) s.heap H locs) : PreS s H (kx_P G z0 ad nb sg av) av :=
  ⟨kx_blind, fun U hU hW9 => ⟨rfl, by rw [hU]; exact hW, by rw [hU]; exact hV.go hW9 hS⟩⟩
theorem kx_recv {G : kx_G} {z0 : Nat} {ad : kx_A} {nb : Nat} {sg : kx_S} {s : State} {H : Heap} (hV : kx_V G z0 s s.heap) (hW : kx_Wd G z0 ad nb sg H) {q n : Nat} (hq : kx_live nb q n) {ci : Nat} {fs : List Value} (he : kx_cell G.2 ad nb q n (sg q n) = .inr (ci, fs)) {C : String} {T : u_T} {N : Nat} (hc : vwCl[ci]? = some (C, T, N)) : ∃ cell : Cell, H[ad q n]? = some cell ∧ cell.vm.isStatics = false ∧ s.vm.findClass C = some cell.cls :=
  va_recv (q := (C, T, N)) hV.1 (hW.one hq) hc (q0 := 0) (by rw [he]; rfl)
theorem kx_preV {G : kx_G} {z0 : Nat} {ad : kx_A} {nb : Nat} {sg : kx_S} {As : List Value} {s : State} {H : Heap} {locs : List Loc} (hV : kx_V G z0 s s.heap) (hW : kx_Wd G z0 ad nb sg H) (hS : va_S (kx_Ad z0) s.heap H locs) {q n : Nat} (hq : kx_live nb q n) {ci : Nat} {fs : List Value} (he : kx_cell G.2 ad nb q n (sg q n) = .inr (ci, fs)) {C : String} {T : u_T} {N : Nat} (hc : vwCl[ci]? = some (C, T, N)) : PreV s H C (ad q n) (kx_P G z0 ad nb sg (.ref (ad q n) :: As)) As :=
  ⟨kx_blind, kx_recv hV hW hq he hc, fun U hU hW9 => ⟨rfl, by rw [hU]; exact hW, by rw [hU]; exact hV.go hW9 hS⟩⟩
theorem kx_in01 : vp_in (0 : Int32) 1 := by
  have h := vp_in_nI (n := 0) (N := 1) (by decide) (by decide)
  rwa [nI_0] at h
section KXR
variable {p : Program} {l : Launch} {e : Env} {R : Room} {s : State} {m : MethodId} {args : Array Value} {below : List Frame} {meth : Method} {c : Code} {H : Heap} {locs : List Loc} {cells slots : Nat} {Q : State → Prop}
variable {cc : ByteArray} {nL pc : Nat} {own : String} {ls : Array Slot} {rest st0 : List Value} {Ts : List Cond} {G : kx_G} {z0 : Nat} {ad : kx_A} {nb : Nat} {sg : kx_S} {H0 : Heap} {a : Array Value} {mc ms : Nat}
theorem kx_g (F : kx_F p s m c cc nL own args Ts G z0) {index ci : Nat} {C : String} {T : u_T} {N : Nat} (hin : ∀ w ∈ u_ws C T N, w ∈ Ts) (hW : kx_Wd G z0 ad nb sg H) (q n : Nat) (hq : kx_live nb q n) {fs : List Value} (he : kx_cell G.2 ad nb q n (sg q n) = .inr (ci, fs)) (hc : vwCl[ci]? = some (C, T, N)) (k : Nat) (hk : k < N) (hl : Cond.fieldLink own index (T k).1 (T k).2.1 (T k).2.2.1 ∈ Ts) {v : Value} (hv : fs[k]? = some v) (hdg : decode cc pc = .ok (.getfield index, 3))
    (kk : W p l e R s m args below meth c H locs cells slots Q (F0 m (pc + 3) ls (v :: rest))) : W p l e R s m args below meth c H locs cells slots Q (F0 m pc ls (.ref (ad q n) :: rest)) :=
  va_get F.1 F.2.1 F.2.2.2.2.1 hin F.2.2.2.1 F.2.2.2.2.2.1 (hW.one hq) 0 (by rw [he]; rfl) hc k hk (F.2.2.2.2.1 _ hl) (fun _ h => h) hv hdg kk
theorem kx_p (F : kx_F p s m c cc nL own args Ts G z0) {index ci : Nat} {C : String} {T : u_T} {N : Nat} (hin : ∀ w ∈ u_ws C T N, w ∈ Ts) (ty0 : Nat → FieldType) (hty : ∀ k, k < N → parseFieldDescriptor (T k).2.2.1 = some (ty0 k)) (hnm : ∀ a, a < N → ∀ b, b < N → a ≠ b → (T a).2.1 ≠ (T b).2.1) (hW : kx_Wd G z0 ad nb sg H) (hS0 : va_S (kx_Ad z0) H0 H locs) (q n : Nat) (hq : kx_live nb q n) {fs : List Value} (he : kx_cell G.2 ad nb q n (sg q n) = .inr (ci, fs)) (hc : vwCl[ci]? = some (C, T, N)) (k : Nat) (hk : k < N) (hl : Cond.fieldLink own index (T k).1 (T k).2.1 (T k).2.2.1 ∈ Ts) (hfin : (T k).2.2.2 = false) {v : Value} (hn : narrow (ty0 k) v = v) (hfit : fits (ty0 k) v = true) (hlen : k < fs.length) (r : Nat → Int32) (he' : kx_cell G.2 ad nb q n r = .inr (ci, fs.set k v)) (hdg : decode cc pc = .ok (.putfield index, 3))
    (kk : ∀ (H1 : Heap) (locs1 : List Loc), kx_Wd G z0 ad nb (kx_up sg q n r) H1 → va_S (kx_Ad z0) H0 H1 locs1 → W p l e R s m args below meth c H1 locs1 cells slots Q (F0 m (pc + 3) ls rest)) : W p l e R s m args below meth c H locs cells slots Q (F0 m pc ls (v :: .ref (ad q n) :: rest)) := by
  obtain ⟨hx, hb, hml, hown, hts, hV⟩ := F
  have hK := hV.1
  have hap := va_apart (own := own) hts hin ty0 hty hnm hK hc
  have hat := hW.1.1 q n hq
  rw [he] at hat
  obtain ⟨r1, h1, cell, q1, q2, q3, q4⟩ := hat
  have hr : r1 = (C, T, N) := Option.some.inj (h1.symm.trans hc)
  subst hr
  obtain ⟨hSl, hfc, kC, hkC, hkind⟩ := hK.1 ci _ hc
  obtain ⟨cf, kf, fi, f, hi, hsl⟩ := hSl k hk
  have hlay := hts _ (hin _ (u_in_lay hk))
  unfold u_lay at hlay
  rw [if_neg (by rw [hfin]; decide)] at hlay
  have hst := (u_facts hfc hkC (u_lays hts hin hk) hi).1
  have h6 := u_store hfc hkC hkind hlay hi (hty k hk) hn hfit
  refine W.putK hx hb (f := f) ⟨hown, hts _ hl, ⟨_, _, _, hi⟩, hst⟩ (by rw [q2]; exact h6) q1 q3 (by rw [hsl]; exact k2_hasslot (q4 k hk)) rfl rfl hdg fun H' e1 e2 e3 => ?_
  rw [hsl] at e1 ⊢
  have hat9 : va_at G.1 vwCl (ad q n, .inr (ci, fs.set k v)) H' := ⟨_, hc, t_OB.to (V := updV (vp_V fs) k v) ⟨_, e1, q2, q3, t_set q4 hap hk v⟩ (fun j _ => vp_updV_set hlen v j)⟩
  rw [← he'] at hat9
  exact kk H' _ (hW.put hq hat9 e3) (hS0.put e2 e3 (hW.1.2.2 q n hq))
theorem kx_ald (F : kx_F p s m c cc nL own args Ts G z0) (hW : kx_Wd G z0 ad nb sg H) (q n : Nat) (hq : kx_live nb q n) {len : Nat} {f : Nat → Int32} (he : kx_cell G.2 ad nb q n (sg q n) = .inl (G.2 0, len, .inl f)) (k : Nat) (hk : k < len) (hlen : len < 2 ^ 31) {v : Int32} (hv : f k = v) (hdg : decode cc pc = .ok (.iaload, 1))
    (kk : W p l e R s m args below meth c H locs cells slots Q (F0 m (pc + 1) ls (.int v :: rest))) : W p l e R s m args below meth c H locs cells slots Q (F0 m pc ls (.int (nI k) :: .ref (ad q n) :: rest)) := by
  refine va_iald F.1 F.2.1 F.2.2.2.2.2.1 (hW.one hq) 0 0 (by rw [he]; rfl) rfl (vp_in_nI hk hlen) hdg ?_
  rw [nI_clamp (Nat.lt_trans hk hlen), hv]
  exact kk
theorem kx_ast (F : kx_F p s m c cc nL own args Ts G z0) (hW : kx_Wd G z0 ad nb sg H) (hS0 : va_S (kx_Ad z0) H0 H locs) (q n : Nat) (hq : kx_live nb q n) {len : Nat} {f : Nat → Int32} (he : kx_cell G.2 ad nb q n (sg q n) = .inl (G.2 0, len, .inl f)) (k : Nat) (hk : k < len) (hlen : len < 2 ^ 31) {x : Int32} (he' : kx_cell G.2 ad nb q n (upd (sg q n) k x) = .inl (G.2 0, len, .inl (upd f k x))) (hdg : decode cc pc = .ok (.iastore, 1))
    (kk : ∀ (H1 : Heap) (locs1 : List Loc), kx_Wd G z0 ad nb (kx_up sg q n (upd (sg q n) k x)) H1 → va_S (kx_Ad z0) H0 H1 locs1 → W p l e R s m args below meth c H1 locs1 cells slots Q (F0 m (pc + 1) ls rest)) : W p l e R s m args below meth c H locs cells slots Q (F0 m pc ls (.int x :: .int (nI k) :: .ref (ad q n) :: rest)) := by
  have ha := hW.1.1 q n hq
  rw [he] at ha
  refine W.iast F.1 F.2.1 ha ((F.2.2.2.2.2.1.2 0 _ rfl).1 len (fun j => .int (f j))) (fun q => by cases q) (by show ¬ (_ < 0 ∨ (arrV _ _ _).slots.size ≤ _); rw [arrV_size]; exact vp_in_nI hk hlen) rfl rfl hdg fun H1 e9 z oq => ?_
  refine kk H1 _ (hW.put hq ?_ oq) (hS0.put z oq (hW.1.2.2 q n hq))
  rw [he']
  show H1[ad q n]? = some (vp_cell _ _)
  rw [e9, nI_clamp (Nat.lt_trans hk hlen)]
  rw [vp_cell_i, vp_cell_i, arrV_store]
  congr 2
  funext q
  by_cases hq : q = k
  · subst hq
    simp [updV, upd]
  · simp [updV, upd, hq]
theorem kx_aaldD (F : kx_F p s m c cc nL own args Ts G z0) (hW : kx_Wd G z0 ad nb sg H) (k : Nat) (hk : k < 10) (hdg : decode cc pc = .ok (.aaload, 1))
    (kk : W p l e R s m args below meth c H locs cells slots Q (F0 m (pc + 1) ls (.ref (ad 8 k) :: rest))) : W p l e R s m args below meth c H locs cells slots Q (F0 m pc ls (.int (nI k) :: .ref (ad 2 0) :: rest)) := by
  have hq : kx_live nb 2 0 := ⟨by decide, rfl⟩
  refine va_aldq F.1 F.2.1 F.2.2.2.2.2.1 (hW.one hq) 0 3 (n := 10) (C := "Whichbox$Door") (f := fun i => some (ad 8 i)) rfl rfl (vp_in_nI hk (by decide)) hdg ?_
  rw [nI_clamp (Nat.lt_trans hk (by decide))]
  exact kk
theorem kx_aaldB (F : kx_F p s m c cc nL own args Ts G z0) (hW : kx_Wd G z0 ad nb sg H) (k : Nat) (hk : k < 16) (hdg : decode cc pc = .ok (.aaload, 1))
    (kt : k < nb → W p l e R s m args below meth c H locs cells slots Q (F0 m (pc + 1) ls (.ref (ad 9 k) :: rest))) (kf : ¬ k < nb → W p l e R s m args below meth c H locs cells slots Q (F0 m (pc + 1) ls (.null :: rest))) : W p l e R s m args below meth c H locs cells slots Q (F0 m pc ls (.int (nI k) :: .ref (ad 1 0) :: rest)) := by
  have hq : kx_live nb 1 0 := ⟨by decide, rfl⟩
  refine va_aldq F.1 F.2.1 F.2.2.2.2.2.1 (hW.one hq) 0 2 (n := 16) (C := "Whichbox$Box") (f := fun i => if i < nb then some (ad 9 i) else none) rfl rfl (vp_in_nI hk (by decide)) hdg ?_
  rw [nI_clamp (Nat.lt_trans hk (by decide))]
  by_cases h : k < nb
  · simp only [if_pos h]
    exact kt h
  · simp only [if_neg h]
    exact kf h
theorem kx_alenB (F : kx_F p s m c cc nL own args Ts G z0) (hW : kx_Wd G z0 ad nb sg H) (hdg : decode cc pc = .ok (.arraylength, 1))
    (kk : W p l e R s m args below meth c H locs cells slots Q (F0 m (pc + 1) ls (.int (nI 16) :: rest))) : W p l e R s m args below meth c H locs cells slots Q (F0 m pc ls (.ref (ad 1 0) :: rest)) := by
  have hq : kx_live nb 1 0 := ⟨by decide, rfl⟩
  exact va_alen F.1 F.2.1 F.2.2.2.2.2.1 (hW.one hq) 0 2 (ha := rfl) (ht := rfl) rfl hdg kk
theorem kx_min_ld (F : kx_F p s m c cc nL own args Ts G z0) (hS : va_S (kx_Ad z0) s.heap H locs) {index ic : Nat} (hl : Cond.fieldLink own index "Whichbox" "MINUTES" "[I" ∈ Ts) (hdg : decode cc pc = .ok (.getstatic index, 3))
    (kk : ∀ t : Nat, va_T .int t 16 (fun j => .int (kx_min j)) (kx_Ad z0) s s.heap → W p l e R s m args below meth c H locs cells slots Q (F0 m (pc + 3) ls (.ref t :: rest))) : W p l e R s m args below meth c H locs cells slots Q (F0 m pc ls rest) := by
  obtain ⟨hx, hb, hml, hown, hts, hK, ⟨t, hZ, hT⟩, -⟩ := F
  exact va_gets hx hb hZ hS hown (hts _ hl) (fun _ h => h) hdg (kk t hT)
/-! calls -/
theorem kx_go {post : Option Value → kx_S → Prop} (hr : va_Run p l e R s m args below meth c H locs cells slots mc ms (F0 m pc ls st0) rest (kx_Q G z0 ad nb post a) (kx_Ad z0)) (hS : va_S (kx_Ad z0) H0 H locs)
    (kk : ∀ (r : Option Value) (sg' : kx_S) (H1 : Heap) (locs1 : List Loc), post r sg' → kx_Wd G z0 ad nb sg' H1 → va_S (kx_Ad z0) H0 H1 locs1 → W p l e R s m args below meth c H1 locs1 (cells + mc) (slots + ms) Q (F0 m (pc + 3) ls (r.toList ++ rest))) : W p l e R s m args below meth c H locs cells slots Q (F0 m pc ls st0) := by
  intro T hT X
  obtain ⟨v, st₀, t, T', L, h0, X', hL, e1, e2, ⟨⟨r, sg', hv, hp, hb⟩, hF⟩, st⟩ := hr T hT X
  cases Outcome.returned.inj hv
  obtain ⟨k1, k2, k3⟩ := vx_keep h0 e1 hS (fun _ _ h => h) (fun _ h => h) hL hF
  obtain ⟨t2, a1, b1⟩ := kk v sg' T'.heap (locs ++ L) hp (by rw [e1]; exact hb) k3 T' rfl X'
  exact ⟨t2, st t2 a1, b1⟩
theorem kx_goX {post : Option Value → kx_S → Prop} {px : String → Prop} (hr : vx_Run p l e R s m args below meth c H locs cells slots mc ms (F0 m pc ls st0) rest (kx_Q G z0 ad nb post a) (kx_X G z0 ad nb sg px) (kx_Ad z0)) (hS : va_S (kx_Ad z0) H0 H locs)
    (kx : ∀ (E : String) (ce : Cell) (q9 : Addr) (H1 : Heap) (locs1 : List Loc), px E → kx_Wd G z0 ad nb sg H1 → va_S (kx_Ad z0) H0 H1 locs1 → H1[q9]? = some ce → ce.vm = .none → s.vm.findClass E = some ce.cls → vx_W p l e R s m args below meth c H1 locs1 (cells + mc) (slots + ms) Q (F0 m pc ls rest) q9)
    (kk : ∀ (r : Option Value) (sg' : kx_S) (H1 : Heap) (locs1 : List Loc), post r sg' → kx_Wd G z0 ad nb sg' H1 → va_S (kx_Ad z0) H0 H1 locs1 → W p l e R s m args below meth c H1 locs1 (cells + mc) (slots + ms) Q (F0 m (pc + 3) ls (r.toList ++ rest))) : W p l e R s m args below meth c H locs cells slots Q (F0 m pc ls st0) := by
  intro T hT X
  rcases hr T hT X with ⟨v, st₀, t, T', L, h0, X', hL, e1, e2, ⟨⟨r, sg', hv, hp, hb⟩, hF⟩, st⟩ | ⟨q, st₀, t, T', L, E, ce, h0, X', hL, e1, e2, ⟨hp, hb, hF⟩, hce, hcv, hcl, st⟩
  · cases Outcome.returned.inj hv
    obtain ⟨k1, k2, k3⟩ := vx_keep h0 e1 hS (fun _ _ h => h) (fun _ h => h) hL hF
    obtain ⟨t2, a1, b1⟩ := kk v sg' T'.heap (locs ++ L) hp (by rw [e1]; exact hb) k3 T' rfl X'
    exact ⟨t2, st t2 a1, b1⟩
  · obtain ⟨k1, k2, k3⟩ := vx_keep h0 e1 hS (fun _ _ h => h) (fun _ h => h) hL hF
    obtain ⟨t2, a1, b1⟩ := kx E ce q T'.heap (locs ++ L) hp (by rw [e1]; exact hb) k3 (by rw [e1]; exact hce) hcv hcl T' rfl X'
    exact ⟨t2, st.trans a1, b1⟩
/-- a virtual call of an own method that returns -/
theorem kx_cV {y : MethodName} {ws ws' : List Cond} {fr lo index na maxL : Nat} {C : String} {bytes : ByteArray} {ret : Option FieldType} {As : List Value} {post : Option Value → kx_S → Prop} (F : kx_F p s m c cc nL own args Ts G z0) {q n : Nat} (hM : kx_M l y ws fr lo mc ms G z0 ad nb sg (.ref (ad q n) :: As) post) (hT : GoodIn Ts (wsV own index C y ws)) (hw : ws = Cond.code y bytes maxL ret :: ws') (hd : y.cls = C ∧ y.cls ≠ "java/lang/invoke/MethodHandle" ∧ y.cls ≠ "java/lang/invoke/VarHandle" ∧ (parseMethodDescriptor y.desc).map (fun d => d.parameters.length) = some na) (hR : fr + 1 ≤ R.frames ∧ 8 + (maxL + 11) + lo ≤ R.locals)
    (hW : kx_Wd G z0 ad nb sg H) (hS : va_S (kx_Ad z0) s.heap H locs) (hq : kx_live nb q n) {ci : Nat} {fs : List Value} (he : kx_cell G.2 ad nb q n (sg q n) = .inr (ci, fs)) {T : u_T} {N : Nat} (hc : vwCl[ci]? = some (C, T, N)) (hn : As.length = na) (hsize : ls.size = nL) (hst : st0 = As.reverse ++ .ref (ad q n) :: rest) (hrm : (rest.map fun v => v.category).sum ≤ 8) (hdg : decode cc pc = .ok (.invokevirtual index, 3)) (hf : cells + mc ≤ R.cells ∧ slots + ms ≤ R.slots)
    (kk : ∀ (r : Option Value) (sg' : kx_S) (H1 : Heap) (locs1 : List Loc), post r sg' → kx_Wd G z0 ad nb sg' H1 → va_S (kx_Ad z0) s.heap H1 locs1 → W p l e R s m args below meth c H1 locs1 (cells + mc) (slots + ms) Q (F0 m (pc + 3) ls (r.toList ++ rest))) : W p l e R s m args below meth c H locs cells slots Q (F0 m pc ls st0) :=
  kx_go (va_runV (As := As) (rest := rest) ⟨F.1, F.2.1, F.2.2.1, F.2.2.2.1, F.2.2.2.2.1⟩ hM (cwV na F.2.2.2.2.1 hT hw rfl rfl hd hR) (kx_preV F.2.2.2.2.2 hW hS hq he hc) rfl hn hsize hst (lv_room hrm) hdg hf) hS kk
theorem kx_cS {y : MethodName} {ws ws' : List Cond} {fr lo index na maxL : Nat} {bytes : ByteArray} {ret : Option FieldType} {As : List Value} {post : Option Value → kx_S → Prop} (F : kx_F p s m c cc nL own args Ts G z0) (hM : kx_M l y ws fr lo mc ms G z0 ad nb sg As post) (hT : GoodIn Ts (va_wsS own index y ws)) (hw : ws = Cond.code y bytes maxL ret :: ws') (hd : y.cls ≠ "java/lang/invoke/MethodHandle" ∧ y.cls ≠ "java/lang/invoke/VarHandle" ∧ (parseMethodDescriptor y.desc).map (fun d => d.parameters.length) = some na) (hR : fr + 1 ≤ R.frames ∧ 8 + (maxL + 11) + lo ≤ R.locals)
    (hW : kx_Wd G z0 ad nb sg H) (hS : va_S (kx_Ad z0) s.heap H locs) (hn : As.length = na) (hsize : ls.size = nL) (hst : st0 = As.reverse ++ rest) (hrm : (rest.map fun v => v.category).sum ≤ 8) (hdg : decode cc pc = .ok (.invokestatic index, 3)) (hf : cells + mc ≤ R.cells ∧ slots + ms ≤ R.slots)
    (kk : ∀ (r : Option Value) (sg' : kx_S) (H1 : Heap) (locs1 : List Loc), post r sg' → kx_Wd G z0 ad nb sg' H1 → va_S (kx_Ad z0) s.heap H1 locs1 → W p l e R s m args below meth c H1 locs1 (cells + mc) (slots + ms) Q (F0 m (pc + 3) ls (r.toList ++ rest))) : W p l e R s m args below meth c H locs cells slots Q (F0 m pc ls st0) :=
  kx_go (va_runS (As := As) (rest := rest) ⟨F.1, F.2.1, F.2.2.1, F.2.2.2.1, F.2.2.2.2.1⟩ hM (va_cwS na F.2.2.2.2.1 hT hw rfl rfl hd hR) (kx_preS F.2.2.2.2.2 hW hS) rfl hn hsize hst (lv_room hrm) hdg hf) hS kk
theorem kx_cN {y : MethodName} {ws ws' : List Cond} {fr lo index na maxL : Nat} {host : String} {bytes : ByteArray} {ret : Option FieldType} {As : List Value} {post : Option Value → kx_S → Prop} (F : kx_F p s m c cc nL own args Ts G z0) (hM : kx_M l y ws fr lo mc ms G z0 ad nb sg As post) (hG : GoodIn Ts ws) (hstat : Cond.static y ∈ Ts) (hini : Cond.initialized y.cls ∈ Ts) (hne : (own, index, y, host) ∈ kx_ne) (hw : ws = Cond.code y bytes maxL ret :: ws') (hd : y.cls ≠ "java/lang/invoke/MethodHandle" ∧ y.cls ≠ "java/lang/invoke/VarHandle" ∧ (parseMethodDescriptor y.desc).map (fun d => d.parameters.length) = some na) (hR : fr + 1 ≤ R.frames ∧ 8 + (maxL + 11) + lo ≤ R.locals)
    (hW : kx_Wd G z0 ad nb sg H) (hS : va_S (kx_Ad z0) s.heap H locs) (hn : As.length = na) (hsize : ls.size = nL) (hst : st0 = As.reverse ++ rest) (hrm : (rest.map fun v => v.category).sum ≤ 8) (hdg : decode cc pc = .ok (.invokestatic index, 3)) (hf : cells + mc ≤ R.cells ∧ slots + ms ≤ R.slots)
    (kk : ∀ (r : Option Value) (sg' : kx_S) (H1 : Heap) (locs1 : List Loc), post r sg' → kx_Wd G z0 ad nb sg' H1 → va_S (kx_Ad z0) s.heap H1 locs1 → W p l e R s m args below meth c H1 locs1 (cells + mc) (slots + ms) Q (F0 m (pc + 3) ls (r.toList ++ rest))) : W p l e R s m args below meth c H locs cells slots Q (F0 m pc ls st0) :=
  kx_go (va_runSN (As := As) (rest := rest) ⟨F.1, F.2.1, F.2.2.1, F.2.2.2.1, F.2.2.2.2.1⟩ hM ⟨va_cnB na F.2.2.2.2.1 hG hw rfl rfl (F.2.2.2.2.2.2.2.2.2.1 _ hne) (F.2.2.2.2.1 _ hini) hd hR, F.2.2.2.2.1 _ hstat, trivial⟩ (kx_preS F.2.2.2.2.2 hW hS) rfl hn hsize hst (lv_room hrm) hdg hf) hS kk
/-- calls of own methods that may throw -/
theorem kx_xV {y : MethodName} {ws ws' : List Cond} {fr lo index na maxL : Nat} {C : String} {bytes : ByteArray} {ret : Option FieldType} {As : List Value} {post : Option Value → kx_S → Prop} {px : String → Prop} (F : kx_F p s m c cc nL own args Ts G z0) {q n : Nat} (hM : kx_MX l y ws fr lo mc ms G z0 ad nb sg (.ref (ad q n) :: As) post px) (hT : GoodIn Ts (wsV own index C y ws)) (hw : ws = Cond.code y bytes maxL ret :: ws') (hd : y.cls = C ∧ y.cls ≠ "java/lang/invoke/MethodHandle" ∧ y.cls ≠ "java/lang/invoke/VarHandle" ∧ (parseMethodDescriptor y.desc).map (fun d => d.parameters.length) = some na) (hR : fr + 1 ≤ R.frames ∧ 8 + (maxL + 11) + lo ≤ R.locals)
    (hW : kx_Wd G z0 ad nb sg H) (hS : va_S (kx_Ad z0) s.heap H locs) (hq : kx_live nb q n) {ci : Nat} {fs : List Value} (he : kx_cell G.2 ad nb q n (sg q n) = .inr (ci, fs)) {T : u_T} {N : Nat} (hc : vwCl[ci]? = some (C, T, N)) (hn : As.length = na) (hsize : ls.size = nL) (hst : st0 = As.reverse ++ .ref (ad q n) :: rest) (hrm : (rest.map fun v => v.category).sum ≤ 8) (hdg : decode cc pc = .ok (.invokevirtual index, 3)) (hf : cells + mc ≤ R.cells ∧ slots + ms ≤ R.slots)
    (kx : ∀ (E : String) (ce : Cell) (q9 : Addr) (H1 : Heap) (locs1 : List Loc), px E → kx_Wd G z0 ad nb sg H1 → va_S (kx_Ad z0) s.heap H1 locs1 → H1[q9]? = some ce → ce.vm = .none → s.vm.findClass E = some ce.cls → vx_W p l e R s m args below meth c H1 locs1 (cells + mc) (slots + ms) Q (F0 m pc ls rest) q9)
    (kk : ∀ (r : Option Value) (sg' : kx_S) (H1 : Heap) (locs1 : List Loc), post r sg' → kx_Wd G z0 ad nb sg' H1 → va_S (kx_Ad z0) s.heap H1 locs1 → W p l e R s m args below meth c H1 locs1 (cells + mc) (slots + ms) Q (F0 m (pc + 3) ls (r.toList ++ rest))) : W p l e R s m args below meth c H locs cells slots Q (F0 m pc ls st0) :=
  kx_goX (vx_runV (As := As) (rest := rest) ⟨F.1, F.2.1, F.2.2.1, F.2.2.2.1, F.2.2.2.2.1⟩ hM (cwV na F.2.2.2.2.1 hT hw rfl rfl hd hR) (kx_preV F.2.2.2.2.2 hW hS hq he hc) rfl hn hsize hst (lv_room hrm) hdg hf) hS kx kk
theorem kx_xS {y : MethodName} {ws ws' : List Cond} {fr lo index na maxL : Nat} {bytes : ByteArray} {ret : Option FieldType} {As : List Value} {post : Option Value → kx_S → Prop} {px : String → Prop} (F : kx_F p s m c cc nL own args Ts G z0) (hM : kx_MX l y ws fr lo mc ms G z0 ad nb sg As post px) (hT : GoodIn Ts (va_wsS own index y ws)) (hw : ws = Cond.code y bytes maxL ret :: ws') (hd : y.cls ≠ "java/lang/invoke/MethodHandle" ∧ y.cls ≠ "java/lang/invoke/VarHandle" ∧ (parseMethodDescriptor y.desc).map (fun d => d.parameters.length) = some na) (hR : fr + 1 ≤ R.frames ∧ 8 + (maxL + 11) + lo ≤ R.locals)
    (hW : kx_Wd G z0 ad nb sg H) (hS : va_S (kx_Ad z0) s.heap H locs) (hn : As.length = na) (hsize : ls.size = nL) (hst : st0 = As.reverse ++ rest) (hrm : (rest.map fun v => v.category).sum ≤ 8) (hdg : decode cc pc = .ok (.invokestatic index, 3)) (hf : cells + mc ≤ R.cells ∧ slots + ms ≤ R.slots)
    (kx : ∀ (E : String) (ce : Cell) (q9 : Addr) (H1 : Heap) (locs1 : List Loc), px E → kx_Wd G z0 ad nb sg H1 → va_S (kx_Ad z0) s.heap H1 locs1 → H1[q9]? = some ce → ce.vm = .none → s.vm.findClass E = some ce.cls → vx_W p l e R s m args below meth c H1 locs1 (cells + mc) (slots + ms) Q (F0 m pc ls rest) q9)
    (kk : ∀ (r : Option Value) (sg' : kx_S) (H1 : Heap) (locs1 : List Loc), post r sg' → kx_Wd G z0 ad nb sg' H1 → va_S (kx_Ad z0) s.heap H1 locs1 → W p l e R s m args below meth c H1 locs1 (cells + mc) (slots + ms) Q (F0 m (pc + 3) ls (r.toList ++ rest))) : W p l e R s m args below meth c H locs cells slots Q (F0 m pc ls st0) :=
  kx_goX (vx_runS (As := As) (rest := rest) ⟨F.1, F.2.1, F.2.2.1, F.2.2.2.1, F.2.2.2.2.1⟩ hM (va_cwS na F.2.2.2.2.1 hT hw rfl rfl hd hR) (kx_preS F.2.2.2.2.2 hW hS) rfl hn hsize hst (lv_room hrm) hdg hf) hS kx kk
/-! ends -/
theorem kx_ri {post : Option Value → kx_S → Prop} (F : kx_F p s m c cc nL own args Ts G z0) (hr : meth.sig.returnType = some .int) (hlocks : meth.locks = false) (hW : kx_Wd G z0 ad nb sg H) (hS : va_S (kx_Ad z0) s.heap H locs) (hc : cells ≤ mc) (hs : slots ≤ ms) {v : Int32} (hp : post (some (.int v)) sg) (hdg : decode cc pc = .ok (.ireturn, 1)) : W p l e R s m args below meth c H locs cells slots (MQ below (kx_Q G z0 ad nb post) args s mc ms (kx_Ad z0)) (F0 m pc ls [.int v]) :=
  W.widen hc hs (W.iret F.1 F.2.1 hr (fun t ht _ => ⟨⟨_, sg, rfl, hp, by rw [ht]; exact hW⟩, hS.F ht⟩) hS.2.2 hdg hlocks)
theorem kx_rz {post : Option Value → kx_S → Prop} (F : kx_F p s m c cc nL own args Ts G z0) (hr : meth.sig.returnType = some .boolean) (hlocks : meth.locks = false) (hW : kx_Wd G z0 ad nb sg H) (hS : va_S (kx_Ad z0) s.heap H locs) (hc : cells ≤ mc) (hs : slots ≤ ms) {v : Int32} (hn : narrow .boolean (.int v) = .int v) (hp : post (some (.int v)) sg) (hdg : decode cc pc = .ok (.ireturn, 1)) : W p l e R s m args below meth c H locs cells slots (MQ below (kx_Q G z0 ad nb post) args s mc ms (kx_Ad z0)) (F0 m pc ls [.int v]) :=
  W.widen hc hs (W.zret F.1 F.2.1 hr hn (fun t ht _ => ⟨⟨_, sg, rfl, hp, by rw [ht]; exact hW⟩, hS.F ht⟩) hS.2.2 hdg hlocks)
theorem kx_rv {post : Option Value → kx_S → Prop} (F : kx_F p s m c cc nL own args Ts G z0) (hr : meth.sig.returnType = none) (hlocks : meth.locks = false) (hW : kx_Wd G z0 ad nb sg H) (hS : va_S (kx_Ad z0) s.heap H locs) (hc : cells ≤ mc) (hs : slots ≤ ms) (hp : post none sg) (hdg : decode cc pc = .ok (.return_, 1)) : W p l e R s m args below meth c H locs cells slots (MQ below (kx_Q G z0 ad nb post) args s mc ms (kx_Ad z0)) (F0 m pc ls []) :=
  W.widen hc hs (W.vret F.1 F.2.1 hr (fun t ht _ => ⟨⟨_, sg, rfl, hp, by rw [ht]; exact hW⟩, hS.F ht⟩) hS.2.2 hdg hlocks)
theorem kx_ra {post : Option Value → kx_S → Prop} {rt : String} (F : kx_F p s m c cc nL own args Ts G z0) (hr : meth.sig.returnType = some (.object rt)) (hlocks : meth.locks = false) (hW : kx_Wd G z0 ad nb sg H) (hS : va_S (kx_Ad z0) s.heap H locs) (hc : cells ≤ mc) (hs : slots ≤ ms) {v : Nat} (hp : post (some (.ref v)) sg) (hdg : decode cc pc = .ok (.areturn, 1)) : W p l e R s m args below meth c H locs cells slots (MQ below (kx_Q G z0 ad nb post) args s mc ms (kx_Ad z0)) (F0 m pc ls [.ref v]) :=
  W.widen hc hs (W.aret F.1 F.2.1 hr (Or.inl ⟨rt, rfl⟩) (Or.inr ⟨v, rfl⟩) (fun t ht _ => ⟨⟨_, sg, rfl, hp, by rw [ht]; exact hW⟩, hS.F ht⟩) hS.2.2 hdg hlocks)
/-- a callee's throw goes through -/
theorem kx_out {post : Option Value → kx_S → Prop} {px : String → Prop} {E : String} {ce : Cell} {q : Addr} (htab : ∀ x ∈ c.exceptionTable.toList, False) (hlocks : meth.locks = false) (hW : kx_Wd G z0 ad nb sg H) (hS : va_S (kx_Ad z0) s.heap H locs) (hc : cells ≤ mc) (hs : slots ≤ ms) (hp : px E) (hcell : H[q]? = some ce) (hv : ce.vm = .none) (hcl : s.vm.findClass E = some ce.cls) : vx_W p l e R s m args below meth c H locs cells slots (vx_MQ below (kx_Q G z0 ad nb post) (kx_X G z0 ad nb sg px) args s mc ms (kx_Ad z0)) (F0 m pc ls rest) q :=
  vx_out (fun x hx => (htab x hx).elim) hlocks hcell hv hcl (fun t ht _ => ⟨hp, by rw [ht]; exact hW, hS.F ht⟩) hS.2.2 hc hs
/-- 'throw new E(text)' in Whichbox -/
theorem kx_thr {post : Option Value → kx_S → Prop} {px : String → Prop} (F : kx_F p s m c cc nL RX3 args Ts G z0) (hl : l.stackTraces = false) (htab : ∀ x ∈ c.exceptionTable.toList, False) (hlocks : meth.locks = false) {cls text : String} {ik is ic : Nat} (hcls : Bundle.fit cls = true) (hk : Cond.classLink RX3 ik cls ∈ Ts) (hini : Cond.initialized cls ∈ Ts) (hat : ∀ w ∈ (vx_atS RX3 ic cls ["java/lang/RuntimeException", "java/lang/Exception"]).filter goodWord, w ∈ Ts) (hbad : ∀ w ∈ (vx_atS RX3 ic cls ["java/lang/RuntimeException", "java/lang/Exception"]).filter (fun w => !goodWord w), w ∈ kx_bd) (hgood : ∀ w ∈ Cond.classLink RX3 ik cls :: Cond.initialized cls :: vx_atS RX3 ic cls ["java/lang/RuntimeException", "java/lang/Exception"], vx_ot w = true) (htx : (is, text) ∈ kx_tx) (hW : kx_Wd G z0 ad nb sg H) (hS : va_S (kx_Ad z0) s.heap H locs) (hsize : ls.size = nL)
    (d0 : decode cc pc = .ok (.new ik, 3)) (d3 : decode cc (pc + 3) = .ok (.dup, 1)) (d4 : decode cc (pc + 4) = .ok (.ldc is, 2)) (d6 : decode cc (pc + 6) = .ok (.invokespecial ic, 3)) (d9 : decode cc (pc + 9) = .ok (.athrow, 1))
    (hRf : 6 ≤ R.frames) (hRl : (rest.map fun v => v.category).sum + 82 ≤ R.locals) (hRc : cells + 1 ≤ R.cells) (hRs : slots + 6 ≤ R.slots) (hc : cells + 1 ≤ mc) (hs : slots + 6 ≤ ms) (hp : px cls) : W p l e R s m args below meth c H locs cells slots (vx_MQ below (kx_Q G z0 ad nb post) (kx_X G z0 ad nb sg px) args s mc ms (kx_Ad z0)) (F0 m pc ls rest) := by
  obtain ⟨hx, hb, hml, hown, hts, hV⟩ := F
  obtain ⟨hK, -, hU, hN, -, hst, hbd, -⟩ := hV
  obtain ⟨sa, hstr⟩ := hst _ htx
  refine vx_throwS (A := kx_Ad z0) hx hb hl hown hcls (by decide +kernel) (hts _ hk) (hts _ hini) hstr (fun w hw => ?_) hgood hU hN hS (by rw [hsize, hml]) d0 d3 d4 d6 d9 (fun x hx => (htab x hx).elim) (by exact hRf) (by exact hRl) hRc hRs hlocks (fun t hA hz ho => ⟨hp, hW.keep ho, ?_⟩) hS.2.2 hc hs
  · cases h : goodWord w with
    | true => exact hts w (hat w (List.mem_filter.mpr ⟨hw, h⟩))
    | false =>
      have h2 := hbad w (List.mem_filter.mpr ⟨hw, by rw [h]; rfl⟩)
      exact va_Nw.use (kx_bd_tab w h2) (hbd w h2)
  · exact ⟨Nat.le_trans hS.1 hz, fun q h1 h2 => (ho q (Nat.lt_of_lt_of_le h1 hS.1)).trans (hS.2.1 q h1 h2)⟩
end KXR
