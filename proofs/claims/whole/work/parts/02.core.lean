/-! THE WORLD: every cell of the town (kinds 0 to 13), of the reference (14 to 31) and of the law's own row (32), by kind and number; what it holds: sg kind number place -/
abbrev kx_S : Type := Nat → Nat → Nat → Int32
abbrev kx_A : Type := Nat → Nat → Nat
abbrev kx_G : Type := va_G × (Nat → ClassId)
def kx_cell (cy : Nat → ClassId) (ad : kx_A) (nb q n : Nat) (r : Nat → Int32) : va_E := match q with
  | 0 => .inr (3, [.ref (ad 1 0), .ref (ad 2 0), .ref (ad 3 0), .ref (ad 4 0), .ref (ad 6 0), .ref (ad 7 0), .int (r 6), .int (r 7), .int (r 8)])
  | 1 => .inl (cy 2, 16, .inr (.inr (.inr (.inr (fun i => if i < nb then some (ad 9 i) else none)))))
  | 2 => .inl (cy 3, 10, .inr (.inr (.inr (.inr (fun i => some (ad 8 i))))))
  | 3 => .inl (cy 0, 14, .inl r)
  | 4 => .inr (2, [.ref (ad 5 0), .int (r 1), .int (r 2)])
  | 5 => .inl (cy 0, 4, .inl r)
  | 6 => .inl (cy 0, 12, .inl r)
  | 7 => .inl (cy 0, 12, .inl r)
  | 8 => .inr (1, [.int (r 0), .int (r 1), .int (r 2), .int (r 3), .int (r 4)])
  | 9 => .inr (0, [.int (r 0), .int (r 1), .ref (ad 10 n), .ref (ad 11 n), .ref (ad 12 n), .ref (ad 13 n), .int (r 6), .int (r 7), .int (r 8), .int (r 9), .int (r 10)])
  | 10 => .inl (cy 0, 12, .inl r)
  | 11 => .inl (cy 0, 12, .inl r)
  | 12 => .inl (cy 0, 12, .inl r)
  | 13 => .inl (cy 0, 12, .inl r)
  | 14 => .inr (4, [.int (r 0), .ref (ad 15 0), .ref (ad 16 0), .ref (ad 17 0), .ref (ad 18 0), .ref (ad 19 0), .ref (ad 20 0), .int (r 7), .ref (ad 21 0), .ref (ad 22 0), .ref (ad 23 0), .ref (ad 24 0), .ref (ad 25 0), .ref (ad 26 0), .ref (ad 27 0), .ref (ad 28 0), .ref (ad 29 0), .int (r 17), .int (r 18), .int (r 19), .ref (ad 30 0), .ref (ad 31 0), .int (r 22)])
  | 15 => .inl (cy 0, 16, .inl r)
  | 16 => .inl (cy 0, 16, .inl r)
  | 17 => .inl (cy 0, 16, .inl r)
  | 18 => .inl (cy 1, 16, .inl r)
  | 19 => .inl (cy 1, 16, .inl r)
  | 20 => .inl (cy 0, 16, .inl r)
  | 21 => .inl (cy 0, 192, .inl r)
  | 22 => .inl (cy 0, 192, .inl r)
  | 23 => .inl (cy 0, 192, .inl r)
  | 24 => .inl (cy 0, 14, .inl r)
  | 25 => .inl (cy 0, 10, .inl r)
  | 26 => .inl (cy 0, 10, .inl r)
  | 27 => .inl (cy 0, 10, .inl r)
  | 28 => .inl (cy 0, 10, .inl r)
  | 29 => .inl (cy 1, 10, .inl r)
  | 30 => .inl (cy 0, 12, .inl r)
  | 31 => .inl (cy 0, 12, .inl r)
  | _ => .inl (cy 4, 1, .inr (.inl (fun j => (r j).toInt64)))
def kx_live (nb q n : Nat) : Prop := match q with
  | 8 => n < 10
  | 9 => n < nb
  | 10 => n < nb
  | 11 => n < nb
  | 12 => n < nb
  | 13 => n < nb
  | q => q < 33 ∧ n = 0
def kx_Wd (G : kx_G) (z0 : Nat) (ad : kx_A) (nb : Nat) (sg : kx_S) (H : Heap) : Prop :=
  (∀ q n, kx_live nb q n → va_at G.1 vwCl (ad q n, kx_cell G.2 ad nb q n (sg q n)) H) ∧ (∀ q n q' n', kx_live nb q n → kx_live nb q' n' → ad q n = ad q' n' → q = q' ∧ n = n') ∧ (∀ q n, kx_live nb q n → z0 ≤ ad q n)
def kx_up (sg : kx_S) (q n : Nat) (r : Nat → Int32) : kx_S := fun q' n' => if q' = q ∧ n' = n then r else sg q' n'
theorem kx_up_s {sg : kx_S} {q n : Nat} {r : Nat → Int32} : kx_up sg q n r q n = r := by simp [kx_up]
theorem kx_up_q {sg : kx_S} {q n q' n' : Nat} {r : Nat → Int32} (h : q' ≠ q) : kx_up sg q n r q' n' = sg q' n' := by simp [kx_up, h]
theorem kx_up_n {sg : kx_S} {q n q' n' : Nat} {r : Nat → Int32} (h : n' ≠ n) : kx_up sg q n r q' n' = sg q' n' := by simp [kx_up, h]
theorem kx_up_up {sg : kx_S} {q n : Nat} {r r2 : Nat → Int32} : kx_up (kx_up sg q n r) q n r2 = kx_up sg q n r2 := by
  funext q2 n2
  simp only [kx_up]
  split <;> rfl
theorem kx_up_id {sg : kx_S} {q n : Nat} : kx_up sg q n (sg q n) = sg := by
  funext q2 n2
  simp only [kx_up]
  split
  · rename_i h; rw [h.1, h.2]
  · rfl
theorem upd_s {f : Nat → Int32} {k : Nat} {x : Int32} : upd f k x k = x := by simp [upd]
theorem upd_n {f : Nat → Int32} {k j : Nat} {x : Int32} (h : j ≠ k) : upd f k x j = f j := by simp [upd, h]
theorem kx_Wd.one {G : kx_G} {z0 : Nat} {ad : kx_A} {nb : Nat} {sg : kx_S} {H : Heap} (h : kx_Wd G z0 ad nb sg H) {q n : Nat} (hq : kx_live nb q n) : va_P G.1 vwCl [(ad q n, kx_cell G.2 ad nb q n (sg q n))] H := by
  intro k x hk
  match k, hk with
  | 0, hk => cases hk; exact h.1 q n hq
  | k + 1, hk => simp at hk
theorem kx_Wd.put {G : kx_G} {z0 : Nat} {ad : kx_A} {nb : Nat} {sg : kx_S} {H H1 : Heap} (h : kx_Wd G z0 ad nb sg H) {q n : Nat} (hq : kx_live nb q n) {r : Nat → Int32} (he : va_at G.1 vwCl (ad q n, kx_cell G.2 ad nb q n r) H1) (o : ∀ a : Nat, a ≠ ad q n → H1[a]? = H[a]?) : kx_Wd G z0 ad nb (kx_up sg q n r) H1 := by
  refine ⟨fun q' n' h' => ?_, h.2⟩
  by_cases e : q' = q ∧ n' = n
  · obtain ⟨rfl, rfl⟩ := e
    rw [kx_up_s]
    exact he
  · have e2 : kx_up sg q n r q' n' = sg q' n' := by simp only [kx_up, if_neg e]
    rw [e2]
    exact (h.1 q' n' h').kept (o _ (fun z => e (h.2.1 q' n' q n h' hq z)))
theorem kx_Wd.keep {G : kx_G} {z0 : Nat} {ad : kx_A} {nb : Nat} {sg : kx_S} {H H1 : Heap} (h : kx_Wd G z0 ad nb sg H) (o : ∀ a : Nat, a < H.size → H1[a]? = H[a]?) : kx_Wd G z0 ad nb sg H1 := by
  refine ⟨fun q n hq => (h.1 q n hq).kept (o _ ?_), h.2⟩
  have h1 := h.1 q n hq
  exact (h1.lt)
/-! WHAT STAYS: classes, array classes, the table of minutes, what a throw reads, links of nest mates, texts -/
def kx_ty (cy : Nat → ClassId) : List (ClassId × FieldType) := [(cy 0, .int), (cy 1, .boolean), (cy 2, .object "Whichbox$Box"), (cy 3, .object "Whichbox$Door"), (cy 4, .long)]
def kx_min (k : Nat) : Int32 := match k with
  | 1 => 5 | 2 => 8 | 3 => 9 | 4 => 5 | 5 => 10 | 6 => 3 | 7 => 4 | 8 => 8 | 9 => 3 | 10 => 6 | 11 => 2 | 12 => 1000000 | 13 => 1000000 | 14 => 1000000 | _ => 0
def kx_ne : List (String × Nat × MethodName × String) := [("Whichbox", 27, ⟨"Whichbox$Ledger", "<init>", "()V"⟩, "Whichbox"), ("Whichbox", 48, ⟨"Whichbox$Door", "<init>", "()V"⟩, "Whichbox"), ("Whichbox$Box", 71, ⟨"Whichbox", "courierOfPlace", "(I)I"⟩, "Whichbox"), ("Whichbox$Box", 51, ⟨"Whichbox", "minutesBetween", "(II)I"⟩, "Whichbox")]
def kx_tx : List (Nat × String) := [(55, "size or value is out of range"), (62, "16 boxes were told"), (217, "there is no such courier or door"), (72, "trust is out of range"), (77, "minutes is out of range"), (80, "the time would be above 100000"), (211, "there is no such box"), (215, "there is no such courier"), (89, "what is out of range"), (219, "the box has 12 scans"), (213, "there is no such door"), (111, "the box is greater than the door"), (119, "there is no such place"), (122, "size is out of range"), (128, "the door is kept"), (134, "the door is kept, or jammed, or smaller than the box"), (145, "code is out of range"), (147, "the door is not kept, or is jammed"), (163, "the box is delivered, or insured, or was scanned a short time ago")]
def kx_dc : List MethodName := [⟨"java/lang/RuntimeException", "<init>", "(Ljava/lang/String;)V"⟩, ⟨"java/lang/Exception", "<init>", "(Ljava/lang/String;)V"⟩, ⟨"java/lang/Throwable", "<init>", "(Ljava/lang/String;)V"⟩]
def kx_iae : String := "java/lang/IllegalArgumentException"
def kx_ise : String := "java/lang/IllegalStateException"
def kx_ioe : String := "java/lang/IndexOutOfBoundsException"
def kx_cs : List String := ["java/lang/IllegalArgumentException", "java/lang/IllegalStateException", "java/lang/IndexOutOfBoundsException"]
def kx_bd : List Cond := kx_dc.map (fun x => .declares x) ++ kx_cs.map (fun x => .castable x x)
def kx_nc : List (String × String) := [("java/lang/IllegalStateException", "java/lang/IllegalArgumentException"), ("java/lang/IllegalArgumentException", "java/lang/IndexOutOfBoundsException"), ("java/lang/IllegalStateException", "java/lang/IndexOutOfBoundsException")]
def kx_Ad (z0 : Nat) : Nat → Prop := fun a => z0 ≤ a
def kx_V (G : kx_G) (z0 : Nat) (U : State) (H : Heap) : Prop :=
  va_K G.1 vwCl (kx_ty G.2) U ∧ (∃ t, va_Z "Whichbox" "MINUTES" "[I" (.ref t) (kx_Ad z0) U H ∧ va_T .int t 16 (fun j => .int (kx_min j)) (kx_Ad z0) U H) ∧
  vx_Zq Bundle.tN "UNASSIGNED_STACK" Bundle.steD (kx_Ad z0) U H ∧ vx_Zq Bundle.tN "SUPPRESSED_SENTINEL" Bundle.listD (kx_Ad z0) U H ∧
  (∀ x ∈ kx_ne, va_Nw (.methodLinkNest x.1 x.2.1 x.2.2.1 x.2.2.2) U) ∧ (∀ x ∈ kx_tx, ∃ sa, vk_R RX3 x.1 x.2 sa U) ∧ (∀ w ∈ kx_bd, va_Nw w U) ∧ (∀ x ∈ kx_nc, va_Nc x.1 x.2 U)
theorem kx_bd_warm {s U : State} (hW : s.WarmedH U.vm) (h : ∀ w ∈ kx_bd, va_Nw w s) : ∀ w ∈ kx_bd, va_Nw w U := by
  intro w hw
  have h9 := h w hw
  rcases List.mem_append.mp hw with h1 | h1
  · obtain ⟨x, -, rfl⟩ := List.mem_map.mp h1
    exact va_Nw.warmD hW h9
  · obtain ⟨x, -, rfl⟩ := List.mem_map.mp h1
    exact va_Nw.warmC hW h9
theorem kx_bd_tab : ∀ w ∈ kx_bd, w.onTables = true := by decide +kernel
theorem kx_V.go {G : kx_G} {z0 : Nat} {s U : State} {H0 H : Heap} {locs : List Loc} (h : kx_V G z0 s H0) (hW : s.WarmedH U.vm) (hS : va_S (kx_Ad z0) H0 H locs) : kx_V G z0 U H := by
  obtain ⟨hK, ⟨t, hZ, hT⟩, hU, hN, hne, htx, hbd, hnc⟩ := h
  have hm : s.vm.Alike U.vm := hW.alike
  exact ⟨va_K.moved hm hK, ⟨t, (va_Z.moved hm hZ).kept hS.2.1, (va_T.moved hm hT).kept hS.2.1⟩, (vx_Zq.moved hm hU).kept hS.2.1, (vx_Zq.moved hm hN).kept hS.2.1, fun x hx => va_Nw.warmM hW (hne x hx), fun x hx => by obtain ⟨sa, h9⟩ := htx x hx; exact ⟨sa, vk_R.warm hW h9⟩, kx_bd_warm hW hbd, fun x hx => va_Nc.moved hm (hnc x hx)⟩
theorem kx_V.call {G : kx_G} {z0 : Nat} {U : State} {H : Heap} (h : kx_V G z0 U H) (g : JFrame) (mk : MethodId) (a : Array Value) : kx_V G z0 (U.calling g mk a) H := by
  obtain ⟨hK, ⟨t, hZ, hT⟩, hU, hN, hne, htx, hbd, hnc⟩ := h
  have hm : U.vm.Alike (U.calling g mk a).vm := Vm.Alike.refl U.vm
  exact ⟨va_K.moved hm hK, ⟨t, va_Z.moved hm hZ, va_T.moved hm hT⟩, vx_Zq.moved hm hU, vx_Zq.moved hm hN, fun x hx => va_Nw.same rfl rfl (hne x hx), fun x hx => by obtain ⟨sa, h9⟩ := htx x hx; exact ⟨sa, vk_R.same rfl h9⟩, fun w hw => va_Nw.same (u := U) (U := U.calling g mk a) (kx_bd_tab w hw) rfl (hbd w hw), fun x hx => va_Nc.moved hm (hnc x hx)⟩
