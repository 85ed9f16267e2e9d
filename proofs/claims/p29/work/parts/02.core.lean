/-! THE WORLD: every cell of two towns (kinds 0 to 13; 14 to 27), by kind and number; what it holds: sg kind number place; ad 40 0: how many boxes the second has -/
abbrev kx_S : Type := Nat → Nat → Nat → Int32
abbrev kx_A : Type := Nat → Nat → Nat
abbrev kx_G : Type := va_G × (Nat → ClassId)
def kx_cell (cy : Nat → ClassId) (ad : kx_A) (nb q n : Nat) (r : Nat → Int32) : va_E := match q with
  | 0 => .inr (3, [.ref (ad 1 0), .ref (ad 2 0), .ref (ad 3 0), .ref (ad 4 0), .ref (ad 6 0), .ref (ad 7 0), .int (r 6), .int (r 7), .int (r 8)])
  | 1 => .inl (cy 2, 16, .inr (.inr (.inr (.inr (fun i => if i < nb then some (ad 9 i) else none)))))
  | 2 => .inl (cy 3, 10, .inr (.inr (.inr (.inr (fun i => some (ad 8 i))))))
  | 3 => .inl (cy 0, 14, .inl r)
  | 4 => .inr (2, [.ref (ad 5 0), .int (r 1), .int (r 2)])
  | 5 => .inl (cy 0, 4, .inl r)
  | 6 => .inl (cy 0, 12, .inl r)
  | 7 => .inl (cy 0, 12, .inl r)
  | 8 => .inr (1, [.int (r 0), .int (r 1), .int (r 2), .int (r 3), .int (r 4)])
  | 9 => .inr (0, [.int (r 0), .int (r 1), .ref (ad 10 n), .ref (ad 11 n), .ref (ad 12 n), .ref (ad 13 n), .int (r 6), .int (r 7), .int (r 8), .int (r 9), .int (r 10)])
  | 10 => .inl (cy 0, 12, .inl r)
  | 11 => .inl (cy 0, 12, .inl r)
  | 12 => .inl (cy 0, 12, .inl r)
  | 13 => .inl (cy 0, 12, .inl r)
  | _ => .inl (cy 0, 12, .inl r)
def kx_live (nb q n : Nat) : Prop := match q with
  | 8 => n < 10
  | 9 => n < nb
  | 10 => n < nb
  | 11 => n < nb
  | 12 => n < nb
  | 13 => n < nb
  | q => q < 14 ∧ n = 0
def kx_W1 (G : kx_G) (z0 : Nat) (ad : kx_A) (nb : Nat) (sg : kx_S) (H : Heap) : Prop :=
  (∀ q n, kx_live nb q n → va_at G.1 vwCl (ad q n, kx_cell G.2 ad nb q n (sg q n)) H) ∧ (∀ q n q' n', kx_live nb q n → kx_live nb q' n' → ad q n = ad q' n' → q = q' ∧ n = n') ∧ (∀ q n, kx_live nb q n → z0 ≤ ad q n)
def kx_a2 (ad : kx_A) : kx_A := fun q n => ad (q + 14) n
def kx_s2 (sg : kx_S) : kx_S := fun q n => sg (q + 14) n
def kx_Ap (ad : kx_A) (nb nb2 : Nat) : Prop := ∀ q n q' n', kx_live nb q n → kx_live nb2 q' n' → ad q n ≠ kx_a2 ad q' n'
def kx_Wd (G : kx_G) (z0 : Nat) (ad : kx_A) (nb : Nat) (sg : kx_S) (H : Heap) : Prop :=
  kx_W1 G z0 ad nb sg H ∧ kx_W1 G z0 (kx_a2 ad) (ad 40 0) (kx_s2 sg) H ∧ kx_Ap ad nb (ad 40 0)
theorem kx_live14 {nb q n : Nat} (h : kx_live nb q n) : q < 14 := by
  unfold kx_live at h
  split at h <;> first | decide | exact h.1 | omega
def kx_up (sg : kx_S) (q n : Nat) (r : Nat → Int32) : kx_S := fun q' n' => if q' = q ∧ n' = n then r else sg q' n'
theorem kx_up_s {sg : kx_S} {q n : Nat} {r : Nat → Int32} : kx_up sg q n r q n = r := by simp [kx_up]
theorem kx_up_q {sg : kx_S} {q n q' n' : Nat} {r : Nat → Int32} (h : q' ≠ q) : kx_up sg q n r q' n' = sg q' n' := by simp [kx_up, h]
theorem kx_up_n {sg : kx_S} {q n q' n' : Nat} {r : Nat → Int32} (h : n' ≠ n) : kx_up sg q n r q' n' = sg q' n' := by simp [kx_up, h]
theorem kx_up_up {sg : kx_S} {q n : Nat} {r r2 : Nat → Int32} : kx_up (kx_up sg q n r) q n r2 = kx_up sg q n r2 := by
  funext q2 n2
  simp only [kx_up]
  split <;> rfl
theorem kx_up_id {sg : kx_S} {q n : Nat} : kx_up sg q n (sg q n) = sg := by
  funext q2 n2
  simp only [kx_up]
  split
  · rename_i h; rw [h.1, h.2]
  · rfl
theorem upd_s {f : Nat → Int32} {k : Nat} {x : Int32} : upd f k x k = x := by simp [upd]
theorem upd_n {f : Nat → Int32} {k j : Nat} {x : Int32} (h : j ≠ k) : upd f k x j = f j := by simp [upd, h]
theorem kx_W1.put {G : kx_G} {z0 : Nat} {ad : kx_A} {nb : Nat} {sg : kx_S} {H H1 : Heap} (h : kx_W1 G z0 ad nb sg H) {q n : Nat} (hq : kx_live nb q n) {r : Nat → Int32} (he : va_at G.1 vwCl (ad q n, kx_cell G.2 ad nb q n r) H1) (o : ∀ a : Nat, a ≠ ad q n → H1[a]? = H[a]?) : kx_W1 G z0 ad nb (kx_up sg q n r) H1 := by
  refine ⟨fun q' n' h' => ?_, h.2⟩
  by_cases e : q' = q ∧ n' = n
  · obtain ⟨rfl, rfl⟩ := e
    rw [kx_up_s]
    exact he
  · have e2 : kx_up sg q n r q' n' = sg q' n' := by simp only [kx_up, if_neg e]
    rw [e2]
    exact (h.1 q' n' h').kept (o _ (fun z => e (h.2.1 q' n' q n h' hq z)))
theorem kx_W1.keepL {G : kx_G} {z0 : Nat} {ad : kx_A} {nb : Nat} {sg : kx_S} {H H1 : Heap} (h : kx_W1 G z0 ad nb sg H) (o : ∀ q n, kx_live nb q n → H1[ad q n]? = H[ad q n]?) : kx_W1 G z0 ad nb sg H1 :=
  ⟨fun q n hq => (h.1 q n hq).kept (o q n hq), h.2⟩
theorem kx_W1.keep {G : kx_G} {z0 : Nat} {ad : kx_A} {nb : Nat} {sg : kx_S} {H H1 : Heap} (h : kx_W1 G z0 ad nb sg H) (o : ∀ a : Nat, a < H.size → H1[a]? = H[a]?) : kx_W1 G z0 ad nb sg H1 :=
  h.keepL fun q n hq => o _ (h.1 q n hq).lt
theorem kx_up_s2 {sg : kx_S} {q n : Nat} {r : Nat → Int32} (h : q < 14) : kx_s2 (kx_up sg q n r) = kx_s2 sg := by
  funext q2 n2
  show kx_up sg q n r (q2 + 14) n2 = sg (q2 + 14) n2
  exact kx_up_q (by omega)
theorem kx_Wd.one {G : kx_G} {z0 : Nat} {ad : kx_A} {nb : Nat} {sg : kx_S} {H : Heap} (h : kx_Wd G z0 ad nb sg H) {q n : Nat} (hq : kx_live nb q n) : va_P G.1 vwCl [(ad q n, kx_cell G.2 ad nb q n (sg q n))] H := by
  intro k x hk
  match k, hk with
  | 0, hk => cases hk; exact h.1.1 q n hq
  | k + 1, hk => simp at hk
theorem kx_Wd.put {G : kx_G} {z0 : Nat} {ad : kx_A} {nb : Nat} {sg : kx_S} {H H1 : Heap} (h : kx_Wd G z0 ad nb sg H) {q n : Nat} (hq : kx_live nb q n) {r : Nat → Int32} (he : va_at G.1 vwCl (ad q n, kx_cell G.2 ad nb q n r) H1) (o : ∀ a : Nat, a ≠ ad q n → H1[a]? = H[a]?) : kx_Wd G z0 ad nb (kx_up sg q n r) H1 := by
  refine ⟨h.1.put hq he o, ?_, h.2.2⟩
  rw [kx_up_s2 (kx_live14 hq)]
  exact h.2.1.keepL fun q' n' h' => o _ (fun z => h.2.2 q n q' n' hq h' z.symm)
theorem kx_Wd.keep {G : kx_G} {z0 : Nat} {ad : kx_A} {nb : Nat} {sg : kx_S} {H H1 : Heap} (h : kx_Wd G z0 ad nb sg H) (o : ∀ a : Nat, a < H.size → H1[a]? = H[a]?) : kx_Wd G z0 ad nb sg H1 :=
  ⟨h.1.keep o, h.2.1.keep o, h.2.2⟩
/-! the second town as the first -/
def kx_swA (ad : kx_A) (nb : Nat) : kx_A := fun q n => if q < 14 then ad (q + 14) n else if q < 28 then ad (q - 14) n else if q = 40 then nb else ad q n
def kx_swS (sg : kx_S) : kx_S := fun q n => if q < 14 then sg (q + 14) n else if q < 28 then sg (q - 14) n else sg q n
theorem kx_cell_eq {cy : Nat → ClassId} {ad ad' : kx_A} {nb q n : Nat} {r : Nat → Int32} (h : ∀ q n, q < 14 → ad' q n = ad q n) : kx_cell cy ad' nb q n r = kx_cell cy ad nb q n r := by
  unfold kx_cell
  split <;> simp [h]
theorem kx_W1.eq {G : kx_G} {z0 : Nat} {ad ad' : kx_A} {nb : Nat} {sg sg' : kx_S} {H : Heap} (w : kx_W1 G z0 ad nb sg H) (h : ∀ q n, q < 14 → ad' q n = ad q n) (h2 : ∀ q n, q < 14 → sg' q n = sg q n) : kx_W1 G z0 ad' nb sg' H := by
  refine ⟨fun q n hq => ?_, fun q n q' n' hq hq' e => ?_, fun q n hq => ?_⟩
  · rw [kx_cell_eq h, h q n (kx_live14 hq), h2 q n (kx_live14 hq)]
    exact w.1 q n hq
  · rw [h q n (kx_live14 hq), h q' n' (kx_live14 hq')] at e
    exact w.2.1 q n q' n' hq hq' e
  · rw [h q n (kx_live14 hq)]
    exact w.2.2 q n hq
theorem kx_Wd.sw {G : kx_G} {z0 : Nat} {ad : kx_A} {nb : Nat} {sg : kx_S} {H : Heap} (h : kx_Wd G z0 ad nb sg H) : kx_Wd G z0 (kx_swA ad nb) (ad 40 0) (kx_swS sg) H := by
  obtain ⟨h1, h2, h3⟩ := h
  have e40 : kx_swA ad nb 40 0 = nb := rfl
  refine ⟨h2.eq (fun q n hq => ?_) (fun q n hq => ?_), ?_, ?_⟩
  · show (if q < 14 then ad (q + 14) n else _) = ad (q + 14) n
    rw [if_pos hq]
  · show (if q < 14 then sg (q + 14) n else _) = sg (q + 14) n
    rw [if_pos hq]
  · rw [e40]
    refine h1.eq (fun q n hq => ?_) (fun q n hq => ?_)
    · show (if q + 14 < 14 then ad (q + 14 + 14) n else if q + 14 < 28 then ad (q + 14 - 14) n else _) = ad q n
      rw [if_neg (by omega), if_pos (by omega), Nat.add_sub_cancel]
    · show (if q + 14 < 14 then sg (q + 14 + 14) n else if q + 14 < 28 then sg (q + 14 - 14) n else _) = sg q n
      rw [if_neg (by omega), if_pos (by omega), Nat.add_sub_cancel]
  · rw [e40]
    intro q n q' n' hq hq' e
    refine h3 q' n' q n hq' hq ?_
    have a1 := kx_live14 hq
    have a2 := kx_live14 hq'
    have e1 : kx_swA ad nb q n = ad (q + 14) n := if_pos a1
    have e2 : kx_a2 (kx_swA ad nb) q' n' = ad q' n' := by
      show (if q' + 14 < 14 then ad (q' + 14 + 14) n' else if q' + 14 < 28 then ad (q' + 14 - 14) n' else _) = ad q' n'
      rw [if_neg (by omega), if_pos (by omega), Nat.add_sub_cancel]
    rw [e1, e2] at e
    exact e.symm
theorem kx_swA_1 {ad : kx_A} {nb q n : Nat} (h : q < 14) : kx_swA ad nb q n = ad (q + 14) n := if_pos h
theorem kx_swA_2 {ad : kx_A} {nb q n : Nat} (h : q < 14) : kx_swA ad nb (q + 14) n = ad q n := by
  show (if q + 14 < 14 then ad (q + 14 + 14) n else if q + 14 < 28 then ad (q + 14 - 14) n else if q + 14 = 40 then nb else ad (q + 14) n) = ad q n
  rw [if_neg (by omega), if_pos (by omega), Nat.add_sub_cancel]
theorem kx_swS_1 {sg : kx_S} {q n : Nat} (h : q < 14) : kx_swS sg q n = sg (q + 14) n := if_pos h
theorem kx_swS_2 {sg : kx_S} {q n : Nat} (h : q < 14) : kx_swS sg (q + 14) n = sg q n := by
  show (if q + 14 < 14 then sg (q + 14 + 14) n else if q + 14 < 28 then sg (q + 14 - 14) n else sg (q + 14) n) = sg q n
  rw [if_neg (by omega), if_pos (by omega), Nat.add_sub_cancel]
theorem kx_swS2 (sg : kx_S) : kx_swS (kx_swS sg) = sg := by
  funext q n
  by_cases h : q < 14
  · rw [kx_swS_1 h, kx_swS_2 h]
  · by_cases h2 : q < 28
    · obtain ⟨k, rfl⟩ : ∃ k, q = k + 14 := ⟨q - 14, by omega⟩
      rw [kx_swS_2 (by omega), kx_swS_1 (by omega)]
    · show (if q < 14 then _ else if q < 28 then _ else (if q < 14 then _ else if q < 28 then _ else sg q n)) = _
      rw [if_neg h, if_neg h2, if_neg h, if_neg h2]
/-- back again: what a call on the second town left -/
theorem kx_Wd.back {G : kx_G} {z0 : Nat} {ad : kx_A} {nb n2 : Nat} {sg : kx_S} {H : Heap} (h : kx_Wd G z0 (kx_swA ad nb) n2 sg H) (hn : ad 40 0 = n2) : kx_Wd G z0 ad nb (kx_swS sg) H := by
  have h9 := h.sw
  have e40 : kx_swA ad nb 40 0 = nb := rfl
  have e2 : kx_swA (kx_swA ad nb) n2 40 0 = n2 := rfl
  rw [e40] at h9
  refine ⟨h9.1.eq (fun q n hq => ?_) (fun q n hq => rfl), ?_, ?_⟩
  · rw [kx_swA_1 hq, kx_swA_2 hq]
  · have h8 := h9.2.1
    rw [e2] at h8
    rw [hn]
    refine h8.eq (fun q n hq => ?_) (fun q n hq => rfl)
    show ad (q + 14) n = kx_swA (kx_swA ad nb) n2 (q + 14) n
    rw [kx_swA_2 hq, kx_swA_1 hq]
  · have h8 := h9.2.2
    rw [e2] at h8
    rw [hn]
    intro q n q' n' hq hq' e
    refine h8 q n q' n' hq hq' ?_
    have a1 := kx_live14 hq
    have a2 := kx_live14 hq'
    have e3 : kx_swA (kx_swA ad nb) n2 q n = ad q n := by rw [kx_swA_1 a1, kx_swA_2 a1]
    have e4 : kx_a2 (kx_swA (kx_swA ad nb) n2) q' n' = ad (q' + 14) n' := by
      show kx_swA (kx_swA ad nb) n2 (q' + 14) n' = _
      rw [kx_swA_2 a2, kx_swA_1 a2]
    rw [e3, e4]
    exact e
/-! WHAT STAYS: classes, array classes, the table of minutes, what a throw reads, links of nest mates, texts -/
def kx_ty (cy : Nat → ClassId) : List (ClassId × FieldType) := [(cy 0, .int), (cy 0, .int), (cy 2, .object "Whichbox$Box"), (cy 3, .object "Whichbox$Door")]
def kx_min (k : Nat) : Int32 := match k with
  | 1 => 5 | 2 => 8 | 3 => 9 | 4 => 5 | 5 => 10 | 6 => 3 | 7 => 4 | 8 => 8 | 9 => 3 | 10 => 6 | 11 => 2 | 12 => 1000000 | 13 => 1000000 | 14 => 1000000 | _ => 0
def kx_ne : List (String × Nat × MethodName × String) := [("Whichbox", 27, ⟨"Whichbox$Ledger", "<init>", "()V"⟩, "Whichbox"), ("Whichbox", 48, ⟨"Whichbox$Door", "<init>", "()V"⟩, "Whichbox"), ("Whichbox$Box", 71, ⟨"Whichbox", "courierOfPlace", "(I)I"⟩, "Whichbox"), ("Whichbox$Box", 51, ⟨"Whichbox", "minutesBetween", "(II)I"⟩, "Whichbox")]
def kx_tx : List (Nat × String) := [(55, "size or value is out of range"), (62, "16 boxes were told"), (217, "there is no such courier or door"), (72, "trust is out of range"), (77, "minutes is out of range"), (80, "the time would be above 100000"), (211, "there is no such box"), (215, "there is no such courier"), (89, "what is out of range"), (219, "the box has 12 scans"), (213, "there is no such door"), (111, "the box is greater than the door"), (119, "there is no such place"), (122, "size is out of range"), (128, "the door is kept"), (134, "the door is kept, or jammed, or smaller than the box"), (145, "code is out of range"), (147, "the door is not kept, or is jammed"), (163, "the box is delivered, or insured, or was scanned a short time ago")]
def kx_dc : List MethodName := [⟨"java/lang/RuntimeException", "<init>", "(Ljava/lang/String;)V"⟩, ⟨"java/lang/Exception", "<init>", "(Ljava/lang/String;)V"⟩, ⟨"java/lang/Throwable", "<init>", "(Ljava/lang/String;)V"⟩]
def kx_iae : String := "java/lang/IllegalArgumentException"
def kx_ise : String := "java/lang/IllegalStateException"
def kx_ioe : String := "java/lang/IndexOutOfBoundsException"
def kx_cs : List String := ["java/lang/IllegalArgumentException", "java/lang/IllegalStateException", "java/lang/IndexOutOfBoundsException"]
def kx_bd : List Cond := kx_dc.map (fun x => .declares x) ++ kx_cs.map (fun x => .castable x x)
def kx_nc : List (String × String) := [("java/lang/IllegalStateException", "java/lang/IllegalArgumentException"), ("java/lang/IllegalArgumentException", "java/lang/IndexOutOfBoundsException"), ("java/lang/IllegalStateException", "java/lang/IndexOutOfBoundsException")]
def kx_Ad (z0 : Nat) : Nat → Prop := fun a => z0 ≤ a
def kx_V (G : kx_G) (z0 : Nat) (U : State) (H : Heap) : Prop :=
  va_K G.1 vwCl (kx_ty G.2) U ∧ (∃ t, va_Z "Whichbox" "MINUTES" "[I" (.ref t) (kx_Ad z0) U H ∧ va_T .int t 16 (fun j => .int (kx_min j)) (kx_Ad z0) U H) ∧
  vx_Zq Bundle.tN "UNASSIGNED_STACK" Bundle.steD (kx_Ad z0) U H ∧ vx_Zq Bundle.tN "SUPPRESSED_SENTINEL" Bundle.listD (kx_Ad z0) U H ∧
  (∀ x ∈ kx_ne, va_Nw (.methodLinkNest x.1 x.2.1 x.2.2.1 x.2.2.2) U) ∧ (∀ x ∈ kx_tx, ∃ sa, vk_R RX3 x.1 x.2 sa U) ∧ (∀ w ∈ kx_bd, va_Nw w U) ∧ (∀ x ∈ kx_nc, va_Nc x.1 x.2 U)
theorem kx_bd_warm {s U : State} (hW : s.WarmedH U.vm) (h : ∀ w ∈ kx_bd, va_Nw w s) : ∀ w ∈ kx_bd, va_Nw w U := by
  intro w hw
  have h9 := h w hw
  rcases List.mem_append.mp hw with h1 | h1
  · obtain ⟨x, -, rfl⟩ := List.mem_map.mp h1
    exact va_Nw.warmD hW h9
  · obtain ⟨x, -, rfl⟩ := List.mem_map.mp h1
    exact va_Nw.warmC hW h9
theorem kx_bd_tab : ∀ w ∈ kx_bd, w.onTables = true := by decide +kernel
theorem kx_V.go {G : kx_G} {z0 : Nat} {s U : State} {H0 H : Heap} {locs : List Loc} (h : kx_V G z0 s H0) (hW : s.WarmedH U.vm) (hS : va_S (kx_Ad z0) H0 H locs) : kx_V G z0 U H := by
  obtain ⟨hK, ⟨t, hZ, hT⟩, hU, hN, hne, htx, hbd, hnc⟩ := h
  have hm : s.vm.Alike U.vm := hW.alike
  exact ⟨va_K.moved hm hK, ⟨t, (va_Z.moved hm hZ).kept hS.2.1, (va_T.moved hm hT).kept hS.2.1⟩, (vx_Zq.moved hm hU).kept hS.2.1, (vx_Zq.moved hm hN).kept hS.2.1, fun x hx => va_Nw.warmM hW (hne x hx), fun x hx => by obtain ⟨sa, h9⟩ := htx x hx; exact ⟨sa, vk_R.warm hW h9⟩, kx_bd_warm hW hbd, fun x hx => va_Nc.moved hm (hnc x hx)⟩
theorem kx_V.call {G : kx_G} {z0 : Nat} {U : State} {H : Heap} (h : kx_V G z0 U H) (g : JFrame) (mk : MethodId) (a : Array Value) : kx_V G z0 (U.calling g mk a) H := by
  obtain ⟨hK, ⟨t, hZ, hT⟩, hU, hN, hne, htx, hbd, hnc⟩ := h
  have hm : U.vm.Alike (U.calling g mk a).vm := Vm.Alike.refl U.vm
  exact ⟨va_K.moved hm hK, ⟨t, va_Z.moved hm hZ, va_T.moved hm hT⟩, vx_Zq.moved hm hU, vx_Zq.moved hm hN, fun x hx => va_Nw.same rfl rfl (hne x hx), fun x hx => by obtain ⟨sa, h9⟩ := htx x hx; exact ⟨sa, vk_R.same rfl h9⟩, fun w hw => va_Nw.same (u := U) (U := U.calling g mk a) (kx_bd_tab w hw) rfl (hbd w hw), fun x hx => va_Nc.moved hm (hnc x hx)⟩
