/-! THE WORLD GROWS: one box more -/
def kx_ext (ad : kx_A) (nb : Nat) (w : Nat → Nat) : kx_A := fun k n => match k with
  | 9 => if n = nb then w 9 else ad 9 n
  | 10 => if n = nb then w 10 else ad 10 n
  | 11 => if n = nb then w 11 else ad 11 n
  | 12 => if n = nb then w 12 else ad 12 n
  | 13 => if n = nb then w 13 else ad 13 n
  | k => ad k n
def kx_nr (x y : Int32) : Nat → Int32 := fun j => match j with
  | 0 => x
  | 1 => y
  | 10 => -1
  | _ => 0
def kx_nw (sg : kx_S) (nb : Nat) (x y : Int32) : kx_S := fun k n => match k with
  | 9 => if n = nb then kx_nr x y else sg 9 n
  | 10 => if n = nb then (fun _ => 0) else sg 10 n
  | 11 => if n = nb then (fun _ => 0) else sg 11 n
  | 12 => if n = nb then (fun _ => 0) else sg 12 n
  | 13 => if n = nb then (fun _ => 0) else sg 13 n
  | k => sg k n
theorem kx_ext_old {ad : kx_A} {nb k n : Nat} {w : Nat → Nat} (h : ¬ (9 ≤ k ∧ k ≤ 13 ∧ n = nb)) : kx_ext ad nb w k n = ad k n := by
  unfold kx_ext
  split
  all_goals first | rfl | exact if_neg (fun e => h ⟨by decide, by decide, e⟩)
theorem kx_ext_new {ad : kx_A} {nb k : Nat} {w : Nat → Nat} (h1 : 9 ≤ k) (h2 : k ≤ 13) : kx_ext ad nb w k nb = w k := by
  rcases (show k = 9 ∨ k = 10 ∨ k = 11 ∨ k = 12 ∨ k = 13 by omega) with rfl | rfl | rfl | rfl | rfl <;> exact if_pos rfl
theorem kx_nw_old {sg : kx_S} {nb k n : Nat} {x y : Int32} (h : ¬ (9 ≤ k ∧ k ≤ 13 ∧ n = nb)) : kx_nw sg nb x y k n = sg k n := by
  unfold kx_nw
  split
  all_goals first | rfl | exact if_neg (fun e => h ⟨by decide, by decide, e⟩)
theorem kx_live_s {nb k n : Nat} (h : kx_live (nb + 1) k n) (hn : ¬ (9 ≤ k ∧ k ≤ 13 ∧ n = nb)) : kx_live nb k n := by
  unfold kx_live at h ⊢
  split at h <;> first | exact h | omega
theorem kx_live_up {nb k n : Nat} (h : kx_live nb k n) : kx_live (nb + 1) k n := by
  unfold kx_live at h ⊢
  split at h <;> first | exact h | omega
theorem kx_live_n {nb k n : Nat} (h : kx_live nb k n) : ¬ (9 ≤ k ∧ k ≤ 13 ∧ n = nb) := by
  rintro ⟨e1, e2, e3⟩
  rcases (show k = 9 ∨ k = 10 ∨ k = 11 ∨ k = 12 ∨ k = 13 by omega) with rfl | rfl | rfl | rfl | rfl <;> exact absurd (show n < nb from h) (by omega)
theorem kx_Wd.z0le {G : kx_G} {z0 : Nat} {ad : kx_A} {nb : Nat} {sg : kx_S} {H : Heap} (h : kx_Wd G z0 ad nb sg H) : z0 ≤ H.size :=
  Nat.le_of_lt (Nat.lt_of_le_of_lt (h.1.2.2 0 0 ⟨by decide, rfl⟩) (h.1.1 0 0 ⟨by decide, rfl⟩).lt)
theorem kx_W1.grow {G : kx_G} {z0 z1 : Nat} {ad : kx_A} {nb : Nat} {sg : kx_S} {H H1 : Heap} (h : kx_W1 G z0 ad nb sg H) {w : Nat → Nat} {x y : Int32} (hw : va_P G.1 vwCl [(w 9, .inr (0, [.int x, .int y, .ref (w 10), .ref (w 11), .ref (w 12), .ref (w 13), .int 0, .int 0, .int 0, .int 0, .int (-1)])), (w 10, .inl (G.2 0, 12, .inl (fun _ => 0))), (w 11, .inl (G.2 0, 12, .inl (fun _ => 0))), (w 12, .inl (G.2 0, 12, .inl (fun _ => 0))), (w 13, .inl (G.2 0, 12, .inl (fun _ => 0)))] H1) (h1 : va_at G.1 vwCl (ad 1 0, .inl (G.2 2, 16, .inr (.inr (.inr (.inr (fun i => if i < nb + 1 then some (if i = nb then w 9 else ad 9 i) else none)))))) H1) (hlt : ∀ k n, kx_live nb k n → ad k n < z1) (hge : ∀ k, 9 ≤ k → k ≤ 13 → z1 ≤ w k) (hinj : ∀ j k, 9 ≤ j → j ≤ 13 → 9 ≤ k → k ≤ 13 → w j = w k → j = k) (hz : z0 ≤ z1) (o : ∀ a : Nat, a < z1 → a ≠ ad 1 0 → H1[a]? = H[a]?) : kx_W1 G z0 (kx_ext ad nb w) (nb + 1) (kx_nw sg nb x y) H1 := by
  have old : ∀ k n, kx_live nb k n → ¬ k = 1 → va_at G.1 vwCl (ad k n, kx_cell G.2 ad nb k n (sg k n)) H1 := fun k n hl hne => (h.1 k n hl).kept (o _ (hlt k n hl) (fun z => hne (h.2.1 k n 1 0 hl ⟨by decide, rfl⟩ z).1))
  refine ⟨fun k n hq => ?_, fun k n k' n' hq hq' he => ?_, fun k n hq => ?_⟩
  · exact match k, n, hq with
    | 0, n, hq => old 0 n hq (by decide)
    | 1, n, hq => by obtain ⟨-, rfl⟩ := (hq : 1 < 14 ∧ n = 0); exact h1
    | 2, n, hq => old 2 n hq (by decide)
    | 3, n, hq => old 3 n hq (by decide)
    | 4, n, hq => old 4 n hq (by decide)
    | 5, n, hq => old 5 n hq (by decide)
    | 6, n, hq => old 6 n hq (by decide)
    | 7, n, hq => old 7 n hq (by decide)
    | 8, n, hq => old 8 n hq (by decide)
    | 9, n, hq => by
        by_cases e : n = nb
        · subst e
          show va_at G.1 vwCl ((if n = n then w 9 else ad 9 n), kx_cell G.2 (kx_ext ad n w) (n + 1) 9 n (if n = n then kx_nr x y else sg 9 n)) H1
          rw [if_pos rfl, if_pos rfl]
          have h9 := hw 0 _ rfl
          show va_at G.1 vwCl (w 9, .inr (0, [.int x, .int y, .ref (if n = n then w 10 else ad 10 n), .ref (if n = n then w 11 else ad 11 n), .ref (if n = n then w 12 else ad 12 n), .ref (if n = n then w 13 else ad 13 n), .int 0, .int 0, .int 0, .int 0, .int (-1)])) H1
          rw [if_pos rfl, if_pos rfl, if_pos rfl, if_pos rfl]
          exact h9
        · have h9 := old 9 n (by have : n < nb + 1 := hq; show n < nb; omega) (by decide)
          show va_at G.1 vwCl ((if n = nb then w 9 else ad 9 n), .inr (0, [.int ((if n = nb then kx_nr x y else sg 9 n) 0), .int ((if n = nb then kx_nr x y else sg 9 n) 1), .ref (if n = nb then w 10 else ad 10 n), .ref (if n = nb then w 11 else ad 11 n), .ref (if n = nb then w 12 else ad 12 n), .ref (if n = nb then w 13 else ad 13 n), .int ((if n = nb then kx_nr x y else sg 9 n) 6), .int ((if n = nb then kx_nr x y else sg 9 n) 7), .int ((if n = nb then kx_nr x y else sg 9 n) 8), .int ((if n = nb then kx_nr x y else sg 9 n) 9), .int ((if n = nb then kx_nr x y else sg 9 n) 10)])) H1
          simp only [if_neg e]
          exact h9
    | 10, n, hq => by
        by_cases e : n = nb
        · subst e
          show va_at G.1 vwCl ((if n = n then w 10 else ad 10 n), .inl (G.2 0, 12, .inl (if n = n then (fun _ => 0) else sg 10 n))) H1
          rw [if_pos rfl, if_pos rfl]
          exact hw 1 _ rfl
        · have h9 := old 10 n (by have : n < nb + 1 := hq; show n < nb; omega) (by decide)
          show va_at G.1 vwCl ((if n = nb then w 10 else ad 10 n), .inl (G.2 0, 12, .inl (if n = nb then (fun _ => 0) else sg 10 n))) H1
          simp only [if_neg e]
          exact h9
    | 11, n, hq => by
        by_cases e : n = nb
        · subst e
          show va_at G.1 vwCl ((if n = n then w 11 else ad 11 n), .inl (G.2 0, 12, .inl (if n = n then (fun _ => 0) else sg 11 n))) H1
          rw [if_pos rfl, if_pos rfl]
          exact hw 2 _ rfl
        · have h9 := old 11 n (by have : n < nb + 1 := hq; show n < nb; omega) (by decide)
          show va_at G.1 vwCl ((if n = nb then w 11 else ad 11 n), .inl (G.2 0, 12, .inl (if n = nb then (fun _ => 0) else sg 11 n))) H1
          simp only [if_neg e]
          exact h9
    | 12, n, hq => by
        by_cases e : n = nb
        · subst e
          show va_at G.1 vwCl ((if n = n then w 12 else ad 12 n), .inl (G.2 0, 12, .inl (if n = n then (fun _ => 0) else sg 12 n))) H1
          rw [if_pos rfl, if_pos rfl]
          exact hw 3 _ rfl
        · have h9 := old 12 n (by have : n < nb + 1 := hq; show n < nb; omega) (by decide)
          show va_at G.1 vwCl ((if n = nb then w 12 else ad 12 n), .inl (G.2 0, 12, .inl (if n = nb then (fun _ => 0) else sg 12 n))) H1
          simp only [if_neg e]
          exact h9
    | 13, n, hq => by
        by_cases e : n = nb
        · subst e
          show va_at G.1 vwCl ((if n = n then w 13 else ad 13 n), .inl (G.2 0, 12, .inl (if n = n then (fun _ => 0) else sg 13 n))) H1
          rw [if_pos rfl, if_pos rfl]
          exact hw 4 _ rfl
        · have h9 := old 13 n (by have : n < nb + 1 := hq; show n < nb; omega) (by decide)
          show va_at G.1 vwCl ((if n = nb then w 13 else ad 13 n), .inl (G.2 0, 12, .inl (if n = nb then (fun _ => 0) else sg 13 n))) H1
          simp only [if_neg e]
          exact h9
    | k + 14, n, hq => absurd (kx_live14 hq) (by omega)
  · by_cases e : 9 ≤ k ∧ k ≤ 13 ∧ n = nb
    · obtain ⟨e1, e2, rfl⟩ := e
      rw [kx_ext_new e1 e2] at he
      by_cases e' : 9 ≤ k' ∧ k' ≤ 13 ∧ n' = n
      · obtain ⟨e3, e4, rfl⟩ := e'
        rw [kx_ext_new e3 e4] at he
        exact ⟨hinj k k' e1 e2 e3 e4 he, rfl⟩
      · rw [kx_ext_old e'] at he
        have a1 := hlt k' n' (kx_live_s hq' e')
        have a2 := hge k e1 e2
        omega
    · rw [kx_ext_old e] at he
      by_cases e' : 9 ≤ k' ∧ k' ≤ 13 ∧ n' = nb
      · obtain ⟨e3, e4, rfl⟩ := e'
        rw [kx_ext_new e3 e4] at he
        have a1 := hlt k n (kx_live_s hq e)
        have a2 := hge k' e3 e4
        omega
      · rw [kx_ext_old e'] at he
        exact h.2.1 k n k' n' (kx_live_s hq e) (kx_live_s hq' e') he
  · by_cases e : 9 ≤ k ∧ k ≤ 13 ∧ n = nb
    · obtain ⟨e1, e2, rfl⟩ := e
      rw [kx_ext_new e1 e2]
      exact Nat.le_trans hz (hge k e1 e2)
    · rw [kx_ext_old e]
      exact h.2.2 k n (kx_live_s hq e)

theorem kx_ext_2 {ad : kx_A} {nb : Nat} {w : Nat → Nat} : kx_a2 (kx_ext ad nb w) = kx_a2 ad := by
  funext q n
  show kx_ext ad nb w (q + 14) n = ad (q + 14) n
  exact kx_ext_old (by omega)
theorem kx_nw_2 {sg : kx_S} {nb : Nat} {x y : Int32} : kx_s2 (kx_nw sg nb x y) = kx_s2 sg := by
  funext q n
  show kx_nw sg nb x y (q + 14) n = sg (q + 14) n
  exact kx_nw_old (by omega)
theorem kx_Wd.grow {G : kx_G} {z0 z1 : Nat} {ad : kx_A} {nb : Nat} {sg : kx_S} {H H1 : Heap} (h : kx_Wd G z0 ad nb sg H) {w : Nat → Nat} {x y : Int32} (hw : va_P G.1 vwCl [(w 9, .inr (0, [.int x, .int y, .ref (w 10), .ref (w 11), .ref (w 12), .ref (w 13), .int 0, .int 0, .int 0, .int 0, .int (-1)])), (w 10, .inl (G.2 0, 12, .inl (fun _ => 0))), (w 11, .inl (G.2 0, 12, .inl (fun _ => 0))), (w 12, .inl (G.2 0, 12, .inl (fun _ => 0))), (w 13, .inl (G.2 0, 12, .inl (fun _ => 0)))] H1) (h1 : va_at G.1 vwCl (ad 1 0, .inl (G.2 2, 16, .inr (.inr (.inr (.inr (fun i => if i < nb + 1 then some (if i = nb then w 9 else ad 9 i) else none)))))) H1) (hlt : ∀ k n, kx_live nb k n → ad k n < z1) (hlt2 : ∀ k n, kx_live (ad 40 0) k n → kx_a2 ad k n < z1) (hge : ∀ k, 9 ≤ k → k ≤ 13 → z1 ≤ w k) (hinj : ∀ j k, 9 ≤ j → j ≤ 13 → 9 ≤ k → k ≤ 13 → w j = w k → j = k) (hz : z0 ≤ z1) (o : ∀ a : Nat, a < z1 → a ≠ ad 1 0 → H1[a]? = H[a]?) : kx_Wd G z0 (kx_ext ad nb w) (nb + 1) (kx_nw sg nb x y) H1 := by
  have e40 : kx_ext ad nb w 40 0 = ad 40 0 := rfl
  refine ⟨h.1.grow hw h1 hlt hge hinj hz o, ?_, ?_⟩
  · rw [e40, kx_ext_2, kx_nw_2]
    exact h.2.1.keepL fun q n hq => o _ (hlt2 q n hq) (fun z => h.2.2 1 0 q n ⟨by decide, rfl⟩ hq z.symm)
  · rw [e40]
    intro q n q' n' hq hq' he
    rw [kx_ext_2] at he
    by_cases e : 9 ≤ q ∧ q ≤ 13 ∧ n = nb
    · obtain ⟨e1, e2, rfl⟩ := e
      rw [kx_ext_new e1 e2] at he
      have a1 := hlt2 q' n' hq'
      have a2 := hge q e1 e2
      omega
    · rw [kx_ext_old e] at he
      exact h.2.2 q n q' n' (kx_live_s hq e) hq' he

def kx_Qg (G : kx_G) (z0 : Nat) (post : Option Value → kx_A → Nat → kx_S → Prop) : Array Value → State → Outcome → State → Prop := fun _ st oc t => (∃ (r : Option Value) (ad' : kx_A) (nb' : Nat) (sg' : kx_S), oc = .returned r ∧ post r ad' nb' sg' ∧ kx_Wd G z0 ad' nb' sg' t.heap) ∧ va_F (kx_Ad z0) st t
abbrev kx_MXg (l : Launch) (y : MethodName) (ws : List Cond) (fr lo mc ms : Nat) (G : kx_G) (z0 : Nat) (ad : kx_A) (nb : Nat) (sg : kx_S) (av : List Value) (post : Option Value → kx_A → Nat → kx_S → Prop) (px : String → Prop) : Prop :=
  vx_Met l y ws { frames := fr, cells := mc, slots := ms, locals := lo } (kx_P G z0 ad nb sg av) (kx_Qg G z0 post) (kx_X G z0 ad nb sg px) mc ms (kx_Ad z0)
theorem kx_P1 {D : va_G} {cl : List vw_C} {q : Nat × va_E} {H : Heap} (h : va_at D cl q H) : va_P D cl [q] H := by
  intro k x hk
  match k, hk with
  | 0, hk => cases hk; exact h
  | k + 1, hk => simp at hk
theorem kx_D1 {q : Nat × va_E} : va_D (fun _ => True) [q] := by
  refine ⟨fun i j a b hi hj _ => ?_, fun _ _ _ => trivial⟩
  have h1 := (List.getElem?_eq_some_iff.mp hi).1
  have h2 := (List.getElem?_eq_some_iff.mp hj).1
  simp at h1 h2
  omega
theorem kx_A1 {a z q : Nat} {e : va_E} (h : va_A [(a, e)] z q) : q = a ∨ z ≤ q := by
  rcases h with ⟨k, e2, h⟩ | h
  · match k, h with
    | 0, h => cases h; exact Or.inl rfl
    | k + 1, h => simp at h
  · exact Or.inr h
section KXB
variable {p : Program} {l : Launch} {e : Env} {R : Room} {s : State} {m : MethodId} {args : Array Value} {below : List Frame} {meth : Method} {c : Code} {H : Heap} {locs : List Loc} {cells slots : Nat} {Q : State → Prop}
variable {cc : ByteArray} {nL pc : Nat} {own : String} {ls : Array Slot} {rest st0 : List Value} {Ts : List Cond} {G : kx_G} {z0 : Nat} {ad : kx_A} {nb : Nat} {sg : kx_S} {H0 : Heap} {mc ms : Nat}
/-- a throw, whatever the end otherwise is -/
theorem kx_thrg {Qc : Array Value → State → Outcome → State → Prop} {px : String → Prop} (F : kx_F p s m c cc nL RX3 args Ts G z0) (hl : l.stackTraces = false) (htab : ∀ x ∈ c.exceptionTable.toList, False) (hlocks : meth.locks = false) {cls text : String} {ik is ic : Nat} (hcls : Bundle.fit cls = true) (hk : Cond.classLink RX3 ik cls ∈ Ts) (hini : Cond.initialized cls ∈ Ts) (hat : ∀ w ∈ (vx_atS RX3 ic cls ["java/lang/RuntimeException", "java/lang/Exception"]).filter goodWord, w ∈ Ts) (hbad : ∀ w ∈ (vx_atS RX3 ic cls ["java/lang/RuntimeException", "java/lang/Exception"]).filter (fun w => !goodWord w), w ∈ kx_bd) (hgood : ∀ w ∈ Cond.classLink RX3 ik cls :: Cond.initialized cls :: vx_atS RX3 ic cls ["java/lang/RuntimeException", "java/lang/Exception"], vx_ot w = true) (htx : (is, text) ∈ kx_tx) (hW : kx_Wd G z0 ad nb sg H) (hS : va_S (kx_Ad z0) s.heap H locs) (hsize : ls.size = nL)
    (d0 : decode cc pc = .ok (.new ik, 3)) (d3 : decode cc (pc + 3) = .ok (.dup, 1)) (d4 : decode cc (pc + 4) = .ok (.ldc is, 2)) (d6 : decode cc (pc + 6) = .ok (.invokespecial ic, 3)) (d9 : decode cc (pc + 9) = .ok (.athrow, 1))
    (hRf : 6 ≤ R.frames) (hRl : (rest.map fun v => v.category).sum + 82 ≤ R.locals) (hRc : cells + 1 ≤ R.cells) (hRs : slots + 6 ≤ R.slots) (hc : cells + 1 ≤ mc) (hs : slots + 6 ≤ ms) (hp : px cls) : W p l e R s m args below meth c H locs cells slots (vx_MQ below Qc (kx_X G z0 ad nb sg px) args s mc ms (kx_Ad z0)) (F0 m pc ls rest) := by
  obtain ⟨hx, hb, hml, hown, hts, hV⟩ := F
  obtain ⟨hK, -, hU, hN, -, hst, hbd, -⟩ := hV
  obtain ⟨sa, hstr⟩ := hst _ htx
  refine vx_throwS (A := kx_Ad z0) hx hb hl hown hcls (by decide +kernel) (hts _ hk) (hts _ hini) hstr (fun w hw => ?_) hgood hU hN hS (by rw [hsize, hml]) d0 d3 d4 d6 d9 (fun x hx => (htab x hx).elim) (by exact hRf) (by exact hRl) hRc hRs hlocks (fun t hA hz ho => ⟨hp, hW.keep ho, ?_⟩) hS.2.2 hc hs
  · cases h : goodWord w with
    | true => exact hts w (hat w (List.mem_filter.mpr ⟨hw, h⟩))
    | false =>
      have h2 := hbad w (List.mem_filter.mpr ⟨hw, by rw [h]; rfl⟩)
      exact va_Nw.use (kx_bd_tab w h2) (hbd w h2)
  · exact ⟨Nat.le_trans hS.1 hz, fun q h1 h2 => (ho q (Nat.lt_of_lt_of_le h1 hS.1)).trans (hS.2.1 q h1 h2)⟩
/-- the new box into its row -/
theorem kx_astB (F : kx_F p s m c cc nL own args Ts G z0) {H2 : Heap} {z1 : Nat} (hW : kx_Wd G z0 ad nb sg H2) (hnb : nb < 16) {w : Nat → Nat} {x y : Int32} (hw : va_P G.1 vwCl [(w 9, .inr (0, [.int x, .int y, .ref (w 10), .ref (w 11), .ref (w 12), .ref (w 13), .int 0, .int 0, .int 0, .int 0, .int (-1)])), (w 10, .inl (G.2 0, 12, .inl (fun _ => 0))), (w 11, .inl (G.2 0, 12, .inl (fun _ => 0))), (w 12, .inl (G.2 0, 12, .inl (fun _ => 0))), (w 13, .inl (G.2 0, 12, .inl (fun _ => 0)))] H2) (hlt : ∀ k n, kx_live nb k n → ad k n < z1) (hlt2 : ∀ k n, kx_live (ad 40 0) k n → kx_a2 ad k n < z1) (hge : ∀ k, 9 ≤ k → k ≤ 13 → z1 ≤ w k) (hinj : ∀ j k, 9 ≤ j → j ≤ 13 → 9 ≤ k → k ≤ 13 → w j = w k → j = k) (hz : z0 ≤ z1) (hS : va_S (kx_Ad z0) H0 H2 locs) (hdg : decode cc pc = .ok (.aastore, 1))
    (kk : ∀ (H3 : Heap) (locs3 : List Loc), kx_Wd G z0 (kx_ext ad nb w) (nb + 1) (kx_nw sg nb x y) H3 → va_S (kx_Ad z0) H0 H3 locs3 → W p l e R s m args below meth c H3 locs3 cells slots Q (F0 m (pc + 1) ls rest)) : W p l e R s m args below meth c H2 locs cells slots Q (F0 m pc ls (.ref (w 9) :: .int (nI nb) :: .ref (ad 1 0) :: rest)) := by
  obtain ⟨hx, hb, hml, hown, hts, hV⟩ := F
  have hK := hV.1
  have hl1 : kx_live nb 1 0 := ⟨by decide, rfl⟩
  have ha : va_at G.1 vwCl (ad 1 0, .inl (G.2 2, 16, .inr (.inr (.inr (.inr (fun i => if i < nb then some (ad 9 i) else none)))))) H2 := hW.1.1 1 0 hl1
  obtain ⟨r', hr', cellV, g1, g2, g3, -⟩ := hw 0 _ rfl
  have hcls : ClassAt s RX0 (G.1.1 0) := (hK.1 0 (RX0, TX0, 11) rfl).2
  obtain ⟨kA, comp, k1, k2, k3, -⟩ := (hK.2 2 (G.2 2, .object "Whichbox$Box") rfl).2
  have hcomp : comp = G.1.1 0 := Option.some.inj (k3.symm.trans hcls.1)
  subst hcomp
  obtain ⟨kC, hkC, -⟩ := id hcls.2
  have g2' : cellV.cls = G.1.1 0 := g2
  refine W.aast hx hb ha (fun q h => by cases h) (fun h => by cases h) k1 k2 rfl hkC ⟨nI_pos (by omega), by show _ < (arrV _ _ _).slots.size; rw [arrV_size, nI_clamp (by omega)]; exact hnb⟩ g1 (fun q h => by rw [g3] at h; cases h) (by rw [g2']; exact hkC) (by rw [g2']; exact va_assign hcls) rfl rfl hdg fun H3 e3 z3 o3 => ?_
  have hne : ∀ k, 9 ≤ k → k ≤ 13 → w k ≠ ad 1 0 := fun k q1 q2 z => by
    have a1 := hlt 1 0 hl1
    have a2 := hge k q1 q2
    omega
  refine kk H3 _ (hW.grow (z1 := z1) (w := w) (hw.kept (fun k q hk => ?_)) ?_ hlt hlt2 hge hinj hz (fun a _ h => o3 a h)) (hS.put z3 o3 (hW.1.2.2 1 0 hl1))
  · refine o3 _ ?_
    match k, hk with
    | 0, hk => cases hk; exact hne 9 (by decide) (by decide)
    | 1, hk => cases hk; exact hne 10 (by decide) (by decide)
    | 2, hk => cases hk; exact hne 11 (by decide) (by decide)
    | 3, hk => cases hk; exact hne 12 (by decide) (by decide)
    | 4, hk => cases hk; exact hne 13 (by decide) (by decide)
    | k + 5, hk => simp at hk
  · show H3[ad 1 0]? = some (vp_cell _ _)
    rw [e3]
    show some ((vp_cell (G.2 2) (16, .inr (.inr (.inr (.inr (fun i => if i < nb then some (ad 9 i) else none)))))).setSlot _ _) = _
    rw [vp_cell_q, vp_cell_q, arrV_store, nI_clamp (by omega)]
    congr 2
    funext q
    by_cases hq : q = nb
    · subst hq
      simp [updV, va_rf]
    · by_cases hq2 : q < nb
      · have hq3 : q < nb + 1 := by omega
        simp [updV, hq, hq2, hq3]
      · have hq3 : ¬ q < nb + 1 := by omega
        simp [updV, hq, hq2, hq3]
end KXB

set_option maxHeartbeats 4000000 in
set_option maxRecDepth 100000 in
theorem c_X3_box (l : Launch) (hlf : l.stackTraces = false) (G : kx_G) (z0 : Nat) (ad : kx_A) (nb : Nat) (sg : kx_S) (hC : tw_CI nb sg) (x y : Int32) : kx_MXg l yX3_box wsX3_box 6 90 5 59 G z0 ad nb sg [.ref (ad 0 0), .int x, .int y] (fun r ad' nb' sg' => ∃ a : Int32, r = some (.int a) ∧ nb' = nb + 1 ∧ (∀ k n, ¬ (9 ≤ k ∧ k ≤ 13 ∧ n = nb) → ad' k n = ad k n) ∧ cn_box nb sg x y a sg') (cx_box nb x y) := by
  refine vx_ofW (cc := cX3_box) (maxL := 3) (ret := (some .int)) (by decide) rfl ?_
  intro p e s m args below meth c s₁ B hml htab hv
  obtain ⟨rfl, hW, hV⟩ := hv
  have hts := atoms_spec (ws := wsX3_box) B.pre
  have F : kx_F p s m c cX3_box 3 RX3 _ wsX3_box G z0 := ⟨B.exec, B.bytes, hml, findClass_of_methodNamed B.named, hts, hV⟩
  have hx := B.exec; have hb := B.bytes; have hr := B.returns; have hlocks := B.notSynchronized
  have hS : va_S (kx_Ad z0) s.heap s.heap [] := va_S.rf
  have h16le := hC.1
  have h6 : sg 0 0 6 = nI nb := hC.2.2.2.2.2
  have L_11 : Cond.fieldLink RX3 11 (TX3 0).1 (TX3 0).2.1 (TX3 0).2.2.1 ∈ wsX3_box := by decide +kernel
  have L_38 : Cond.fieldLink RX3 38 (TX3 6).1 (TX3 6).2.1 (TX3 6).2.2.1 ∈ wsX3_box := by decide +kernel
  have inX3 : ∀ w ∈ u_ws RX3 TX3 9, w ∈ wsX3_box := by decide +kernel
  have hl := lv_entry ([.ref (ad 0 0), .int x, .int y]) (n := 3) (Nat.le_of_ble_eq_true rfl)
  rw [lg_entry_eq]
  generalize (lg_sl ([.ref (ad 0 0), .int x, .int y]) ++ List.replicate (3 - (lg_sl ([.ref (ad 0 0), .int x, .int y])).length) Slot.unset).toArray = ls at hl ⊢
  have hl : lv_has ls 3 [(0, .ref (ad 0 0)), (1, .int x), (2, .int y)] := hl
  refine lv_iload_n hx hb dX3_box_0 rfl (lv_at hl 1 rfl) ?_
  refine lv_iconst (v := 1) hx hb dX3_box_1 (by decide) ?_
  refine lv_iconst (v := 3) hx hb dX3_box_2 (by decide) ?_
  refine kx_cS (na := 3) F (c_X3_isWithin l G z0 ad nb sg x 1 3) gX3_box_X3_isWithin rfl (by decide +kernel) ⟨Nat.le_of_ble_eq_true rfl, Nat.le_of_ble_eq_true rfl⟩ hW hS (As := [.int x, .int 1, .int 3]) (rest := []) rfl hl.1 rfl (Nat.le_of_ble_eq_true rfl) dX3_box_3 ⟨by first | exact Nat.le_of_ble_eq_true rfl | omega, by first | exact Nat.le_of_ble_eq_true rfl | omega⟩ (fun r9 sg9 H locs hq hW hS => ?_)
  obtain ⟨rfl, e9⟩ := hq
  rw [e9] at hW
  refine W.eq (g2 := F0 m 6 ls [.int (tw_b (tw_in x 1 3))]) rfl ?_
  refine lv_if_eq (tgt := 20) hx hb dX3_box_6 (by decide) (fun c_6 => ?_) (fun c_6 => ?_)
  · exact kx_thrg F hlf htab hlocks (cls := "java/lang/IllegalArgumentException") (text := "size or value is out of range") (ik := 53) (is := 55) (ic := 57) (by decide +kernel) (by decide +kernel) (by decide +kernel) (by decide +kernel) (by decide +kernel) (by decide +kernel) (by decide +kernel) hW hS hl.1 dX3_box_20 dX3_box_23 dX3_box_24 dX3_box_26 dX3_box_29 (Nat.le_of_ble_eq_true rfl) (Nat.le_of_ble_eq_true rfl) (by first | exact Nat.le_of_ble_eq_true rfl | omega) (by first | exact Nat.le_of_ble_eq_true rfl | omega) (by first | exact Nat.le_of_ble_eq_true rfl | omega) (by first | exact Nat.le_of_ble_eq_true rfl | omega) (Or.inl ⟨rfl, by rw [tw_b_0 c_6]; rfl⟩)
  · refine lv_iload_n hx hb dX3_box_9 rfl (lv_at hl 2 rfl) ?_
    refine lv_iconst (v := 1) hx hb dX3_box_10 (by decide) ?_
    refine lv_sipush (v := 9999) hx hb dX3_box_11 (by decide) ?_
    refine kx_cS (na := 3) F (c_X3_isWithin l G z0 ad nb sg y 1 9999) gX3_box_X3_isWithin rfl (by decide +kernel) ⟨Nat.le_of_ble_eq_true rfl, Nat.le_of_ble_eq_true rfl⟩ hW hS (As := [.int y, .int 1, .int 9999]) (rest := []) rfl hl.1 rfl (Nat.le_of_ble_eq_true rfl) dX3_box_14 ⟨by first | exact Nat.le_of_ble_eq_true rfl | omega, by first | exact Nat.le_of_ble_eq_true rfl | omega⟩ (fun r9 sg9 H locs hq hW hS => ?_)
    obtain ⟨rfl, e9⟩ := hq
    rw [e9] at hW
    refine W.eq (g2 := F0 m 17 ls [.int (tw_b (tw_in y 1 9999))]) rfl ?_
    refine lv_if_ne (tgt := 30) hx hb dX3_box_17 (by decide) (fun c_17 => ?_) (fun c_17 => ?_)
    · refine lv_aload_n hx hb dX3_box_30 rfl (lv_at hl 0 rfl) ?_
      refine kx_g F inX3 hW 0 0 ⟨by decide, rfl⟩ rfl rfl 6 (by decide) L_38 (v := .int (nI nb)) (congrArg (fun z => some (Value.int z)) h6) dX3_box_31 ?_
      refine lv_bipush (v := 16) hx hb dX3_box_34 (by decide) ?_
      refine lv_icmp_lt (tgt := 49) hx hb dX3_box_36 (by decide) (fun c_36 => ?_) (fun c_36 => ?_)
      · have h16 : nb < 16 := by
          rcases Nat.lt_or_ge nb 16 with q | q
          · exact q
          · exact absurd c_36 (nI_nlt (a := nb) (b := 16) q (by omega))
        refine lv_aload_n hx hb dX3_box_49 rfl (lv_at hl 0 rfl) ?_
        refine kx_g F inX3 hW 0 0 ⟨by decide, rfl⟩ rfl rfl 0 (by decide) L_11 (v := .ref (ad 1 0)) rfl dX3_box_50 ?_
        refine lv_aload_n hx hb dX3_box_53 rfl (lv_at hl 0 rfl) ?_
        refine kx_g F inX3 hW 0 0 ⟨by decide, rfl⟩ rfl rfl 6 (by decide) L_38 (v := .int (nI nb)) (congrArg (fun z => some (Value.int z)) h6) dX3_box_54 ?_
        have hK := F.2.2.2.2.2.1
        have hKn := hK.1 0 (RX0, TX0, 11) rfl
        have hz0 := hW.z0le
        have hnb : nb < 16 := h16
        refine W.newcK (C := RX0) (n := 11) hx hb F.2.2.2.1 (hts (.classLink RX3 9 RX0) (by decide +kernel)) (hts (.instantiable RX0 11) (by decide +kernel)) (hts (.initialized RX0) (by decide +kernel)) rfl dX3_box_57 (Nat.le_of_ble_eq_true rfl) (Nat.le_of_ble_eq_true rfl) hKn.2.1 rfl (fun H1 kC hkC e1 z1 o1 => ?_)
        have hPc : va_P G.1 vwCl [(H.size, .inr (0, [.int 0, .int 0, .null, .null, .null, .null, .int 0, .int 0, .int 0, .int 0, .int 0]))] H1 := kx_P1 ⟨_, rfl, (u_born tyX0 hts (by decide +kernel) hKn hkC e1 tyX0_ok).to (fun j hj => by match j, hj with | 0, _ => rfl | 1, _ => rfl | 2, _ => rfl | 3, _ => rfl | 4, _ => rfl | 5, _ => rfl | 6, _ => rfl | 7, _ => rfl | 8, _ => rfl | 9, _ => rfl | 10, _ => rfl | j + 11, hj => exact absurd hj (by show ¬ j + 11 < 11; omega))⟩
        have hS1 : va_S (kx_Ad z0) s.heap H1 locs := ⟨Nat.le_trans hS.1 (by omega), fun x9 h1 h2 => (o1 x9 (Nat.lt_of_lt_of_le h1 hS.1)).trans (hS.2.1 x9 h1 h2), hS.2.2⟩
        have hFc : ∀ q, va_A [(H.size, .inr (0, [.int 0, .int 0, .null, .null, .null, .null, .int 0, .int 0, .int 0, .int 0, .int 0]))] H1.size q → kx_Ad z0 q := fun q h => by show z0 ≤ q; rcases kx_A1 h with h | h <;> omega
        refine W.eq (g2 := F0 m 60 ls [.ref H.size, .int (nI nb), .ref (ad 1 0)]) rfl ?_
        refine lv_dup hx hb dX3_box_60 rfl ?_
        refine lv_iload_n hx hb dX3_box_61 rfl (lv_at hl 1 rfl) ?_
        refine lv_iload_n hx hb dX3_box_62 rfl (lv_at hl 2 rfl) ?_
        refine va_callv (va_runI (As := [.int x, .int y]) (rest := [.ref H.size, .int (nI nb), .ref (ad 1 0)]) ⟨hx, hb, hml, F.2.2.2.1, hts⟩ (k_X0_init l G H.size H1.size x y) (cwI 2 hts gX3_box_X0_init rfl rfl rfl (hts (.initialized RX0) (by decide +kernel)) (hts (.methodLink RX3 65 yX0_init) (by decide +kernel)) (hts (.instanceMethod yX0_init) (by decide +kernel)) rfl (by decide +kernel) ⟨Nat.le_of_ble_eq_true rfl, Nat.le_of_ble_eq_true rfl⟩) ⟨fun a U g mk q => by obtain ⟨q0, q1, qP, qK, qD⟩ := q; exact ⟨q0, q1, qP, va_K.moved (u := U) (U := U.calling g mk a) (Vm.Alike.refl U.vm) qK, qD⟩, fun U hU hW9 => ⟨rfl, by rw [hU], by rw [hU]; exact hPc, va_K.moved hW9.alike hK, kx_D1⟩⟩ rfl rfl hl.1 rfl (lv_room (Nat.le_of_ble_eq_true rfl)) dX3_box_63 ⟨Nat.le_of_ble_eq_true rfl, Nat.le_of_ble_eq_true rfl⟩) hS1 (fun q _ h => hFc q h) hFc (fun u t H2 locs ht hvm hw9 hB hz2 hk2 hS => ?_)
        obtain ⟨hP2, hD2⟩ := hB
        rw [ht] at hP2
        have hW2 : kx_Wd G z0 ad nb sg H2 := hW.keep (fun a ha => (hk2 a (by omega) (fun h => by rcases kx_A1 h with h | h <;> omega)).trans (o1 a ha))
        have hge : ∀ (k : Nat) (q : Nat × va_E), ([(H.size, .inr (0, [.int x, .int y, .ref u.1, .ref u.2.1, .ref u.2.2.1, .ref u.2.2.2, .int 0, .int 0, .int 0, .int 0, .int (-1)])), (u.1, .inl (G.2 0, 12, .inl (fun _ => 0))), (u.2.1, .inl (G.2 0, 12, .inl (fun _ => 0))), (u.2.2.1, .inl (G.2 0, 12, .inl (fun _ => 0))), (u.2.2.2, .inl (G.2 0, 12, .inl (fun _ => 0)))] : va_W)[k]? = some q → H.size ≤ q.1 := fun k q hk => by rcases kx_A1 (hD2.2 k q hk) with h | h <;> omega
        obtain ⟨w, hw⟩ : ∃ w : Nat → Nat, w = (fun k => match k with | 9 => H.size | 10 => u.1 | 11 => u.2.1 | 12 => u.2.2.1 | 13 => u.2.2.2 | _ => 0) := ⟨_, rfl⟩
        have w9 : w 9 = H.size := (congrFun hw 9).trans rfl
        have wk : ∀ k, 9 ≤ k → k ≤ 13 → ∃ e : va_E, ([(H.size, .inr (0, [.int x, .int y, .ref u.1, .ref u.2.1, .ref u.2.2.1, .ref u.2.2.2, .int 0, .int 0, .int 0, .int 0, .int (-1)])), (u.1, .inl (G.2 0, 12, .inl (fun _ => 0))), (u.2.1, .inl (G.2 0, 12, .inl (fun _ => 0))), (u.2.2.1, .inl (G.2 0, 12, .inl (fun _ => 0))), (u.2.2.2, .inl (G.2 0, 12, .inl (fun _ => 0)))] : va_W)[k - 9]? = some (w k, e) := fun k q1 q2 => by rw [hw]; rcases (show k = 9 ∨ k = 10 ∨ k = 11 ∨ k = 12 ∨ k = 13 by omega) with rfl | rfl | rfl | rfl | rfl <;> exact ⟨_, rfl⟩
        refine W.eq (g2 := F0 m 66 ls [.ref (w 9), .int (nI nb), .ref (ad 1 0)]) (by first | (rw [w9]; done) | (rw [w9]; rfl)) ?_
        refine kx_astB (z1 := H.size) (w := w) (x := x) (y := y) F hW2 hnb (by rw [hw]; exact hP2) (fun k n hq => (hW.1.1 k n hq).lt) (fun k n hq => (hW.2.1.1 k n hq).lt) (fun k q1 q2 => by obtain ⟨e, he⟩ := wk k q1 q2; exact hge _ _ he) (fun j k q1 q2 q3 q4 he => by obtain ⟨e, h1⟩ := wk j q1 q2; obtain ⟨e2, h2⟩ := wk k q3 q4; have := hD2.1 _ _ _ _ h1 h2 he; omega) hz0 hS dX3_box_66 (fun H3 locs hW hS => ?_)
        refine lv_aload_n hx hb dX3_box_67 rfl (lv_at hl 0 rfl) ?_
        refine lv_dup hx hb dX3_box_68 rfl ?_
        refine kx_g F inX3 hW 0 0 ⟨by decide, rfl⟩ rfl rfl 6 (by decide) L_38 (v := .int (nI nb)) (congrArg (fun z => some (Value.int z)) h6) dX3_box_69 ?_
        refine lv_iconst (v := 1) hx hb dX3_box_72 (by decide) ?_
        refine lv_iadd hx hb dX3_box_73 ?_
        rw [nI_1 nb]
        refine kx_p F inX3 tyX3 tyX3_ok nmX3 hW hS 0 0 ⟨by decide, rfl⟩ rfl rfl 6 (by decide) L_38 rfl (v := .int (nI (nb + 1))) rfl rfl (Nat.le_of_ble_eq_true rfl) (upd (sg 0 0) 6 (nI (nb + 1))) rfl dX3_box_74 (fun H locs hW hS => ?_)
        refine lv_aload_n hx hb dX3_box_77 rfl (lv_at hl 0 rfl) ?_
        refine kx_g F inX3 hW 0 0 ⟨by decide, rfl⟩ rfl rfl 6 (by decide) L_38 (v := .int (nI (nb + 1))) (congrArg (fun z => some (Value.int z)) (by rw [kx_up_s, upd_s])) dX3_box_78 ?_
        refine lv_iconst (v := 1) hx hb dX3_box_81 (by decide) ?_
        refine lv_isub hx hb dX3_box_82 ?_
        rw [nI_pred]
        refine vx_ret ?_
        refine W.widen (Nat.le_of_ble_eq_true rfl) (Nat.le_of_ble_eq_true rfl) (W.iret F.1 F.2.1 hr (fun t ht _ => ⟨⟨some (.int (nI nb)), kx_ext ad nb w, nb + 1, kx_up (kx_nw sg nb x y) 0 0 (upd (sg 0 0) 6 (nI (nb + 1))), rfl, ⟨nI nb, rfl, rfl, fun k n hq => kx_ext_old hq, ?_⟩, by rw [ht]; exact hW⟩, hS.F ht⟩) hS.2.2 dX3_box_83 hlocks)
        refine ⟨tw_b_1 c_6, tw_b_1 c_17, h16, rfl, by rw [kx_up_s], ?_, ?_, ?_, ?_, ?_, ?_, ?_, fun q m h1 h2 => ?_⟩
        · rw [kx_up_q (by decide)]; show (if nb = nb then kx_nr x y else sg 9 nb) 0 = _; rw [if_pos rfl]; rfl
        · rw [kx_up_q (by decide)]; show (if nb = nb then kx_nr x y else sg 9 nb) 1 = _; rw [if_pos rfl]; rfl
        · rw [kx_up_q (by decide)]; show (if nb = nb then kx_nr x y else sg 9 nb) 6 = _; rw [if_pos rfl]; rfl
        · rw [kx_up_q (by decide)]; show (if nb = nb then kx_nr x y else sg 9 nb) 7 = _; rw [if_pos rfl]; rfl
        · rw [kx_up_q (by decide)]; show (if nb = nb then kx_nr x y else sg 9 nb) 8 = _; rw [if_pos rfl]; rfl
        · rw [kx_up_q (by decide)]; show (if nb = nb then kx_nr x y else sg 9 nb) 9 = _; rw [if_pos rfl]; rfl
        · rw [kx_up_q (by decide)]; show (if nb = nb then kx_nr x y else sg 9 nb) 10 = _; rw [if_pos rfl]; rfl
        · have e9 : kx_up (kx_nw sg nb x y) 0 0 (upd (sg 0 0) 6 (nI (nb + 1))) q m = kx_nw sg nb x y q m := by simp only [kx_up, if_neg h1]
          rw [e9]
          exact kx_nw_old (fun z => h2 ⟨z.1, z.2.1, z.2.2⟩)
      · have h16b : nb = 16 := by
          rcases Nat.lt_or_ge nb 16 with q | q
          · exact absurd (nI_lt (a := nb) (b := 16) q (by omega)) c_36
          · omega
        exact kx_thrg F hlf htab hlocks (cls := "java/lang/IllegalStateException") (text := "16 boxes were told") (ik := 60) (is := 62) (ic := 64) (by decide +kernel) (by decide +kernel) (by decide +kernel) (by decide +kernel) (by decide +kernel) (by decide +kernel) (by decide +kernel) hW hS hl.1 dX3_box_39 dX3_box_42 dX3_box_43 dX3_box_45 dX3_box_48 (Nat.le_of_ble_eq_true rfl) (Nat.le_of_ble_eq_true rfl) (by first | exact Nat.le_of_ble_eq_true rfl | omega) (by first | exact Nat.le_of_ble_eq_true rfl | omega) (by first | exact Nat.le_of_ble_eq_true rfl | omega) (by first | exact Nat.le_of_ble_eq_true rfl | omega) (Or.inr ⟨rfl, by rw [tw_b_1 c_6, tw_b_1 c_17]; rfl, h16b⟩)
    · exact kx_thrg F hlf htab hlocks (cls := "java/lang/IllegalArgumentException") (text := "size or value is out of range") (ik := 53) (is := 55) (ic := 57) (by decide +kernel) (by decide +kernel) (by decide +kernel) (by decide +kernel) (by decide +kernel) (by decide +kernel) (by decide +kernel) hW hS hl.1 dX3_box_20 dX3_box_23 dX3_box_24 dX3_box_26 dX3_box_29 (Nat.le_of_ble_eq_true rfl) (Nat.le_of_ble_eq_true rfl) (by first | exact Nat.le_of_ble_eq_true rfl | omega) (by first | exact Nat.le_of_ble_eq_true rfl | omega) (by first | exact Nat.le_of_ble_eq_true rfl | omega) (by first | exact Nat.le_of_ble_eq_true rfl | omega) (Or.inl ⟨rfl, by rw [tw_b_0 c_17]; exact Bool.and_false _⟩)

