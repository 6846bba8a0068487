/-! The kit's rows, told of a world, a list of locals, a place and an operand stack at once; a call is the world of the callee cut out of the caller's. -/
abbrev zS_t : Type := Nat → Nat → Int32
/-- field (or array) k of a state is g from now on -/
def zsF (S : zS_t) (k : Nat) (g : Nat → Int32) : zS_t := fun f => bif Nat.beq f k then g else S f
def zsI (S : zS_t) (k : Nat) (v : Int32) : zS_t := zsF S k (fun _ => v)
/-- a computed value is named -/
def zbnd {α : Type} {β : Type} (e : α) (f : α → β) : β := f e
theorem zbnd_cut {α : Type} {β : Type} {e : α} {f : α → β} {X : β} (h : zbnd e f = X) {r : α} (hr : e = r) : f r = X := by subst hr; exact h
theorem zite_t {α : Type} {c : Prop} {i : Decidable c} {a b X : α} (h : (@ite α c i a b) = X) (hc : c) : a = X := by rw [if_pos hc] at h; exact h
theorem zite_f {α : Type} {c : Prop} {i : Decidable c} {a b X : α} (h : (@ite α c i a b) = X) (hc : ¬ c) : b = X := by rw [if_neg hc] at h; exact h
theorem zpair {α : Type} {β : Type} {a a2 : α} {b b2 : β} (h : (a, b) = (a2, b2)) : a = a2 ∧ b = b2 := Prod.mk.inj h
/-- locals: slot i holds v from now on -/
def zput : List (Nat × Value) → Nat → Value → List (Nat × Value)
  | [], i, v => [(i, v)]
  | q :: t, i, v => bif Nat.beq q.1 i then (i, v) :: t.filter (fun q => !(q.1 == i) && !(q.1 + 1 == i && q.2.category == 2)) else bif (Nat.beq (q.1 + 1) i && q.2.category == 2) then zput t i v else q :: zput t i v
theorem zput_mem : ∀ (l : List (Nat × Value)) (i : Nat) (v : Value) (q : Nat × Value), q ∈ zput l i v → q ∈ (i, v) :: l.filter (fun q => !(q.1 == i) && !(q.1 + 1 == i && q.2.category == 2))
  | [], i, v, q, h => by simpa [zput] using h
  | a :: t, i, v, q, h => by
    unfold zput at h
    cases h1 : Nat.beq a.1 i with
    | true =>
      rw [h1] at h
      have h : q ∈ (i, v) :: t.filter (fun q => !(q.1 == i) && !(q.1 + 1 == i && q.2.category == 2)) := h
      rcases List.mem_cons.mp h with h | h
      · rw [h]; exact List.mem_cons_self
      · refine List.mem_cons_of_mem _ ?_
        obtain ⟨h3, h4⟩ := List.mem_filter.mp h
        exact List.mem_filter.mpr ⟨List.mem_cons_of_mem _ h3, h4⟩
    | false =>
      rw [h1] at h
      have e1 : (a.1 == i) = false := by
        have := Nat.ne_of_beq_eq_false h1
        simpa using this
      have h : q ∈ (bif (Nat.beq (a.1 + 1) i && a.2.category == 2) then zput t i v else a :: zput t i v) := h
      have up : ∀ q, q ∈ (i, v) :: t.filter (fun q => !(q.1 == i) && !(q.1 + 1 == i && q.2.category == 2)) → q ∈ (i, v) :: (a :: t).filter (fun q => !(q.1 == i) && !(q.1 + 1 == i && q.2.category == 2)) := by
        intro q hq
        rcases List.mem_cons.mp hq with hq | hq
        · rw [hq]; exact List.mem_cons_self
        · refine List.mem_cons_of_mem _ ?_
          obtain ⟨h3, h4⟩ := List.mem_filter.mp hq
          exact List.mem_filter.mpr ⟨List.mem_cons_of_mem _ h3, h4⟩
      cases h2 : (Nat.beq (a.1 + 1) i && a.2.category == 2) with
      | true =>
        rw [h2] at h
        exact up q (zput_mem t i v q h)
      | false =>
        rw [h2] at h
        have h : q ∈ a :: zput t i v := h
        rcases List.mem_cons.mp h with h | h
        · subst h
          refine List.mem_cons_of_mem _ (List.mem_filter.mpr ⟨List.mem_cons_self, ?_⟩)
          have e3 : (q.1 + 1 == i) = Nat.beq (q.1 + 1) i := by
            cases hb : Nat.beq (q.1 + 1) i with
            | true => exact beq_iff_eq.mpr (Nat.eq_of_beq_eq_true hb)
            | false => exact beq_eq_false_iff_ne.mpr (Nat.ne_of_beq_eq_false hb)
          have e2 : (q.1 + 1 == i && q.2.category == 2) = false := by rw [e3]; exact h2
          rw [e1, e2]
          rfl
        · exact up q (zput_mem t i v q h)
theorem zhas_mem {ls : Array Slot} {nL : Nat} {l l' : List (Nat × Value)} (h : lv_has ls nL l) (hm : ∀ q ∈ l', q ∈ l) : lv_has ls nL l' := ⟨h.1, h.2.1, fun q hq => h.2.2 q (hm q hq)⟩
theorem zP_mem {D : va_G} {cl : List vw_C} {ws : va_W} {H : Heap} : va_P D cl ws H ↔ ∀ q ∈ ws, va_at D cl q H :=
  ⟨fun h q hq => by obtain ⟨k, hk⟩ := List.getElem?_of_mem hq; exact h k q hk, fun h k q hk => h q (List.mem_of_getElem? hk)⟩
theorem zD_iff {A : Nat → Prop} {ws : va_W} : va_D A ws ↔ List.Pairwise (fun (p q : Nat × va_E) => p.1 ≠ q.1) ws ∧ ∀ q ∈ ws, A q.1 := by
  constructor
  · intro h
    refine ⟨List.pairwise_iff_getElem.mpr (fun i j hi hj hij e => ?_), fun q hq => ?_⟩
    · have := h.1 i j _ _ (List.getElem?_eq_getElem hi) (List.getElem?_eq_getElem hj) e
      omega
    · obtain ⟨k, hk⟩ := List.getElem?_of_mem hq
      exact h.2 k q hk
  · rintro ⟨h1, h2⟩
    refine ⟨fun i j p q hi hj e => ?_, fun k q hk => h2 q (List.mem_of_getElem? hk)⟩
    obtain ⟨hi', rfl⟩ := List.getElem?_eq_some_iff.mp hi
    obtain ⟨hj', rfl⟩ := List.getElem?_eq_some_iff.mp hj
    rcases Nat.lt_trichotomy i j with hl | hl | hl
    · exact absurd e (List.pairwise_iff_getElem.mp h1 i j hi' hj' hl)
    · exact hl
    · exact absurd e.symm (List.pairwise_iff_getElem.mp h1 j i hj' hi' hl)
theorem zfree {A : Nat → Prop} {w1 wc w2 : va_W} {H0 H : Heap} {locs : List Loc} (hD : va_D A (w1 ++ (wc ++ w2))) (hS : va_S A H0 H locs) (hA : ∀ q, H0.size ≤ q → A q) : ∀ q, va_A wc H.size q → A q := by
  intro q h
  rcases h with ⟨k, e, h⟩ | h
  · exact (zD_iff.mp hD).2 (q, e) (List.mem_append_right _ (List.mem_append_left _ (List.mem_of_getElem? h)))
  · exact hA q (Nat.le_trans hS.1 h)
theorem zcutP {D : va_G} {cl : List vw_C} {w1 wc w2 : va_W} {H : Heap} (h : va_P D cl (w1 ++ (wc ++ w2)) H) : va_P D cl wc H := zP_mem.mpr fun q hq => zP_mem.mp h q (List.mem_append_right _ (List.mem_append_left _ hq))
theorem zcutD {A : Nat → Prop} {w1 wc w2 : va_W} (h : va_D A (w1 ++ (wc ++ w2))) : va_D A wc := by
  obtain ⟨h1, h2⟩ := zD_iff.mp h
  exact zD_iff.mpr ⟨(List.pairwise_append.mp (List.pairwise_append.mp h1).2.1).1, fun q hq => h2 q (List.mem_append_right _ (List.mem_append_left _ hq))⟩
theorem zjoin {A : Nat → Prop} {D : va_G} {cl : List vw_C} {w1 wc w2 wn : va_W} {H H1 : Heap} (hP : va_P D cl (w1 ++ (wc ++ w2)) H) (hD : va_D A (w1 ++ (wc ++ w2))) (hk : ∀ q : Nat, q < H.size → ¬ va_A wc H.size q → H1[q]? = H[q]?) (hF : ∀ q, va_A wc H.size q → A q) (hP1 : va_P D cl wn H1) (hD1 : va_D (va_A wc H.size) wn) :
    va_P D cl (w1 ++ (wn ++ w2)) H1 ∧ va_D A (w1 ++ (wn ++ w2)) := by
  obtain ⟨d1, d2⟩ := zD_iff.mp hD
  obtain ⟨e1, e2⟩ := zD_iff.mp hD1
  obtain ⟨p1, p2, p3⟩ := List.pairwise_append.mp d1
  obtain ⟨p4, p5, p6⟩ := List.pairwise_append.mp p2
  have hPm := zP_mem.mp hP
  have out : ∀ q, q ∈ w1 ∨ q ∈ w2 → q.1 < H.size ∧ ¬ va_A wc H.size q.1 := by
    intro q hq
    have hm : q ∈ w1 ++ (wc ++ w2) := by
      rcases hq with h | h
      · exact List.mem_append_left _ h
      · exact List.mem_append_right _ (List.mem_append_right _ h)
    have hlt := (hPm q hm).lt
    refine ⟨hlt, fun h => ?_⟩
    rcases h with ⟨k, e, h⟩ | h
    · have hc := List.mem_of_getElem? h
      rcases hq with h9 | h9
      · exact p3 q h9 (q.1, e) (List.mem_append_left _ hc) rfl
      · exact p6 (q.1, e) hc q h9 rfl
    · omega
  refine ⟨zP_mem.mpr fun q hq => ?_, zD_iff.mpr ⟨?_, fun q hq => ?_⟩⟩
  · rcases List.mem_append.mp hq with h | h
    · exact (hPm q (List.mem_append_left _ h)).kept (hk q.1 (out q (Or.inl h)).1 (out q (Or.inl h)).2)
    · rcases List.mem_append.mp h with h | h
      · exact zP_mem.mp hP1 q h
      · exact (hPm q (List.mem_append_right _ (List.mem_append_right _ h))).kept (hk q.1 (out q (Or.inr h)).1 (out q (Or.inr h)).2)
  · refine List.pairwise_append.mpr ⟨p1, List.pairwise_append.mpr ⟨e1, p5, fun a ha b hb e => ?_⟩, fun a ha b hb e => ?_⟩
    · exact (out b (Or.inr hb)).2 (by rw [← e]; exact e2 a ha)
    · rcases List.mem_append.mp hb with h | h
      · exact (out a (Or.inl ha)).2 (by rw [e]; exact e2 b h)
      · exact p3 a ha b (List.mem_append_right _ h) e
  · rcases List.mem_append.mp hq with h | h
    · exact d2 q (List.mem_append_left _ h)
    · rcases List.mem_append.mp h with h | h
      · exact hF _ (e2 q h)
      · exact d2 q (List.mem_append_right _ (List.mem_append_right _ h))
/-! what the two static tables hold, what a throw needs of the JDK's statics, the texts, the nest mates' links -/
def zCost : List Int32 := [2, 3, 3, 3, 3, 2, 2, 4, 3, 2, 3, 3, 1, 1]
def zLayer : List Int32 := [0, 0, 4, 3, 3, 2, 2, 1, 5, 0, 0, 0, 0, 0]
def zTexts : List (Nat × String) := [(43, "no such card"), (54, "the card cannot be played"), (100, "entries is out of range"), (112, "no such player"), (119, "no such thing"), (141, "no such entry"), (157, "layer is out of range")]
def zNests : List (String × Nat × MethodName × String) := [(RX4, 15, yX2_init, RX4), (RX4, 22, yX0_init, RX4), (RX4, 29, yX3_init, RX4), (RX4, 36, yX1_init, RX4), (RX3, 43, yX4_layerOf, RX4)]
def zSw (U : State) : Prop := (∀ q ∈ zTexts, ∃ a : Nat, vk_R RX4 q.1 q.2 a U) ∧ ∀ q ∈ zNests, va_Nw (.methodLinkNest q.1 q.2.1 q.2.2.1 q.2.2.2) U
def zTb (n : String) (xs : List Int32) (A : Nat → Prop) (U : State) (H : Heap) : Prop := ∃ t : Nat, va_Z "LayeredTable" n "[I" (.ref t) A U H ∧ va_T .int t 14 (fun j => .int (xs.getD j 0)) A U H
def zSt (A : Nat → Prop) (U : State) (H : Heap) : Prop := zTb "COST_OF" zCost A U H ∧ zTb "LAYER_OF" zLayer A U H ∧ vx_Zq Bundle.tN "UNASSIGNED_STACK" Bundle.steD A U H ∧ vx_Zq Bundle.tN "SUPPRESSED_SENTINEL" Bundle.listD A U H ∧ zSw U
theorem zTb.to {n : String} {xs : List Int32} {A B : Nat → Prop} {u U : State} {H H1 : Heap} (h : zTb n xs A u H) (hW : u.WarmedH U.vm) (hq : ∀ a : Nat, a < H.size → ¬ A a → H1[a]? = H[a]?) (hAB : ∀ q, B q → A q) : zTb n xs B U H1 := by
  obtain ⟨t, h1, h2⟩ := h
  exact ⟨t, ((va_Z.moved hW.alike h1).kept hq).narrow hAB, ((va_T.moved hW.alike h2).kept hq).narrow hAB⟩
theorem zSt.to {A B : Nat → Prop} {u U : State} {H H1 : Heap} (h : zSt A u H) (hW : u.WarmedH U.vm) (hq : ∀ a : Nat, a < H.size → ¬ A a → H1[a]? = H[a]?) (hAB : ∀ q, B q → A q) : zSt B U H1 := by
  obtain ⟨h1, h2, h3, h4, h5, h6⟩ := h
  refine ⟨h1.to hW hq hAB, h2.to hW hq hAB, ((vx_Zq.moved hW.alike h3).kept hq).narrow hAB, ((vx_Zq.moved hW.alike h4).kept hq).narrow hAB, fun q hq => ?_, fun q hq => va_Nw.warmM hW (h6 q hq)⟩
  obtain ⟨a, ha⟩ := h5 q hq
  exact ⟨a, vk_R.warm hW ha⟩
/-- what a method asks of its start: its world, the tables, the statics -/
def zB (D : va_G) (tys : List (ClassId × FieldType)) (W0 : va_W) (sz : Nat) (U : State) : Prop := U.heap.size = sz ∧ va_P D vwCl W0 U.heap ∧ va_K D vwCl tys U ∧ va_D (fun _ => True) W0 ∧ zSt (va_A W0 sz) U U.heap
theorem zB_blind {D : va_G} {tys : List (ClassId × FieldType)} {W0 : va_W} {sz : Nat} {av : List Value} : FrameBlind (va_Pc av (zB D tys W0 sz)) := by
  intro a U g mk q
  obtain ⟨q0, q1, qP, qK, qD, qS⟩ := q
  exact ⟨q0, q1, qP, va_K.moved (u := U) (U := U.calling g mk a) (Vm.Alike.refl U.vm) qK, qD, zSt.to (u := U) (U := U.calling g mk a) qS (State.WarmedH.refl U) (fun _ _ _ => rfl) (fun _ h => h)⟩
def zEnd (D : va_G) (W1 : va_W) (A : Nat → Prop) (t : State) : Prop := va_P D vwCl W1 t.heap ∧ va_D A W1
/-- method y, called with av in the world W0, answers r; the world is W1 then -/
def zCI (l : Launch) (D : va_G) (tys : List (ClassId × FieldType)) (y : MethodName) (wy : List Cond) (rm : Room) (av : List Value) (W0 : va_W) (r : Int32) (W1 : va_W) : Prop :=
  ∀ sz : Nat, Met l y wy rm (va_Pc av (zB D tys W0 sz)) (va_Qi (fun (x : Int32) (_ : Unit) => x = r) (fun _ t => zEnd D W1 (va_A W0 sz) t) (va_A W0 sz)) 0 0 (va_A W0 sz)
/-- the same, without an answer -/
def zCV (l : Launch) (D : va_G) (tys : List (ClassId × FieldType)) (y : MethodName) (wy : List Cond) (rm : Room) (av : List Value) (W0 : va_W) (W1 : va_W) : Prop :=
  ∀ sz : Nat, Met l y wy rm (va_Pc av (zB D tys W0 sz)) (va_Qv (fun (_ : Unit) => True) (fun _ t => zEnd D W1 (va_A W0 sz) t) (va_A W0 sz)) 0 0 (va_A W0 sz)
def zbnd2 {α1 α2 β : Type} (e : α1 × α2) (f : α1 → α2 → β) : β := f (e.1) (e.2)
theorem zbnd2_cut {α1 α2 β : Type} {e : α1 × α2} {f : α1 → α2 → β} {X : β} (h : zbnd2 e f = X) {a1 : α1} {a2 : α2} (hr : e = (a1, a2)) : f a1 a2 = X := by subst hr; exact h
def zbnd3 {α1 α2 α3 β : Type} (e : α1 × α2 × α3) (f : α1 → α2 → α3 → β) : β := f (e.1) (e.2.1) (e.2.2)
theorem zbnd3_cut {α1 α2 α3 β : Type} {e : α1 × α2 × α3} {f : α1 → α2 → α3 → β} {X : β} (h : zbnd3 e f = X) {a1 : α1} {a2 : α2} {a3 : α3} (hr : e = (a1, a2, a3)) : f a1 a2 a3 = X := by subst hr; exact h
def zbnd4 {α1 α2 α3 α4 β : Type} (e : α1 × α2 × α3 × α4) (f : α1 → α2 → α3 → α4 → β) : β := f (e.1) (e.2.1) (e.2.2.1) (e.2.2.2)
theorem zbnd4_cut {α1 α2 α3 α4 β : Type} {e : α1 × α2 × α3 × α4} {f : α1 → α2 → α3 → α4 → β} {X : β} (h : zbnd4 e f = X) {a1 : α1} {a2 : α2} {a3 : α3} {a4 : α4} (hr : e = (a1, a2, a3, a4)) : f a1 a2 a3 a4 = X := by subst hr; exact h
def zbnd5 {α1 α2 α3 α4 α5 β : Type} (e : α1 × α2 × α3 × α4 × α5) (f : α1 → α2 → α3 → α4 → α5 → β) : β := f (e.1) (e.2.1) (e.2.2.1) (e.2.2.2.1) (e.2.2.2.2)
theorem zbnd5_cut {α1 α2 α3 α4 α5 β : Type} {e : α1 × α2 × α3 × α4 × α5} {f : α1 → α2 → α3 → α4 → α5 → β} {X : β} (h : zbnd5 e f = X) {a1 : α1} {a2 : α2} {a3 : α3} {a4 : α4} {a5 : α5} (hr : e = (a1, a2, a3, a4, a5)) : f a1 a2 a3 a4 a5 = X := by subst hr; exact h
def zbnd6 {α1 α2 α3 α4 α5 α6 β : Type} (e : α1 × α2 × α3 × α4 × α5 × α6) (f : α1 → α2 → α3 → α4 → α5 → α6 → β) : β := f (e.1) (e.2.1) (e.2.2.1) (e.2.2.2.1) (e.2.2.2.2.1) (e.2.2.2.2.2)
theorem zbnd6_cut {α1 α2 α3 α4 α5 α6 β : Type} {e : α1 × α2 × α3 × α4 × α5 × α6} {f : α1 → α2 → α3 → α4 → α5 → α6 → β} {X : β} (h : zbnd6 e f = X) {a1 : α1} {a2 : α2} {a3 : α3} {a4 : α4} {a5 : α5} {a6 : α6} (hr : e = (a1, a2, a3, a4, a5, a6)) : f a1 a2 a3 a4 a5 a6 = X := by subst hr; exact h
/-! numbers -/
theorem zin {a : Int32} {n : Nat} (h0 : 0 ≤ a.toInt) (h1 : a.toInt < n) : vp_in a n := vp_in_iff.mpr ⟨h0, h1⟩
theorem zt_lt {a b : Int32} (h : a < b) : a.toInt < b.toInt := Int32.lt_iff_toInt_lt.mp h
theorem zt_le {a b : Int32} (h : a ≤ b) : a.toInt ≤ b.toInt := Int32.le_iff_toInt_le.mp h
theorem zt_nlt {a b : Int32} (h : ¬ a < b) : b.toInt ≤ a.toInt := Int.not_lt.mp fun q => h (Int32.lt_iff_toInt_lt.mpr q)
theorem zt_nle {a b : Int32} (h : ¬ a ≤ b) : b.toInt < a.toInt := Int.not_le.mp fun q => h (Int32.le_iff_toInt_le.mpr q)
theorem zt_ne {a b : Int32} (h : ¬ a = b) : ¬ a.toInt = b.toInt := fun q => h (Int32.toInt_inj.mp q)
theorem zbm {x : Int} (h0 : -2147483648 ≤ x) (h1 : x < 2147483648) : x.bmod (2 ^ 32) = x := by
  rw [Int.bmod_def]
  have e : ((2 ^ 32 : Nat) : Int) = 4294967296 := rfl
  rw [e]
  by_cases h : 0 ≤ x
  · rw [Int.emod_eq_of_lt h (by omega), if_pos (by omega)]
  · have e2 : x % 4294967296 = x + 4294967296 := by omega
    rw [e2, if_neg (by omega)]
    omega
theorem zt_add {a b : Int32} (h0 : -2147483648 ≤ a.toInt + b.toInt) (h1 : a.toInt + b.toInt < 2147483648) : (a + b).toInt = a.toInt + b.toInt := by rw [Int32.toInt_add]; exact zbm h0 h1
theorem zt_sub {a b : Int32} (h0 : -2147483648 ≤ a.toInt - b.toInt) (h1 : a.toInt - b.toInt < 2147483648) : (a - b).toInt = a.toInt - b.toInt := by rw [Int32.toInt_sub]; exact zbm h0 h1
theorem zt_mulc {a b : Int32} {c : Int} (hc : a.toInt = c) (h0 : -2147483648 ≤ c * b.toInt) (h1 : c * b.toInt < 2147483648) : (a * b).toInt = c * b.toInt := by rw [Int32.toInt_mul, hc]; exact zbm h0 h1
theorem zt_rem {a b : Int32} {c : Int} (hc : b.toInt = c) (h0 : 0 < c) (h1 : 0 ≤ a.toInt) : (a - a / b * b).toInt = a.toInt % c := by
  have hb : b.toInt ≠ 0 := by omega
  have e1 : (a / b).toInt = a.toInt.tdiv b.toInt := by
    rw [Int32.toInt_div]
    have h2 := Int32.toInt_lt a
    have h3 : (0 : Int) ≤ a.toInt.tdiv b.toInt := Int.tdiv_nonneg h1 (by omega)
    have h4 : a.toInt.tdiv b.toInt ≤ a.toInt := Int.tdiv_le_self _ h1
    exact zbm (by omega) (by omega)
  have h2 := Int32.toInt_lt a
  have h5 : a.toInt.tdiv b.toInt * b.toInt = a.toInt - a.toInt % c := by
    rw [hc, Int.tdiv_eq_ediv_of_nonneg h1]
    have := Int.mul_ediv_add_emod a.toInt c
    rw [Int.mul_comm]; omega
  have h6 := Int.emod_nonneg a.toInt (by omega : c ≠ 0)
  have h7 : a.toInt % c ≤ a.toInt := by
    have h8 := Int.mul_ediv_add_emod a.toInt c
    have h9 : 0 ≤ c * (a.toInt / c) := Int.mul_nonneg (by omega) (Int.ediv_nonneg h1 (by omega))
    omega
  have e2 : (a / b * b).toInt = a.toInt - a.toInt % c := by
    rw [Int32.toInt_mul, e1, h5]
    exact zbm (by omega) (by omega)
  rw [Int32.toInt_sub, e2, zbm (by omega) (by omega)]
  omega
/-! booleans as ints -/
theorem znar_n (x : Int32) : narrow .boolean (.int x) = .int (vp_nar .boolean x) := rfl
theorem znz {x : Int32} (h : vp_nar .boolean x = x) : narrow .boolean (.int x) = .int x := by rw [znar_n, h]
theorem znb {x : Int32} (h : x = 0 ∨ x = 1) : narrow .boolean (.int x) = .int x := by rcases h with rfl | rfl <;> rfl
theorem znar_01 (x : Int32) : vp_nar .boolean x = 0 ∨ vp_nar .boolean x = 1 := by
  have e : vp_nar .boolean x = x &&& 1 := rfl
  obtain ⟨j, hj, e2⟩ := pk_andE x (m := 1) 1 rfl
  rw [e, e2]
  match j, hj with
  | 0, _ => exact Or.inl rfl
  | 1, _ => exact Or.inr rfl
theorem znar_idem (x : Int32) : vp_nar .boolean (vp_nar .boolean x) = vp_nar .boolean x := by rcases znar_01 x with h | h <;> rw [h] <;> rfl
theorem zbz {x : Int32} (h : vp_nar .boolean x = x) : x = 0 ∨ x = 1 := by rw [← h]; exact znar_01 x
theorem zib_upd {f : Nat → Int32} {k : Nat} {x : Int32} (h : ∀ j, vp_nar .boolean (f j) = f j) (hx : vp_nar .boolean x = x) : ∀ j, vp_nar .boolean (upd f k x j) = upd f k x j := by
  intro j
  unfold upd
  split
  · exact hx
  · exact h j
theorem zip_upd {f : Nat → Int32} {k : Nat} {x : Int32} (h : ∀ j, 0 ≤ (f j).toInt ∧ (f j).toInt ≤ 2) (hx : 0 ≤ x.toInt ∧ x.toInt ≤ 2) : ∀ j, 0 ≤ (upd f k x j).toInt ∧ (upd f k x j).toInt ≤ 2 := by
  intro j
  unfold upd
  split
  · exact hx
  · exact h j
theorem zw_nil (w : va_W) : w = [] ++ (w ++ []) := by simp
/-- at a point of a method: the world, the locals, the place, the operand stack -/
def zW (p : Program) (l : Launch) (e : Env) (R : Room) (s : State) (m : MethodId) (args : Array Value) (below : List Frame) (meth : Method) (c : Code) (cells slots : Nat) (Q : State → Prop) (D : va_G) (A : Nat → Prop) (nL : Nat) (ws : va_W) (lv : List (Nat × Value)) (pc : Nat) (st : List Value) : Prop :=
  ∀ (H : Heap) (locs : List Loc) (ls : Array Slot), va_P D vwCl ws H → va_D A ws → va_S A s.heap H locs → lv_has ls nL lv → W p l e R s m args below meth c H locs cells slots Q (F0 m pc ls st)
/-- what stays so from a method's start to its end -/
def zF (p : Program) (m : MethodId) (c : Code) (cc : ByteArray) (nL : Nat) (s : State) (args : Array Value) (Ts : List Cond) (own : String) (D : va_G) (tys : List (ClassId × FieldType)) (A : Nat → Prop) : Prop :=
  CallFix p m c cc nL s args Ts own ∧ va_K D vwCl tys s ∧ (∀ q, s.heap.size ≤ q → A q) ∧ zSt A s s.heap
section ZI
variable {p : Program} {l : Launch} {e : Env} {R : Room} {s : State} {m : MethodId} {args : Array Value} {below : List Frame} {meth : Method} {c : Code} {cells slots : Nat} {Q : State → Prop}
variable {cc : ByteArray} {nL : Nat} {Ts : List Cond} {own : String} {D : va_G} {tys : List (ClassId × FieldType)} {A : Nat → Prop} {ws ws' : va_W} {lv lv' : List (Nat × Value)} {st : List Value} {pc : Nat}
theorem zi_iconst (F : zF p m c cc nL s args Ts own D tys A) {n : Int} {v : Int32} (hdg : decode cc pc = .ok (.iconst n, 1)) (hv : Int32.ofInt n = v) (k : zW p l e R s m args below meth c cells slots Q D A nL ws lv (pc + 1) (.int v :: st)) : zW p l e R s m args below meth c cells slots Q D A nL ws lv pc st := fun H locs ls hP hD hS hl => lv_iconst F.1.1 F.1.2.1 hdg hv (k H locs ls hP hD hS hl)
theorem zi_bipush (F : zF p m c cc nL s args Ts own D tys A) {n : Int} {v : Int32} (hdg : decode cc pc = .ok (.bipush n, 2)) (hv : (Int8.ofInt n).toInt32 = v) (k : zW p l e R s m args below meth c cells slots Q D A nL ws lv (pc + 2) (.int v :: st)) : zW p l e R s m args below meth c cells slots Q D A nL ws lv pc st := fun H locs ls hP hD hS hl => lv_bipush F.1.1 F.1.2.1 hdg hv (k H locs ls hP hD hS hl)
theorem zi_sipush (F : zF p m c cc nL s args Ts own D tys A) {n : Int} {v : Int32} (hdg : decode cc pc = .ok (.sipush n, 3)) (hv : (Int16.ofInt n).toInt32 = v) (k : zW p l e R s m args below meth c cells slots Q D A nL ws lv (pc + 3) (.int v :: st)) : zW p l e R s m args below meth c cells slots Q D A nL ws lv pc st := fun H locs ls hP hD hS hl => lv_sipush F.1.1 F.1.2.1 hdg hv (k H locs ls hP hD hS hl)
theorem zi_lconst (F : zF p m c cc nL s args Ts own D tys A) {n : Fin 2} {v : Int64} (hdg : decode cc pc = .ok (.lconst n, 1)) (hv : Int64.ofNat (n : Nat) = v) (k : zW p l e R s m args below meth c cells slots Q D A nL ws lv (pc + 1) (.long v :: st)) : zW p l e R s m args below meth c cells slots Q D A nL ws lv pc st := fun H locs ls hP hD hS hl => lv_lconst F.1.1 F.1.2.1 hdg hv (k H locs ls hP hD hS hl)
theorem zi_iload_n (F : zF p m c cc nL s args Ts own D tys A) {k9 : Fin 4} {x : Int32} (hdg : decode cc pc = .ok (.iload_n k9, 1)) (j : Nat) (hj : lv[j]? = some ((k9 : Nat), .int x)) (k : zW p l e R s m args below meth c cells slots Q D A nL ws lv (pc + 1) (.int x :: st)) : zW p l e R s m args below meth c cells slots Q D A nL ws lv pc st := fun H locs ls hP hD hS hl => lv_iload_n F.1.1 F.1.2.1 hdg rfl (lv_at hl j hj) (k H locs ls hP hD hS hl)
theorem zi_iload (F : zF p m c cc nL s args Ts own D tys A) {i : Nat} {x : Int32} (hdg : decode cc pc = .ok (.iload i, 2)) (j : Nat) (hj : lv[j]? = some (i, .int x)) (k : zW p l e R s m args below meth c cells slots Q D A nL ws lv (pc + 2) (.int x :: st)) : zW p l e R s m args below meth c cells slots Q D A nL ws lv pc st := fun H locs ls hP hD hS hl => lv_iload F.1.1 F.1.2.1 hdg (lv_at hl j hj) (k H locs ls hP hD hS hl)
theorem zi_istore_n (F : zF p m c cc nL s args Ts own D tys A) {k9 : Fin 4} {x : Int32} (hdg : decode cc pc = .ok (.istore_n k9, 1)) (hn : (k9 : Nat) < nL) (hlv : zput lv k9 (.int x) = lv') (k : zW p l e R s m args below meth c cells slots Q D A nL ws lv' (pc + 1) st) : zW p l e R s m args below meth c cells slots Q D A nL ws lv pc (.int x :: st) := fun H locs ls hP hD hS hl => lv_istore_n F.1.1 F.1.2.1 hdg rfl hl hn rfl (fun ls1 h1 => k H locs ls1 hP hD hS (zhas_mem h1 (fun q hq => zput_mem lv k9 _ q (by rw [hlv]; exact hq))))
theorem zi_istore (F : zF p m c cc nL s args Ts own D tys A) {i : Nat} {x : Int32} (hdg : decode cc pc = .ok (.istore i, 2)) (hn : i < nL) (hlv : zput lv i (.int x) = lv') (k : zW p l e R s m args below meth c cells slots Q D A nL ws lv' (pc + 2) st) : zW p l e R s m args below meth c cells slots Q D A nL ws lv pc (.int x :: st) := fun H locs ls hP hD hS hl => lv_istore F.1.1 F.1.2.1 hdg hl hn rfl (fun ls1 h1 => k H locs ls1 hP hD hS (zhas_mem h1 (fun q hq => zput_mem lv i _ q (by rw [hlv]; exact hq))))
theorem zi_aload_n (F : zF p m c cc nL s args Ts own D tys A) {k9 : Fin 4} {x : Nat} (hdg : decode cc pc = .ok (.aload_n k9, 1)) (j : Nat) (hj : lv[j]? = some ((k9 : Nat), .ref x)) (k : zW p l e R s m args below meth c cells slots Q D A nL ws lv (pc + 1) (.ref x :: st)) : zW p l e R s m args below meth c cells slots Q D A nL ws lv pc st := fun H locs ls hP hD hS hl => lv_aload_n F.1.1 F.1.2.1 hdg rfl (lv_at hl j hj) (k H locs ls hP hD hS hl)
theorem zi_aload (F : zF p m c cc nL s args Ts own D tys A) {i : Nat} {x : Nat} (hdg : decode cc pc = .ok (.aload i, 2)) (j : Nat) (hj : lv[j]? = some (i, .ref x)) (k : zW p l e R s m args below meth c cells slots Q D A nL ws lv (pc + 2) (.ref x :: st)) : zW p l e R s m args below meth c cells slots Q D A nL ws lv pc st := fun H locs ls hP hD hS hl => lv_aload F.1.1 F.1.2.1 hdg (lv_at hl j hj) (k H locs ls hP hD hS hl)
theorem zi_astore_n (F : zF p m c cc nL s args Ts own D tys A) {k9 : Fin 4} {x : Nat} (hdg : decode cc pc = .ok (.astore_n k9, 1)) (hn : (k9 : Nat) < nL) (hlv : zput lv k9 (.ref x) = lv') (k : zW p l e R s m args below meth c cells slots Q D A nL ws lv' (pc + 1) st) : zW p l e R s m args below meth c cells slots Q D A nL ws lv pc (.ref x :: st) := fun H locs ls hP hD hS hl => lv_astore_n F.1.1 F.1.2.1 hdg rfl hl hn rfl (fun ls1 h1 => k H locs ls1 hP hD hS (zhas_mem h1 (fun q hq => zput_mem lv k9 _ q (by rw [hlv]; exact hq))))
theorem zi_astore (F : zF p m c cc nL s args Ts own D tys A) {i : Nat} {x : Nat} (hdg : decode cc pc = .ok (.astore i, 2)) (hn : i < nL) (hlv : zput lv i (.ref x) = lv') (k : zW p l e R s m args below meth c cells slots Q D A nL ws lv' (pc + 2) st) : zW p l e R s m args below meth c cells slots Q D A nL ws lv pc (.ref x :: st) := fun H locs ls hP hD hS hl => lv_astore F.1.1 F.1.2.1 hdg hl hn rfl (fun ls1 h1 => k H locs ls1 hP hD hS (zhas_mem h1 (fun q hq => zput_mem lv i _ q (by rw [hlv]; exact hq))))
theorem zi_iinc (F : zF p m c cc nL s args Ts own D tys A) {i : Nat} {n : Int} {x v : Int32} (hdg : decode cc pc = .ok (.iinc i n, 3)) (j : Nat) (hj : lv[j]? = some (i, .int x)) (hv : x + Int32.ofInt n = v) (hn : i < nL) (hlv : zput lv i (.int v) = lv') (k : zW p l e R s m args below meth c cells slots Q D A nL ws lv' (pc + 3) st) : zW p l e R s m args below meth c cells slots Q D A nL ws lv pc st := fun H locs ls hP hD hS hl => lv_iinc F.1.1 F.1.2.1 hdg hl hj hv hn rfl (fun ls1 h1 => k H locs ls1 hP hD hS (zhas_mem h1 (fun q hq => zput_mem lv i _ q (by rw [hlv]; exact hq))))
theorem zi_iadd (F : zF p m c cc nL s args Ts own D tys A) {x y : Int32} (hdg : decode cc pc = .ok (.iadd, 1)) (k : zW p l e R s m args below meth c cells slots Q D A nL ws lv (pc + 1) (.int (x + y) :: st)) : zW p l e R s m args below meth c cells slots Q D A nL ws lv pc (.int y :: .int x :: st) := fun H locs ls hP hD hS hl => lv_iadd F.1.1 F.1.2.1 hdg (k H locs ls hP hD hS hl)
theorem zi_isub (F : zF p m c cc nL s args Ts own D tys A) {x y : Int32} (hdg : decode cc pc = .ok (.isub, 1)) (k : zW p l e R s m args below meth c cells slots Q D A nL ws lv (pc + 1) (.int (x - y) :: st)) : zW p l e R s m args below meth c cells slots Q D A nL ws lv pc (.int y :: .int x :: st) := fun H locs ls hP hD hS hl => lv_isub F.1.1 F.1.2.1 hdg (k H locs ls hP hD hS hl)
theorem zi_imul (F : zF p m c cc nL s args Ts own D tys A) {x y : Int32} (hdg : decode cc pc = .ok (.imul, 1)) (k : zW p l e R s m args below meth c cells slots Q D A nL ws lv (pc + 1) (.int (x * y) :: st)) : zW p l e R s m args below meth c cells slots Q D A nL ws lv pc (.int y :: .int x :: st) := fun H locs ls hP hD hS hl => lv_imul F.1.1 F.1.2.1 hdg (k H locs ls hP hD hS hl)
theorem zi_iand (F : zF p m c cc nL s args Ts own D tys A) {x y : Int32} (hdg : decode cc pc = .ok (.iand, 1)) (k : zW p l e R s m args below meth c cells slots Q D A nL ws lv (pc + 1) (.int (x &&& y) :: st)) : zW p l e R s m args below meth c cells slots Q D A nL ws lv pc (.int y :: .int x :: st) := fun H locs ls hP hD hS hl => lv_iand F.1.1 F.1.2.1 hdg (k H locs ls hP hD hS hl)
theorem zi_ior (F : zF p m c cc nL s args Ts own D tys A) {x y : Int32} (hdg : decode cc pc = .ok (.ior, 1)) (k : zW p l e R s m args below meth c cells slots Q D A nL ws lv (pc + 1) (.int (x ||| y) :: st)) : zW p l e R s m args below meth c cells slots Q D A nL ws lv pc (.int y :: .int x :: st) := fun H locs ls hP hD hS hl => lv_ior F.1.1 F.1.2.1 hdg (k H locs ls hP hD hS hl)
theorem zi_ishl (F : zF p m c cc nL s args Ts own D tys A) {x y : Int32} (hdg : decode cc pc = .ok (.ishl, 1)) (k : zW p l e R s m args below meth c cells slots Q D A nL ws lv (pc + 1) (.int (x <<< (y &&& 31)) :: st)) : zW p l e R s m args below meth c cells slots Q D A nL ws lv pc (.int y :: .int x :: st) := fun H locs ls hP hD hS hl => lv_ishl F.1.1 F.1.2.1 hdg (k H locs ls hP hD hS hl)
theorem zi_irem (F : zF p m c cc nL s args Ts own D tys A) {x y : Int32} (hdg : decode cc pc = .ok (.irem, 1)) (hne : ¬ y = 0) (k : zW p l e R s m args below meth c cells slots Q D A nL ws lv (pc + 1) (.int (x - x / y * y) :: st)) : zW p l e R s m args below meth c cells slots Q D A nL ws lv pc (.int y :: .int x :: st) := fun H locs ls hP hD hS hl => lv_irem F.1.1 F.1.2.1 hdg hne (k H locs ls hP hD hS hl)
theorem zi_ineg (F : zF p m c cc nL s args Ts own D tys A) {x : Int32} (hdg : decode cc pc = .ok (.ineg, 1)) (k : zW p l e R s m args below meth c cells slots Q D A nL ws lv (pc + 1) (.int (-x) :: st)) : zW p l e R s m args below meth c cells slots Q D A nL ws lv pc (.int x :: st) := fun H locs ls hP hD hS hl => lv_ineg F.1.1 F.1.2.1 hdg (k H locs ls hP hD hS hl)
theorem zi_i2l (F : zF p m c cc nL s args Ts own D tys A) {x : Int32} (hdg : decode cc pc = .ok (.i2l, 1)) (k : zW p l e R s m args below meth c cells slots Q D A nL ws lv (pc + 1) (.long x.toInt64 :: st)) : zW p l e R s m args below meth c cells slots Q D A nL ws lv pc (.int x :: st) := fun H locs ls hP hD hS hl => lv_i2l F.1.1 F.1.2.1 hdg rfl (k H locs ls hP hD hS hl)
theorem zi_dup (F : zF p m c cc nL s args Ts own D tys A) {v : Value} (hdg : decode cc pc = .ok (.dup, 1)) (hv : v.category = 1) (k : zW p l e R s m args below meth c cells slots Q D A nL ws lv (pc + 1) (v :: v :: st)) : zW p l e R s m args below meth c cells slots Q D A nL ws lv pc (v :: st) := fun H locs ls hP hD hS hl => lv_dup F.1.1 F.1.2.1 hdg hv (k H locs ls hP hD hS hl)
theorem zi_dup2 (F : zF p m c cc nL s args Ts own D tys A) {v w : Value} (hdg : decode cc pc = .ok (.dup2, 1)) (hv : v.category = 1) (hw : w.category = 1) (k : zW p l e R s m args below meth c cells slots Q D A nL ws lv (pc + 1) (v :: w :: v :: w :: st)) : zW p l e R s m args below meth c cells slots Q D A nL ws lv pc (v :: w :: st) := fun H locs ls hP hD hS hl => lv_dup2_11 F.1.1 F.1.2.1 hdg hv hw (k H locs ls hP hD hS hl)
theorem zi_dup_x1 (F : zF p m c cc nL s args Ts own D tys A) {v w : Value} (hdg : decode cc pc = .ok (.dup_x1, 1)) (hv : v.category = 1) (hw : w.category = 1) (k : zW p l e R s m args below meth c cells slots Q D A nL ws lv (pc + 1) (v :: w :: v :: st)) : zW p l e R s m args below meth c cells slots Q D A nL ws lv pc (v :: w :: st) := fun H locs ls hP hD hS hl => lv_dup_x1 F.1.1 F.1.2.1 hdg hv hw (k H locs ls hP hD hS hl)
theorem zi_pop (F : zF p m c cc nL s args Ts own D tys A) {v : Value} (hdg : decode cc pc = .ok (.pop, 1)) (hv : v.category = 1) (k : zW p l e R s m args below meth c cells slots Q D A nL ws lv (pc + 1) st) : zW p l e R s m args below meth c cells slots Q D A nL ws lv pc (v :: st) := fun H locs ls hP hD hS hl => lv_pop F.1.1 F.1.2.1 hdg hv (k H locs ls hP hD hS hl)
theorem zi_goto (F : zF p m c cc nL s args Ts own D tys A) {off : Int} {tgt : Nat} (hdg : decode cc pc = .ok (.goto off, 3)) (ht : (pc : Int) + off = (tgt : Int)) (k : zW p l e R s m args below meth c cells slots Q D A nL ws lv tgt st) : zW p l e R s m args below meth c cells slots Q D A nL ws lv pc st := fun H locs ls hP hD hS hl => lv_goto F.1.1 F.1.2.1 hdg ht (k H locs ls hP hD hS hl)
theorem zi_if_eq (F : zF p m c cc nL s args Ts own D tys A) {x : Int32} {off : Int} {tgt : Nat} (hdg : decode cc pc = .ok (.ifCond .eq off, 3)) (ht : (pc : Int) + off = (tgt : Int)) (kt : x = 0 → zW p l e R s m args below meth c cells slots Q D A nL ws lv tgt st) (kf : ¬ x = 0 → zW p l e R s m args below meth c cells slots Q D A nL ws lv (pc + 3) st) : zW p l e R s m args below meth c cells slots Q D A nL ws lv pc (.int x :: st) := fun H locs ls hP hD hS hl => lv_if_eq F.1.1 F.1.2.1 hdg ht (fun h => kt h H locs ls hP hD hS hl) (fun h => kf h H locs ls hP hD hS hl)
theorem zi_icmp_eq (F : zF p m c cc nL s args Ts own D tys A) {x y : Int32} {off : Int} {tgt : Nat} (hdg : decode cc pc = .ok (.if_icmp .eq off, 3)) (ht : (pc : Int) + off = (tgt : Int)) (kt : x = y → zW p l e R s m args below meth c cells slots Q D A nL ws lv tgt st) (kf : ¬ x = y → zW p l e R s m args below meth c cells slots Q D A nL ws lv (pc + 3) st) : zW p l e R s m args below meth c cells slots Q D A nL ws lv pc (.int y :: .int x :: st) := fun H locs ls hP hD hS hl => lv_icmp_eq F.1.1 F.1.2.1 hdg ht (fun h => kt h H locs ls hP hD hS hl) (fun h => kf h H locs ls hP hD hS hl)
theorem zi_if_ne (F : zF p m c cc nL s args Ts own D tys A) {x : Int32} {off : Int} {tgt : Nat} (hdg : decode cc pc = .ok (.ifCond .ne off, 3)) (ht : (pc : Int) + off = (tgt : Int)) (kt : ¬ x = 0 → zW p l e R s m args below meth c cells slots Q D A nL ws lv tgt st) (kf : x = 0 → zW p l e R s m args below meth c cells slots Q D A nL ws lv (pc + 3) st) : zW p l e R s m args below meth c cells slots Q D A nL ws lv pc (.int x :: st) := fun H locs ls hP hD hS hl => lv_if_ne F.1.1 F.1.2.1 hdg ht (fun h => kt h H locs ls hP hD hS hl) (fun h => kf h H locs ls hP hD hS hl)
theorem zi_icmp_ne (F : zF p m c cc nL s args Ts own D tys A) {x y : Int32} {off : Int} {tgt : Nat} (hdg : decode cc pc = .ok (.if_icmp .ne off, 3)) (ht : (pc : Int) + off = (tgt : Int)) (kt : ¬ x = y → zW p l e R s m args below meth c cells slots Q D A nL ws lv tgt st) (kf : x = y → zW p l e R s m args below meth c cells slots Q D A nL ws lv (pc + 3) st) : zW p l e R s m args below meth c cells slots Q D A nL ws lv pc (.int y :: .int x :: st) := fun H locs ls hP hD hS hl => lv_icmp_ne F.1.1 F.1.2.1 hdg ht (fun h => kt h H locs ls hP hD hS hl) (fun h => kf h H locs ls hP hD hS hl)
theorem zi_if_lt (F : zF p m c cc nL s args Ts own D tys A) {x : Int32} {off : Int} {tgt : Nat} (hdg : decode cc pc = .ok (.ifCond .lt off, 3)) (ht : (pc : Int) + off = (tgt : Int)) (kt : x < 0 → zW p l e R s m args below meth c cells slots Q D A nL ws lv tgt st) (kf : ¬ x < 0 → zW p l e R s m args below meth c cells slots Q D A nL ws lv (pc + 3) st) : zW p l e R s m args below meth c cells slots Q D A nL ws lv pc (.int x :: st) := fun H locs ls hP hD hS hl => lv_if_lt F.1.1 F.1.2.1 hdg ht (fun h => kt h H locs ls hP hD hS hl) (fun h => kf h H locs ls hP hD hS hl)
theorem zi_icmp_lt (F : zF p m c cc nL s args Ts own D tys A) {x y : Int32} {off : Int} {tgt : Nat} (hdg : decode cc pc = .ok (.if_icmp .lt off, 3)) (ht : (pc : Int) + off = (tgt : Int)) (kt : x < y → zW p l e R s m args below meth c cells slots Q D A nL ws lv tgt st) (kf : ¬ x < y → zW p l e R s m args below meth c cells slots Q D A nL ws lv (pc + 3) st) : zW p l e R s m args below meth c cells slots Q D A nL ws lv pc (.int y :: .int x :: st) := fun H locs ls hP hD hS hl => lv_icmp_lt F.1.1 F.1.2.1 hdg ht (fun h => kt h H locs ls hP hD hS hl) (fun h => kf h H locs ls hP hD hS hl)
theorem zi_if_ge (F : zF p m c cc nL s args Ts own D tys A) {x : Int32} {off : Int} {tgt : Nat} (hdg : decode cc pc = .ok (.ifCond .ge off, 3)) (ht : (pc : Int) + off = (tgt : Int)) (kt : 0 ≤ x → zW p l e R s m args below meth c cells slots Q D A nL ws lv tgt st) (kf : ¬ 0 ≤ x → zW p l e R s m args below meth c cells slots Q D A nL ws lv (pc + 3) st) : zW p l e R s m args below meth c cells slots Q D A nL ws lv pc (.int x :: st) := fun H locs ls hP hD hS hl => lv_if_ge F.1.1 F.1.2.1 hdg ht (fun h => kt h H locs ls hP hD hS hl) (fun h => kf h H locs ls hP hD hS hl)
theorem zi_icmp_ge (F : zF p m c cc nL s args Ts own D tys A) {x y : Int32} {off : Int} {tgt : Nat} (hdg : decode cc pc = .ok (.if_icmp .ge off, 3)) (ht : (pc : Int) + off = (tgt : Int)) (kt : y ≤ x → zW p l e R s m args below meth c cells slots Q D A nL ws lv tgt st) (kf : ¬ y ≤ x → zW p l e R s m args below meth c cells slots Q D A nL ws lv (pc + 3) st) : zW p l e R s m args below meth c cells slots Q D A nL ws lv pc (.int y :: .int x :: st) := fun H locs ls hP hD hS hl => lv_icmp_ge F.1.1 F.1.2.1 hdg ht (fun h => kt h H locs ls hP hD hS hl) (fun h => kf h H locs ls hP hD hS hl)
theorem zi_if_gt (F : zF p m c cc nL s args Ts own D tys A) {x : Int32} {off : Int} {tgt : Nat} (hdg : decode cc pc = .ok (.ifCond .gt off, 3)) (ht : (pc : Int) + off = (tgt : Int)) (kt : 0 < x → zW p l e R s m args below meth c cells slots Q D A nL ws lv tgt st) (kf : ¬ 0 < x → zW p l e R s m args below meth c cells slots Q D A nL ws lv (pc + 3) st) : zW p l e R s m args below meth c cells slots Q D A nL ws lv pc (.int x :: st) := fun H locs ls hP hD hS hl => lv_if_gt F.1.1 F.1.2.1 hdg ht (fun h => kt h H locs ls hP hD hS hl) (fun h => kf h H locs ls hP hD hS hl)
theorem zi_icmp_gt (F : zF p m c cc nL s args Ts own D tys A) {x y : Int32} {off : Int} {tgt : Nat} (hdg : decode cc pc = .ok (.if_icmp .gt off, 3)) (ht : (pc : Int) + off = (tgt : Int)) (kt : y < x → zW p l e R s m args below meth c cells slots Q D A nL ws lv tgt st) (kf : ¬ y < x → zW p l e R s m args below meth c cells slots Q D A nL ws lv (pc + 3) st) : zW p l e R s m args below meth c cells slots Q D A nL ws lv pc (.int y :: .int x :: st) := fun H locs ls hP hD hS hl => lv_icmp_gt F.1.1 F.1.2.1 hdg ht (fun h => kt h H locs ls hP hD hS hl) (fun h => kf h H locs ls hP hD hS hl)
theorem zi_if_le (F : zF p m c cc nL s args Ts own D tys A) {x : Int32} {off : Int} {tgt : Nat} (hdg : decode cc pc = .ok (.ifCond .le off, 3)) (ht : (pc : Int) + off = (tgt : Int)) (kt : x ≤ 0 → zW p l e R s m args below meth c cells slots Q D A nL ws lv tgt st) (kf : ¬ x ≤ 0 → zW p l e R s m args below meth c cells slots Q D A nL ws lv (pc + 3) st) : zW p l e R s m args below meth c cells slots Q D A nL ws lv pc (.int x :: st) := fun H locs ls hP hD hS hl => lv_if_le F.1.1 F.1.2.1 hdg ht (fun h => kt h H locs ls hP hD hS hl) (fun h => kf h H locs ls hP hD hS hl)
theorem zi_icmp_le (F : zF p m c cc nL s args Ts own D tys A) {x y : Int32} {off : Int} {tgt : Nat} (hdg : decode cc pc = .ok (.if_icmp .le off, 3)) (ht : (pc : Int) + off = (tgt : Int)) (kt : x ≤ y → zW p l e R s m args below meth c cells slots Q D A nL ws lv tgt st) (kf : ¬ x ≤ y → zW p l e R s m args below meth c cells slots Q D A nL ws lv (pc + 3) st) : zW p l e R s m args below meth c cells slots Q D A nL ws lv pc (.int y :: .int x :: st) := fun H locs ls hP hD hS hl => lv_icmp_le F.1.1 F.1.2.1 hdg ht (fun h => kt h H locs ls hP hD hS hl) (fun h => kf h H locs ls hP hD hS hl)
theorem zi_tableOut (F : zF p m c cc nL s args Ts own D tys A) {dflt lo hi : Int} {offs : Array Int} {len : Nat} {x : Int32} {tgt : Nat} (hdg : decode cc pc = .ok (.tableswitch dflt lo hi offs, len)) (h : x.toInt < lo ∨ hi < x.toInt) (ht : (pc : Int) + dflt = (tgt : Int)) (k : zW p l e R s m args below meth c cells slots Q D A nL ws lv tgt st) : zW p l e R s m args below meth c cells slots Q D A nL ws lv pc (.int x :: st) := fun H locs ls hP hD hS hl => lv_tableOut F.1.1 F.1.2.1 hdg h ht (k H locs ls hP hD hS hl)
theorem zi_tableIn (F : zF p m c cc nL s args Ts own D tys A) {dflt lo hi : Int} {offs : Array Int} {len : Nat} {x : Int32} {off : Int} {tgt : Nat} (hdg : decode cc pc = .ok (.tableswitch dflt lo hi offs, len)) (h1 : ¬ x.toInt < lo) (h2 : ¬ hi < x.toInt) (ho : offs[(x.toInt - lo).toNat]? = some off) (ht : (pc : Int) + off = (tgt : Int)) (k : zW p l e R s m args below meth c cells slots Q D A nL ws lv tgt st) : zW p l e R s m args below meth c cells slots Q D A nL ws lv pc (.int x :: st) := fun H locs ls hP hD hS hl => lv_tableIn F.1.1 F.1.2.1 hdg h1 h2 ho ht (k H locs ls hP hD hS hl)
theorem zi_lookup (F : zF p m c cc nL s args Ts own D tys A) {dflt : Int} {ps : Array (Int × Int)} {len : Nat} {x : Int32} {off : Int} {tgt : Nat} (hdg : decode cc pc = .ok (.lookupswitch dflt ps, len)) (hp : (ps.toList.zip (ps.toList.drop 1)).all (fun (a, next) => a.1 < next.1) = true) (ho : Op.lookupswitch.offset ps.toList dflt x.toInt = off) (ht : (pc : Int) + off = (tgt : Int)) (k : zW p l e R s m args below meth c cells slots Q D A nL ws lv tgt st) : zW p l e R s m args below meth c cells slots Q D A nL ws lv pc (.int x :: st) := fun H locs ls hP hD hS hl => lv_lookup F.1.1 F.1.2.1 hdg hp ho ht (k H locs ls hP hD hS hl)
theorem zi_topi {x : Int32} (k : ∀ y : Int32, x = y → zW p l e R s m args below meth c cells slots Q D A nL ws lv pc (.int y :: st)) : zW p l e R s m args below meth c cells slots Q D A nL ws lv pc (.int x :: st) := k x rfl
theorem zi_nameW {w : zS_t → va_W} {S : zS_t} (k : ∀ S1 : zS_t, S = S1 → zW p l e R s m args below meth c cells slots Q D A nL (w S1) lv pc st) : zW p l e R s m args below meth c cells slots Q D A nL (w S) lv pc st := k S rfl
theorem zi_sub {lw : List (Nat × Value)} (ks : List Nat) (hlw : lv_pick lv ks = lw) (k : zW p l e R s m args below meth c cells slots Q D A nL ws lw pc st) : zW p l e R s m args below meth c cells slots Q D A nL ws lv pc st := fun H locs ls hP hD hS hl => k H locs ls hP hD hS (lv_sub hl ks hlw)
theorem zi_get (F : zF p m c cc nL s args Ts own D tys A) {a index ci N : Nat} {ref C : String} {T : u_T} {fs : List Value} {v : Value} (hin : ∀ w ∈ u_ws C T N, w ∈ Ts) (q0 : Nat) (he : ws[q0]? = some (a, .inr (ci, fs))) (hc : vwCl[ci]? = some (C, T, N)) (k9 : Nat) (hk : k9 < N) (hlink : Cond.fieldLink own index ref (T k9).2.1 (T k9).2.2.1 ∈ Ts) (href : ref = (T k9).1) (hv : fs[k9]? = some v) (hdg : decode cc pc = .ok (.getfield index, 3)) (k : zW p l e R s m args below meth c cells slots Q D A nL ws lv (pc + 3) (v :: st)) : zW p l e R s m args below meth c cells slots Q D A nL ws lv pc (.ref a :: st) := fun H locs ls hP hD hS hl =>
  va_get F.1.1 F.1.2.1 F.1.2.2.2.2 hin F.1.2.2.2.1 F.2.1 hP q0 he hc k9 hk (F.1.2.2.2.2 _ hlink) (fun x h => by rw [href]; exact h) hv hdg (k H locs ls hP hD hS hl)
theorem zi_put (F : zF p m c cc nL s args Ts own D tys A) {a index ci N : Nat} {ref C : String} {T : u_T} {fs : List Value} {v : Value} {ty : FieldType} (hin : ∀ w ∈ u_ws C T N, w ∈ Ts) (ty0 : Nat → FieldType) (hty : ∀ k, k < N → parseFieldDescriptor (T k).2.2.1 = some (ty0 k)) (hnm : ∀ a, a < N → ∀ b, b < N → a ≠ b → (T a).2.1 ≠ (T b).2.1) (q0 : Nat) (he : ws[q0]? = some (a, .inr (ci, fs))) (hc : vwCl[ci]? = some (C, T, N)) (k9 : Nat) (hk : k9 < N) (hlink : Cond.fieldLink own index ref (T k9).2.1 (T k9).2.2.1 ∈ Ts) (href : ref = (T k9).1) (hfin : (T k9).2.2.2 = false) (ht0 : ty0 k9 = ty) (hn : narrow ty v = v) (hfit : fits ty v = true) (hlen : k9 < fs.length) (hws : ws.set q0 (a, .inr (ci, fs.set k9 v)) = ws') (hdg : decode cc pc = .ok (.putfield index, 3)) (k : zW p l e R s m args below meth c cells slots Q D A nL ws' lv (pc + 3) st) : zW p l e R s m args below meth c cells slots Q D A nL ws lv pc (v :: .ref a :: st) := fun H locs ls hP hD hS hl =>
  va_put F.1.1 F.1.2.1 F.1.2.2.2.2 hin ty0 hty hnm F.1.2.2.2.1 F.2.1 hP hD hS q0 he hc k9 hk (F.1.2.2.2.2 _ hlink) (fun x h => by rw [href]; exact h) hfin (by rw [← ht0]; exact hty k9 hk) hn hfit hlen hdg (fun H1 locs1 hP1 hD1 hS1 => k H1 locs1 ls (hws ▸ hP1) (hws ▸ hD1) hS1 hl)
theorem zi_putF (F : zF p m c cc nL s args Ts own D tys A) (hmn : meth.name = "<init>") {a index ci N : Nat} {ref C : String} {T : u_T} {fs : List Value} {v : Value} {ty : FieldType} (hin : ∀ w ∈ u_ws C T N, w ∈ Ts) (ty0 : Nat → FieldType) (hty : ∀ k, k < N → parseFieldDescriptor (T k).2.2.1 = some (ty0 k)) (hnm : ∀ a, a < N → ∀ b, b < N → a ≠ b → (T a).2.1 ≠ (T b).2.1) (q0 : Nat) (he : ws[q0]? = some (a, .inr (ci, fs))) (hc : vwCl[ci]? = some (C, T, N)) (k9 : Nat) (hk : k9 < N) (hlink : Cond.fieldLink own index ref (T k9).2.1 (T k9).2.2.1 ∈ Ts) (href : ref = (T k9).1) (hfin : (T k9).2.2.2 = true) (hdecl : (T k9).1 = own) (ht0 : ty0 k9 = ty) (hn : narrow ty v = v) (hfit : fits ty v = true) (hlen : k9 < fs.length) (hws : ws.set q0 (a, .inr (ci, fs.set k9 v)) = ws') (hdg : decode cc pc = .ok (.putfield index, 3)) (k : zW p l e R s m args below meth c cells slots Q D A nL ws' lv (pc + 3) st) : zW p l e R s m args below meth c cells slots Q D A nL ws lv pc (v :: .ref a :: st) := fun H locs ls hP hD hS hl =>
  va_putF F.1.1 F.1.2.1 F.1.2.2.2.2 hin ty0 hty hnm F.1.2.2.2.1 F.2.1 hP hD hS q0 he hc k9 hk (F.1.2.2.2.2 _ hlink) (fun x h => by rw [href]; exact h) hfin hmn hdecl (by rw [← ht0]; exact hty k9 hk) hn hfit hlen hdg (fun H1 locs1 hP1 hD1 hS1 => k H1 locs1 ls (hws ▸ hP1) (hws ▸ hD1) hS1 hl)
theorem zi_iald (F : zF p m c cc nL s args Ts own D tys A) {a n : Nat} {cA : ClassId} {f : Nat → Int32} {i v : Int32} (q0 t0 : Nat) (ha : ws[q0]? = some (a, .inl (cA, n, .inl f))) (ht : tys[t0]? = some (cA, .int)) (hin : vp_in i n) (hv : f i.toNatClampNeg = v) (hdg : decode cc pc = .ok (.iaload, 1)) (k : zW p l e R s m args below meth c cells slots Q D A nL ws lv (pc + 1) (.int v :: st)) : zW p l e R s m args below meth c cells slots Q D A nL ws lv pc (.int i :: .ref a :: st) := fun H locs ls hP hD hS hl =>
  va_iald F.1.1 F.1.2.1 F.2.1 hP q0 t0 ha ht hin hdg (by rw [hv]; exact k H locs ls hP hD hS hl)
theorem zi_zald (F : zF p m c cc nL s args Ts own D tys A) {a n : Nat} {cA : ClassId} {f : Nat → Int32} {i v : Int32} (q0 t0 : Nat) (ha : ws[q0]? = some (a, .inl (cA, n, .inl f))) (ht : tys[t0]? = some (cA, .boolean)) (hin : vp_in i n) (hv : f i.toNatClampNeg = v) (hdg : decode cc pc = .ok (.baload, 1)) (k : zW p l e R s m args below meth c cells slots Q D A nL ws lv (pc + 1) (.int v :: st)) : zW p l e R s m args below meth c cells slots Q D A nL ws lv pc (.int i :: .ref a :: st) := fun H locs ls hP hD hS hl =>
  va_zald F.1.1 F.1.2.1 F.2.1 hP q0 t0 ha ht hin hdg (by rw [hv]; exact k H locs ls hP hD hS hl)
theorem zi_iast (F : zF p m c cc nL s args Ts own D tys A) {a n : Nat} {cA : ClassId} {f : Nat → Int32} {i x : Int32} (q0 t0 : Nat) (ha : ws[q0]? = some (a, .inl (cA, n, .inl f))) (ht : tys[t0]? = some (cA, .int)) (hin : vp_in i n) (hws : ws.set q0 (a, .inl (cA, n, .inl (upd f i.toNatClampNeg x))) = ws') (hdg : decode cc pc = .ok (.iastore, 1)) (k : zW p l e R s m args below meth c cells slots Q D A nL ws' lv (pc + 1) st) : zW p l e R s m args below meth c cells slots Q D A nL ws lv pc (.int x :: .int i :: .ref a :: st) := fun H locs ls hP hD hS hl =>
  va_iast F.1.1 F.1.2.1 F.2.1 hP hD hS q0 t0 ha ht hin hdg (fun H1 locs1 hP1 hD1 hS1 => k H1 locs1 ls (hws ▸ hP1) (hws ▸ hD1) hS1 hl)
theorem zi_zast (F : zF p m c cc nL s args Ts own D tys A) {a n : Nat} {cA : ClassId} {f : Nat → Int32} {i x : Int32} (q0 t0 : Nat) (ha : ws[q0]? = some (a, .inl (cA, n, .inl f))) (ht : tys[t0]? = some (cA, .boolean)) (hin : vp_in i n) (hws : ws.set q0 (a, .inl (cA, n, .inl (upd f i.toNatClampNeg (vp_nar .boolean x)))) = ws') (hdg : decode cc pc = .ok (.bastore, 1)) (k : zW p l e R s m args below meth c cells slots Q D A nL ws' lv (pc + 1) st) : zW p l e R s m args below meth c cells slots Q D A nL ws lv pc (.int x :: .int i :: .ref a :: st) := fun H locs ls hP hD hS hl =>
  va_zast F.1.1 F.1.2.1 F.2.1 hP hD hS q0 t0 ha ht hin hdg (fun H1 locs1 hP1 hD1 hS1 => k H1 locs1 ls (hws ▸ hP1) (hws ▸ hD1) hS1 hl)
/-- a place of one of the two static tables -/
theorem zi_tab (F : zF p m c cc nL s args Ts own D tys A) {n : String} {xs : List Int32} {index : Nat} {i : Int32} (hT : zTb n xs A s s.heap) (hlink : Cond.fieldLink own index "LayeredTable" n "[I" ∈ Ts) (j : Nat) {k9 : Fin 4} (hj : lv[j]? = some ((k9 : Nat), .int i)) (hin : vp_in i 14) (hdg : decode cc pc = .ok (.getstatic index, 3)) (hd2 : decode cc (pc + 3) = .ok (.iload_n k9, 1)) (hd3 : decode cc (pc + 4) = .ok (.iaload, 1)) (k : zW p l e R s m args below meth c cells slots Q D A nL ws lv (pc + 5) (.int (xs.getD i.toNatClampNeg 0) :: st)) : zW p l e R s m args below meth c cells slots Q D A nL ws lv pc st := fun H locs ls hP hD hS hl => by
  obtain ⟨t, h1, h2⟩ := hT
  refine va_gets F.1.1 F.1.2.1 h1 hS F.1.2.2.2.1 (F.1.2.2.2.2 _ hlink) (fun _ h => h) hdg ?_
  refine lv_iload_n F.1.1 F.1.2.1 hd2 rfl (lv_at hl j hj) ?_
  exact va_ti F.1.1 F.1.2.1 h2 hS hin rfl hd3 (k H locs ls hP hD hS hl)
theorem zi_callVI (F : zF p m c cc nL s args Ts own D tys A) {y : MethodName} {bytes : ByteArray} {maxL index n b : Nat} {ret : Option FieldType} {wy : List Cond} {rm : Room} {C : String} {As rest : List Value} {Wc Wn : va_W} {r : Int32} (hM : zCI l D tys y wy rm (.ref b :: As) Wc r Wn) (cw : CallW R s args own C index y bytes maxL ret wy rm 0 0 n) (q0 : Nat) {ci : Nat} {fs : List Value} {vc : u_T × Nat} (hq : Wc[q0]? = some (b, .inr (ci, fs))) (hc : vwCl[ci]? = some (C, vc)) (w1 w2 : va_W) (hws : ws = w1 ++ (Wc ++ w2)) (hwn : w1 ++ (Wn ++ w2) = ws') (hn : As.length = n) (hst : st = As.reverse ++ .ref b :: rest) (hrm : (rest.map fun v => v.category).sum ≤ 8) (hdg : decode cc pc = .ok (.invokevirtual index, 3)) (hR : cells ≤ R.cells ∧ slots ≤ R.slots) (k : zW p l e R s m args below meth c cells slots Q D A nL ws' lv (pc + 3) (.int r :: rest)) : zW p l e R s m args below meth c cells slots Q D A nL ws lv pc st := fun H locs ls hP hD hS hl => by
  subst hws
  subst hst
  have hPc := zcutP hP
  have hDc := zcutD hD
  have hFc := zfree hD hS F.2.2.1
  refine va_calli (va_runV (As := As) (rest := rest) F.1 (hM H.size) cw ⟨zB_blind, va_recv F.2.1 hPc hc hq, fun U hU hW => ⟨rfl, by rw [hU], by rw [hU]; exact hPc, va_K.moved hW.alike F.2.1, hDc.weaken (fun _ _ _ _ => trivial), by rw [hU]; exact zSt.to F.2.2.2 hW hS.2.1 hFc⟩⟩ rfl hn hl.1 rfl (lv_room hrm) hdg hR) hS (fun q _ h => hFc q h) hFc (fun r1 u t H1 locs1 ht hvm hw9 hB hz1 hk1 hS1 => ?_)
  subst hw9
  obtain ⟨hP1, hD1⟩ := hB
  rw [ht] at hP1
  obtain ⟨hP2, hD2⟩ := zjoin hP hD hk1 hFc hP1 hD1
  exact k H1 locs1 ls (hwn ▸ hP2) (hwn ▸ hD2) hS1 hl
theorem zi_callVV (F : zF p m c cc nL s args Ts own D tys A) {y : MethodName} {bytes : ByteArray} {maxL index n b : Nat} {ret : Option FieldType} {wy : List Cond} {rm : Room} {C : String} {As rest : List Value} {Wc Wn : va_W}  (hM : zCV l D tys y wy rm (.ref b :: As) Wc Wn) (cw : CallW R s args own C index y bytes maxL ret wy rm 0 0 n) (q0 : Nat) {ci : Nat} {fs : List Value} {vc : u_T × Nat} (hq : Wc[q0]? = some (b, .inr (ci, fs))) (hc : vwCl[ci]? = some (C, vc)) (w1 w2 : va_W) (hws : ws = w1 ++ (Wc ++ w2)) (hwn : w1 ++ (Wn ++ w2) = ws') (hn : As.length = n) (hst : st = As.reverse ++ .ref b :: rest) (hrm : (rest.map fun v => v.category).sum ≤ 8) (hdg : decode cc pc = .ok (.invokevirtual index, 3)) (hR : cells ≤ R.cells ∧ slots ≤ R.slots) (k : zW p l e R s m args below meth c cells slots Q D A nL ws' lv (pc + 3) rest) : zW p l e R s m args below meth c cells slots Q D A nL ws lv pc st := fun H locs ls hP hD hS hl => by
  subst hws
  subst hst
  have hPc := zcutP hP
  have hDc := zcutD hD
  have hFc := zfree hD hS F.2.2.1
  refine va_callv (va_runV (As := As) (rest := rest) F.1 (hM H.size) cw ⟨zB_blind, va_recv F.2.1 hPc hc hq, fun U hU hW => ⟨rfl, by rw [hU], by rw [hU]; exact hPc, va_K.moved hW.alike F.2.1, hDc.weaken (fun _ _ _ _ => trivial), by rw [hU]; exact zSt.to F.2.2.2 hW hS.2.1 hFc⟩⟩ rfl hn hl.1 rfl (lv_room hrm) hdg hR) hS (fun q _ h => hFc q h) hFc (fun u t H1 locs1 ht hvm hw9 hB hz1 hk1 hS1 => ?_)
  obtain ⟨hP1, hD1⟩ := hB
  rw [ht] at hP1
  obtain ⟨hP2, hD2⟩ := zjoin hP hD hk1 hFc hP1 hD1
  exact k H1 locs1 ls (hwn ▸ hP2) (hwn ▸ hD2) hS1 hl
theorem zi_callSI (F : zF p m c cc nL s args Ts own D tys A) {y : MethodName} {bytes : ByteArray} {maxL index n : Nat} {ret : Option FieldType} {wy : List Cond} {rm : Room}  {As rest : List Value} {Wc Wn : va_W} {r : Int32} (hM : zCI l D tys y wy rm As Wc r Wn) (cw : CallB R s args own index y bytes maxL ret wy rm 0 0 n ∧ (Cond.static y).before args s = true) (w1 w2 : va_W) (hws : ws = w1 ++ (Wc ++ w2)) (hwn : w1 ++ (Wn ++ w2) = ws') (hn : As.length = n) (hst : st = As.reverse ++ rest) (hrm : (rest.map fun v => v.category).sum ≤ 8) (hdg : decode cc pc = .ok (.invokestatic index, 3)) (hR : cells ≤ R.cells ∧ slots ≤ R.slots) (k : zW p l e R s m args below meth c cells slots Q D A nL ws' lv (pc + 3) (.int r :: rest)) : zW p l e R s m args below meth c cells slots Q D A nL ws lv pc st := fun H locs ls hP hD hS hl => by
  subst hws
  subst hst
  have hPc := zcutP hP
  have hDc := zcutD hD
  have hFc := zfree hD hS F.2.2.1
  refine va_calli (va_runS (As := As) (rest := rest) F.1 (hM H.size) cw ⟨zB_blind, fun U hU hW => ⟨rfl, by rw [hU], by rw [hU]; exact hPc, va_K.moved hW.alike F.2.1, hDc.weaken (fun _ _ _ _ => trivial), by rw [hU]; exact zSt.to F.2.2.2 hW hS.2.1 hFc⟩⟩ rfl hn hl.1 rfl (lv_room hrm) hdg hR) hS (fun q _ h => hFc q h) hFc (fun r1 u t H1 locs1 ht hvm hw9 hB hz1 hk1 hS1 => ?_)
  subst hw9
  obtain ⟨hP1, hD1⟩ := hB
  rw [ht] at hP1
  obtain ⟨hP2, hD2⟩ := zjoin hP hD hk1 hFc hP1 hD1
  exact k H1 locs1 ls (hwn ▸ hP2) (hwn ▸ hD2) hS1 hl
theorem zi_callSV (F : zF p m c cc nL s args Ts own D tys A) {y : MethodName} {bytes : ByteArray} {maxL index n : Nat} {ret : Option FieldType} {wy : List Cond} {rm : Room}  {As rest : List Value} {Wc Wn : va_W}  (hM : zCV l D tys y wy rm As Wc Wn) (cw : CallB R s args own index y bytes maxL ret wy rm 0 0 n ∧ (Cond.static y).before args s = true) (w1 w2 : va_W) (hws : ws = w1 ++ (Wc ++ w2)) (hwn : w1 ++ (Wn ++ w2) = ws') (hn : As.length = n) (hst : st = As.reverse ++ rest) (hrm : (rest.map fun v => v.category).sum ≤ 8) (hdg : decode cc pc = .ok (.invokestatic index, 3)) (hR : cells ≤ R.cells ∧ slots ≤ R.slots) (k : zW p l e R s m args below meth c cells slots Q D A nL ws' lv (pc + 3) rest) : zW p l e R s m args below meth c cells slots Q D A nL ws lv pc st := fun H locs ls hP hD hS hl => by
  subst hws
  subst hst
  have hPc := zcutP hP
  have hDc := zcutD hD
  have hFc := zfree hD hS F.2.2.1
  refine va_callv (va_runS (As := As) (rest := rest) F.1 (hM H.size) cw ⟨zB_blind, fun U hU hW => ⟨rfl, by rw [hU], by rw [hU]; exact hPc, va_K.moved hW.alike F.2.1, hDc.weaken (fun _ _ _ _ => trivial), by rw [hU]; exact zSt.to F.2.2.2 hW hS.2.1 hFc⟩⟩ rfl hn hl.1 rfl (lv_room hrm) hdg hR) hS (fun q _ h => hFc q h) hFc (fun u t H1 locs1 ht hvm hw9 hB hz1 hk1 hS1 => ?_)
  obtain ⟨hP1, hD1⟩ := hB
  rw [ht] at hP1
  obtain ⟨hP2, hD2⟩ := zjoin hP hD hk1 hFc hP1 hD1
  exact k H1 locs1 ls (hwn ▸ hP2) (hwn ▸ hD2) hS1 hl
theorem zi_callNI (F : zF p m c cc nL s args Ts own D tys A) {y : MethodName} {bytes : ByteArray} {maxL index n : Nat} {ret : Option FieldType} {wy : List Cond} {rm : Room} {host : String} {As rest : List Value} {Wc Wn : va_W} {r : Int32} (hM : zCI l D tys y wy rm As Wc r Wn) (cw : va_CN R s args own index y host bytes maxL ret wy rm 0 0 n ∧ (Cond.static y).before args s = true ∧ True) (w1 w2 : va_W) (hws : ws = w1 ++ (Wc ++ w2)) (hwn : w1 ++ (Wn ++ w2) = ws') (hn : As.length = n) (hst : st = As.reverse ++ rest) (hrm : (rest.map fun v => v.category).sum ≤ 8) (hdg : decode cc pc = .ok (.invokestatic index, 3)) (hR : cells ≤ R.cells ∧ slots ≤ R.slots) (k : zW p l e R s m args below meth c cells slots Q D A nL ws' lv (pc + 3) (.int r :: rest)) : zW p l e R s m args below meth c cells slots Q D A nL ws lv pc st := fun H locs ls hP hD hS hl => by
  subst hws
  subst hst
  have hPc := zcutP hP
  have hDc := zcutD hD
  have hFc := zfree hD hS F.2.2.1
  refine va_calli (va_runSN (As := As) (rest := rest) F.1 (hM H.size) cw ⟨zB_blind, fun U hU hW => ⟨rfl, by rw [hU], by rw [hU]; exact hPc, va_K.moved hW.alike F.2.1, hDc.weaken (fun _ _ _ _ => trivial), by rw [hU]; exact zSt.to F.2.2.2 hW hS.2.1 hFc⟩⟩ rfl hn hl.1 rfl (lv_room hrm) hdg hR) hS (fun q _ h => hFc q h) hFc (fun r1 u t H1 locs1 ht hvm hw9 hB hz1 hk1 hS1 => ?_)
  subst hw9
  obtain ⟨hP1, hD1⟩ := hB
  rw [ht] at hP1
  obtain ⟨hP2, hD2⟩ := zjoin hP hD hk1 hFc hP1 hD1
  exact k H1 locs1 ls (hwn ▸ hP2) (hwn ▸ hD2) hS1 hl
theorem zi_callNV (F : zF p m c cc nL s args Ts own D tys A) {y : MethodName} {bytes : ByteArray} {maxL index n : Nat} {ret : Option FieldType} {wy : List Cond} {rm : Room} {host : String} {As rest : List Value} {Wc Wn : va_W}  (hM : zCV l D tys y wy rm As Wc Wn) (cw : va_CN R s args own index y host bytes maxL ret wy rm 0 0 n ∧ (Cond.static y).before args s = true ∧ True) (w1 w2 : va_W) (hws : ws = w1 ++ (Wc ++ w2)) (hwn : w1 ++ (Wn ++ w2) = ws') (hn : As.length = n) (hst : st = As.reverse ++ rest) (hrm : (rest.map fun v => v.category).sum ≤ 8) (hdg : decode cc pc = .ok (.invokestatic index, 3)) (hR : cells ≤ R.cells ∧ slots ≤ R.slots) (k : zW p l e R s m args below meth c cells slots Q D A nL ws' lv (pc + 3) rest) : zW p l e R s m args below meth c cells slots Q D A nL ws lv pc st := fun H locs ls hP hD hS hl => by
  subst hws
  subst hst
  have hPc := zcutP hP
  have hDc := zcutD hD
  have hFc := zfree hD hS F.2.2.1
  refine va_callv (va_runSN (As := As) (rest := rest) F.1 (hM H.size) cw ⟨zB_blind, fun U hU hW => ⟨rfl, by rw [hU], by rw [hU]; exact hPc, va_K.moved hW.alike F.2.1, hDc.weaken (fun _ _ _ _ => trivial), by rw [hU]; exact zSt.to F.2.2.2 hW hS.2.1 hFc⟩⟩ rfl hn hl.1 rfl (lv_room hrm) hdg hR) hS (fun q _ h => hFc q h) hFc (fun u t H1 locs1 ht hvm hw9 hB hz1 hk1 hS1 => ?_)
  obtain ⟨hP1, hD1⟩ := hB
  rw [ht] at hP1
  obtain ⟨hP2, hD2⟩ := zjoin hP hD hk1 hFc hP1 hD1
  exact k H1 locs1 ls (hwn ▸ hP2) (hwn ▸ hD2) hS1 hl
end ZI
theorem zb_I {l : Launch} {D : va_G} {tys : List (ClassId × FieldType)} {y : MethodName} {wy wr : List Cond} {rm : Room} {av : List Value} {W0 W1 : va_W} {r : Int32} {cc : ByteArray} {maxL : Nat} (hy : plainName y.cls = true) (hw : wy = Cond.code y cc maxL (some .int) :: wr) (hav : (lg_sl av).length ≤ maxL)
    (body : ∀ (p : Program) (e : Env) (s : State) (m : MethodId) (args : Array Value) (below : List Frame) (meth : Method) (c : Code) (Q : State → Prop) (A : Nat → Prop), zF p m c cc maxL s args wy y.cls D tys A → (∀ (pc : Nat) (lv : List (Nat × Value)), decode cc pc = .ok (.ireturn, 1) → zW p l e rm s m args below meth c 0 0 Q D A maxL W1 lv pc [.int r]) → zW p l e rm s m args below meth c 0 0 Q D A maxL W0 (lv_args 0 av) 0 []) : zCI l D tys y wy rm av W0 r W1 := by
  intro sz
  refine Met.ofW (cc := cc) (maxL := maxL) (ret := (some .int)) hy hw ?_
  intro p e s m args below meth c s₁ B hml hv
  obtain ⟨rfl, hsz, hP, hK, hD0, hst⟩ := hv
  subst hsz
  have hD := hD0.self (sz := s.heap.size)
  have hl := lv_entry av (n := maxL) hav
  rw [lg_entry_eq]
  refine body p e s m _ below meth c _ _ ⟨⟨B.exec, B.bytes, hml, findClass_of_methodNamed B.named, atoms_spec (ws := wy) B.pre⟩, hK, fun q h => Or.inr h, hst⟩ ?_ s.heap [] _ hP hD va_S.rf hl
  intro pc lv hdg H locs ls hP1 hD1 hS1 hl1
  exact W.iret (v := r) B.exec B.bytes B.returns (fun t ht hW => ⟨⟨r, (), rfl, rfl, by rw [ht]; exact hP1, hD1⟩, hS1.F ht⟩) hS1.2.2 hdg
theorem zb_Z {l : Launch} {D : va_G} {tys : List (ClassId × FieldType)} {y : MethodName} {wy wr : List Cond} {rm : Room} {av : List Value} {W0 W1 : va_W} {r : Int32} {cc : ByteArray} {maxL : Nat} (hy : plainName y.cls = true) (hw : wy = Cond.code y cc maxL (some .boolean) :: wr) (hav : (lg_sl av).length ≤ maxL)
    (body : ∀ (p : Program) (e : Env) (s : State) (m : MethodId) (args : Array Value) (below : List Frame) (meth : Method) (c : Code) (Q : State → Prop) (A : Nat → Prop), zF p m c cc maxL s args wy y.cls D tys A → (∀ (pc : Nat) (lv : List (Nat × Value)), decode cc pc = .ok (.ireturn, 1) → narrow .boolean (.int r) = .int r → zW p l e rm s m args below meth c 0 0 Q D A maxL W1 lv pc [.int r]) → zW p l e rm s m args below meth c 0 0 Q D A maxL W0 (lv_args 0 av) 0 []) : zCI l D tys y wy rm av W0 r W1 := by
  intro sz
  refine Met.ofW (cc := cc) (maxL := maxL) (ret := (some .boolean)) hy hw ?_
  intro p e s m args below meth c s₁ B hml hv
  obtain ⟨rfl, hsz, hP, hK, hD0, hst⟩ := hv
  subst hsz
  have hD := hD0.self (sz := s.heap.size)
  have hl := lv_entry av (n := maxL) hav
  rw [lg_entry_eq]
  refine body p e s m _ below meth c _ _ ⟨⟨B.exec, B.bytes, hml, findClass_of_methodNamed B.named, atoms_spec (ws := wy) B.pre⟩, hK, fun q h => Or.inr h, hst⟩ ?_ s.heap [] _ hP hD va_S.rf hl
  intro pc lv hdg hn9 H locs ls hP1 hD1 hS1 hl1
  exact W.zret (v := r) (ty := .boolean) B.exec B.bytes B.returns hn9 (fun t ht hW => ⟨⟨r, (), rfl, rfl, by rw [ht]; exact hP1, hD1⟩, hS1.F ht⟩) hS1.2.2 hdg
theorem zb_V {l : Launch} {D : va_G} {tys : List (ClassId × FieldType)} {y : MethodName} {wy wr : List Cond} {rm : Room} {av : List Value} {W0 W1 : va_W} {cc : ByteArray} {maxL : Nat} (hy : plainName y.cls = true) (hw : wy = Cond.code y cc maxL none :: wr) (hav : (lg_sl av).length ≤ maxL)
    (body : ∀ (p : Program) (e : Env) (s : State) (m : MethodId) (args : Array Value) (below : List Frame) (meth : Method) (c : Code) (Q : State → Prop) (A : Nat → Prop), zF p m c cc maxL s args wy y.cls D tys A → (∀ (pc : Nat) (lv : List (Nat × Value)), decode cc pc = .ok (.return_, 1) → zW p l e rm s m args below meth c 0 0 Q D A maxL W1 lv pc []) → zW p l e rm s m args below meth c 0 0 Q D A maxL W0 (lv_args 0 av) 0 []) : zCV l D tys y wy rm av W0 W1 := by
  intro sz
  refine Met.ofW (cc := cc) (maxL := maxL) (ret := none) hy hw ?_
  intro p e s m args below meth c s₁ B hml hv
  obtain ⟨rfl, hsz, hP, hK, hD0, hst⟩ := hv
  subst hsz
  have hD := hD0.self (sz := s.heap.size)
  have hl := lv_entry av (n := maxL) hav
  rw [lg_entry_eq]
  refine body p e s m _ below meth c _ _ ⟨⟨B.exec, B.bytes, hml, findClass_of_methodNamed B.named, atoms_spec (ws := wy) B.pre⟩, hK, fun q h => Or.inr h, hst⟩ ?_ s.heap [] _ hP hD va_S.rf hl
  intro pc lv hdg H locs ls hP1 hD1 hS1 hl1
  exact W.vret B.exec B.bytes B.returns (fun t ht hW => ⟨⟨(), rfl, trivial, by rw [ht]; exact hP1, hD1⟩, hS1.F ht⟩) hS1.2.2 hdg
/-! the worlds of the game's objects and of the reference: G: kinds, kinds of arrays (int, boolean, int[]), addresses by object (0 the table game, 1 its things, 2 its entries, 3 its view, 4 its memory, 5 the memory's rows, 6 the reference) -/
abbrev zG_t : Type := va_G × (Nat → ClassId) × (Nat → Nat → Nat)
abbrev zty (G : zG_t) : List (ClassId × FieldType) := [(G.2.1 0, .int), (G.2.1 1, .boolean), (G.2.1 2, .array .int)]
def zWT (G : zG_t) (T : zS_t) : va_W := [(G.2.2 1 0, .inr (2, [.ref (G.2.2 1 1), .ref (G.2.2 1 2), .ref (G.2.2 1 3), .ref (G.2.2 1 4), .int (T 4 0)])), (G.2.2 1 1, .inl (G.2.1 0, 10, .inl (T 0))), (G.2.2 1 2, .inl (G.2.1 0, 10, .inl (T 1))), (G.2.2 1 3, .inl (G.2.1 0, 10, .inl (T 2))), (G.2.2 1 4, .inl (G.2.1 0, 10, .inl (T 3)))]
def zWE (G : zG_t) (E : zS_t) : va_W := [(G.2.2 2 0, .inr (0, [.ref (G.2.2 2 1), .ref (G.2.2 2 2), .ref (G.2.2 2 3), .ref (G.2.2 2 4), .ref (G.2.2 2 5), .int (E 5 0)])), (G.2.2 2 1, .inl (G.2.1 0, 12, .inl (E 0))), (G.2.2 2 2, .inl (G.2.1 1, 12, .inl (E 1))), (G.2.2 2 3, .inl (G.2.1 0, 12, .inl (E 2))), (G.2.2 2 4, .inl (G.2.1 0, 12, .inl (E 3))), (G.2.2 2 5, .inl (G.2.1 0, 12, .inl (E 4)))]
def zWV (G : zG_t) (V : zS_t) : va_W := [(G.2.2 3 0, .inr (3, [.ref (G.2.2 3 1), .ref (G.2.2 3 2), .ref (G.2.2 3 3), .ref (G.2.2 3 4), .ref (G.2.2 3 5)])), (G.2.2 3 1, .inl (G.2.1 0, 10, .inl (V 0))), (G.2.2 3 2, .inl (G.2.1 0, 10, .inl (V 1))), (G.2.2 3 3, .inl (G.2.1 0, 10, .inl (V 2))), (G.2.2 3 4, .inl (G.2.1 0, 10, .inl (V 3))), (G.2.2 3 5, .inl (G.2.1 0, 10, .inl (V 4)))]
def zWM0 (G : zG_t) (M : zS_t) : va_W := [(G.2.2 4 0, .inr (1, [.ref (G.2.2 4 1), .ref (G.2.2 4 2), .int (M 2 0), .int (M 3 0), .int (M 4 0)])), (G.2.2 4 1, .inl (G.2.1 0, 24, .inl (M 0))), (G.2.2 4 2, .inl (G.2.1 2, 40, .inr (.inr (.inr (.inr (fun i => if i < 40 then some (G.2.2 5 i) else none))))))]
def zWO (G : zG_t) (L : zS_t) : va_W := [(G.2.2 0 0, .inr (4, [.ref (G.2.2 0 1), .ref (G.2.2 1 0), .ref (G.2.2 2 0), .ref (G.2.2 3 0), .ref (G.2.2 4 0), .int (L 5 0), .int (L 6 0), .int (L 7 0), .int (L 8 0), .int (L 9 0), .int (L 10 0)])), (G.2.2 0 1, .inl (G.2.1 0, 3, .inl (L 0)))]
def zWR (G : zG_t) (R : zS_t) : va_W := [(G.2.2 6 0, .inr (5, [.int (R 0 0), .int (R 1 0), .int (R 2 0), .int (R 3 0), .int (R 4 0), .ref (G.2.2 6 1), .int (R 6 0), .ref (G.2.2 6 2), .ref (G.2.2 6 3), .ref (G.2.2 6 4), .ref (G.2.2 6 5), .int (R 11 0), .int (R 12 0), .ref (G.2.2 6 6), .ref (G.2.2 6 7), .ref (G.2.2 6 8), .ref (G.2.2 6 9), .ref (G.2.2 6 10), .ref (G.2.2 6 11), .ref (G.2.2 6 12), .ref (G.2.2 6 13), .ref (G.2.2 6 14), .ref (G.2.2 6 15), .int (R 23 0), .ref (G.2.2 6 16), .ref (G.2.2 6 17), .int (R 26 0)])), (G.2.2 6 1, .inl (G.2.1 0, 3, .inl (R 5))), (G.2.2 6 2, .inl (G.2.1 0, 10, .inl (R 7))), (G.2.2 6 3, .inl (G.2.1 0, 10, .inl (R 8))), (G.2.2 6 4, .inl (G.2.1 0, 10, .inl (R 9))), (G.2.2 6 5, .inl (G.2.1 0, 10, .inl (R 10))), (G.2.2 6 6, .inl (G.2.1 0, 12, .inl (R 13))), (G.2.2 6 7, .inl (G.2.1 1, 12, .inl (R 14))), (G.2.2 6 8, .inl (G.2.1 0, 12, .inl (R 15))), (G.2.2 6 9, .inl (G.2.1 0, 12, .inl (R 16))), (G.2.2 6 10, .inl (G.2.1 0, 12, .inl (R 17))), (G.2.2 6 11, .inl (G.2.1 0, 10, .inl (R 18))), (G.2.2 6 12, .inl (G.2.1 0, 10, .inl (R 19))), (G.2.2 6 13, .inl (G.2.1 0, 10, .inl (R 20))), (G.2.2 6 14, .inl (G.2.1 0, 10, .inl (R 21))), (G.2.2 6 15, .inl (G.2.1 0, 10, .inl (R 22))), (G.2.2 6 16, .inl (G.2.1 0, 960, .inl (R 24))), (G.2.2 6 17, .inl (G.2.1 0, 24, .inl (R 25)))]
def zWM (G : zG_t) (M K : zS_t) : va_W := zWM0 G M ++ (List.range 40).map (fun i => (G.2.2 5 i, .inl (G.2.1 0, 24, .inl (K i))))
def zWL (G : zG_t) (L T E V M K : zS_t) : va_W := zWO G L ++ (zWE G E ++ ((zWT G T ++ zWV G V) ++ zWM G M K))
theorem zwL_E (G : zG_t) (L T E V M K : zS_t) : zWL G L T E V M K = zWO G L ++ (zWE G E ++ ((zWT G T ++ zWV G V) ++ zWM G M K)) := rfl
theorem zwL_T (G : zG_t) (L T E V M K : zS_t) : zWL G L T E V M K = (zWO G L ++ zWE G E) ++ (zWT G T ++ (zWV G V ++ zWM G M K)) := by simp only [zWL, List.append_assoc]
theorem zwL_V (G : zG_t) (L T E V M K : zS_t) : zWL G L T E V M K = (zWO G L ++ zWE G E) ++ ((zWT G T ++ zWV G V) ++ zWM G M K) := by simp only [zWL, List.append_assoc]
theorem zwL_M (G : zG_t) (L T E V M K : zS_t) : zWL G L T E V M K = (zWO G L ++ (zWE G E ++ (zWT G T ++ zWV G V))) ++ (zWM G M K ++ []) := by simp only [zWL, List.append_assoc, List.append_nil]
def zIT (T : zS_t) : Prop := 0 ≤ (T 4 0).toInt ∧ (T 4 0).toInt ≤ 10
def zIE (E : zS_t) : Prop := (0 ≤ (E 5 0).toInt ∧ (E 5 0).toInt ≤ 12) ∧ (∀ j, vp_nar .boolean (E 1 j) = E 1 j)
def zIM (M : zS_t) : Prop := (0 ≤ (M 2 0).toInt ∧ (M 2 0).toInt ≤ 24) ∧ (0 ≤ (M 3 0).toInt ∧ (M 3 0).toInt ≤ 40) ∧ (0 ≤ (M 4 0).toInt ∧ (M 4 0).toInt ≤ 39)
def zIR (R : zS_t) : Prop := (0 ≤ (R 6 0).toInt ∧ (R 6 0).toInt ≤ 10) ∧ (0 ≤ (R 12 0).toInt ∧ (R 12 0).toInt ≤ 12) ∧ (0 ≤ (R 23 0).toInt ∧ (R 23 0).toInt ≤ 40) ∧ (0 ≤ (R 0 0).toInt ∧ (R 0 0).toInt ≤ 2) ∧ (0 ≤ (R 1 0).toInt ∧ (R 1 0).toInt ≤ 2) ∧ (∀ j, vp_nar .boolean (R 14 j) = R 14 j) ∧ (∀ j, 0 ≤ (R 15 j).toInt ∧ (R 15 j).toInt ≤ 2)
