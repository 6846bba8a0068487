/-! rows of the law's walk -/
section ZL
variable {p : Program} {l : Launch} {e : Env} {R : Room} {s : State} {m : MethodId} {args : Array Value} {below : List Frame} {meth : Method} {c : Code} {cells slots : Nat} {Q : State → Prop}
variable {cc : ByteArray} {nL : Nat} {Ts : List Cond} {own : String} {D : va_G} {tys : List (ClassId × FieldType)} {A : Nat → Prop} {ws ws' : va_W} {lv lv' : List (Nat × Value)} {st : List Value} {pc : Nat}
theorem zi_sld (F : zF p m c cc nL s args Ts own D tys A) {b L : Nat} {xs : Nat → Int32} (hX : va_X b L xs s s.heap) (hbl : b < s.heap.size) (hbA : ¬ A b) {i v : Int32} (hin : vp_in i L) (hv : xs i.toNatClampNeg = v) (hdg : decode cc pc = .ok (.iaload, 1)) (k : zW p l e R s m args below meth c cells slots Q D A nL ws lv (pc + 1) (.int v :: st)) : zW p l e R s m args below meth c cells slots Q D A nL ws lv pc (.int i :: .ref b :: st) := fun H locs ls hP hD hS hl =>
  va_sld F.1.1 F.1.2.1 hX hbl hbA hS hin hdg (by rw [hv]; exact k H locs ls hP hD hS hl)
theorem zi_slen (F : zF p m c cc nL s args Ts own D tys A) {b L : Nat} {xs : Nat → Int32} (hX : va_X b L xs s s.heap) (hbl : b < s.heap.size) (hbA : ¬ A b) (hdg : decode cc pc = .ok (.arraylength, 1)) (k : zW p l e R s m args below meth c cells slots Q D A nL ws lv (pc + 1) (.int (Int32.ofNat L) :: st)) : zW p l e R s m args below meth c cells slots Q D A nL ws lv pc (.ref b :: st) := fun H locs ls hP hD hS hl =>
  va_slen F.1.1 F.1.2.1 hX hbl hbA hS hdg (k H locs ls hP hD hS hl)
theorem zi_lcmp (F : zF p m c cc nL s args Ts own D tys A) {x y : Int64} (hdg : decode cc pc = .ok (.lcmp, 1)) (k : zW p l e R s m args below meth c cells slots Q D A nL ws lv (pc + 1) (.int (lg_cmp x y) :: st)) : zW p l e R s m args below meth c cells slots Q D A nL ws lv pc (.long y :: .long x :: st) := fun H locs ls hP hD hS hl => W.lcmp F.1.1 F.1.2.1 hdg (k H locs ls hP hD hS hl)
theorem zi_perm (hp : ws.Perm ws') (k : zW p l e R s m args below meth c cells slots Q D A nL ws' lv pc st) : zW p l e R s m args below meth c cells slots Q D A nL ws lv pc st := fun H locs ls hP hD hS hl => k H locs ls (zpermP hp hP) (zpermD hp hD) hS hl
theorem zi_widen {k9 n9 : Nat} (h1 : cells ≤ k9) (h2 : slots ≤ n9) (k : zW p l e R s m args below meth c k9 n9 Q D A nL ws lv pc st) : zW p l e R s m args below meth c cells slots Q D A nL ws lv pc st := fun H locs ls hP hD hS hl => W.widen h1 h2 (k H locs ls hP hD hS hl)
end ZL
theorem zcmp_self (x : Int64) : lg_cmp x x = 0 := by
  have h : ¬ x < x := fun h => by simp at h
  simp [lg_cmp]
theorem zk1_0 {x : Option String} (h : zk1 x = 0) : x = none := by
  unfold zk1 at h
  by_cases h9 : x = none
  · exact h9
  · rw [if_neg h9] at h; exact absurd h (by decide)
theorem zk2_0 {x : Option String} (h : zk2 x = 0) : x = none := by
  unfold zk2 at h
  by_cases h9 : x = none
  · exact h9
  · rw [if_neg h9] at h
    by_cases h8 : x = some "java/lang/IndexOutOfBoundsException"
    · rw [if_pos h8] at h; exact absurd h (by decide)
    · rw [if_neg h8] at h; exact absurd h (by decide)
theorem zot_at {x : Option String} {r : Int32} {f : Nat → Int64} (h : x = none) : zot x r f (0 : Int32).toNatClampNeg = r.toInt64 := by
  subst h
  simp [zot, vp_updL]
theorem zWq_L (G : zG_t) (oa : Nat) (f : Nat → Int64) (w r : va_W) : zWq G oa f (w ++ r) = [] ++ (zWq G oa f w ++ r) := rfl
theorem zWq_O (G : zG_t) (oa : Nat) (f : Nat → Int64) (w r : va_W) : zWq G oa f (w ++ r) = [(oa, .inl (G.2.1 3, 1, .inr (.inl f)))] ++ (w ++ r) := rfl
theorem zWq_R (G : zG_t) (oa : Nat) (f : Nat → Int64) (w r : va_W) : zWq G oa f (w ++ r) = ((oa, .inl (G.2.1 3, 1, .inr (.inl f))) :: w) ++ (r ++ []) := by rw [List.append_nil]; rfl
abbrev zRel_t : Type := Nat → zS_t → zS_t → zS_t → zS_t → zS_t → zS_t → zS_t → Prop
def zHinv (Rel : zRel_t) : Prop := ∀ (n : Nat) (L T E V M K R : zS_t), Rel n L T E V M K R → zIT T ∧ zIE E ∧ zIM M ∧ zIR R
def zAg_play (Rel : zRel_t) : Prop := ∀ (n : Nat) (card target : Int32) (L T E V M K R : zS_t), n < 512 → Rel n L T E V M K R → ∀ X Y, mX4_play card target L T E M = X → mX5_play card target R = Y → mX5_thrown Y.2 = zk2 X.1 ∧ (X.1 = none → Y.1 = X.2.1) ∧ Rel (n + 1) X.2.2.1 T X.2.2.2.1 V X.2.2.2.2 K Y.2
def zAg_obstacle (Rel : zRel_t) : Prop := ∀ (n : Nat) (card target : Int32) (L T E V M K R : zS_t), n < 512 → Rel n L T E V M K R → ∀ X Y, mX4_obstacle card target L T E = X → mX5_obstacle card target R = Y → mX5_thrown Y.2 = zk1 X.1 ∧ (X.1 = none → Y.1 = X.2) ∧ Rel (n + 1) L T E V M K Y.2
def zAg_pass (Rel : zRel_t) : Prop := ∀ (n : Nat) (L T E V M K R : zS_t), n < 512 → Rel n L T E V M K R → ∀ X Y, mX4_pass L T E V M K = X → mX5_pass R = Y → Y.1 = X.1 ∧ Rel (n + 1) X.2.1 X.2.2.1 X.2.2.2.1 X.2.2.2.2.1 X.2.2.2.2.2.1 X.2.2.2.2.2.2 Y.2
def zAg_settle (Rel : zRel_t) : Prop := ∀ (n : Nat) (entries : Int32) (L T E V M K R : zS_t), n < 512 → Rel n L T E V M K R → ∀ X Y, mX4_settle entries L T E V M K = X → mX5_settle entries R = Y → mX5_thrown Y.2 = zk1 X.1 ∧ (X.1 = none → Y.1 = X.2.1) ∧ Rel (n + 1) X.2.2.1 X.2.2.2.1 X.2.2.2.2.1 X.2.2.2.2.2.1 X.2.2.2.2.2.2.1 X.2.2.2.2.2.2.2 Y.2
def zAg_turn (Rel : zRel_t) : Prop := ∀ (n : Nat) (L T E V M K R : zS_t), n < 512 → Rel n L T E V M K R → ∀ X Y, mX4_turn L = X → mX5_turn R = Y → Y.1 = X ∧ Rel (n + 1) L T E V M K Y.2
def zAg_acting (Rel : zRel_t) : Prop := ∀ (n : Nat) (L T E V M K R : zS_t), n < 512 → Rel n L T E V M K R → ∀ X Y, mX4_acting L = X → mX5_acting R = Y → Y.1 = X ∧ Rel (n + 1) L T E V M K Y.2
def zAg_rounds (Rel : zRel_t) : Prop := ∀ (n : Nat) (L T E V M K R : zS_t), n < 512 → Rel n L T E V M K R → ∀ X Y, mX4_rounds L = X → mX5_rounds R = Y → Y.1 = X ∧ Rel (n + 1) L T E V M K Y.2
def zAg_loops (Rel : zRel_t) : Prop := ∀ (n : Nat) (L T E V M K R : zS_t), n < 512 → Rel n L T E V M K R → ∀ X Y, mX4_loops L = X → mX5_loops R = Y → Y.1 = X ∧ Rel (n + 1) L T E V M K Y.2
def zAg_coins (Rel : zRel_t) : Prop := ∀ (n : Nat) (player : Int32) (L T E V M K R : zS_t), n < 512 → Rel n L T E V M K R → ∀ X Y, mX4_coins player L = X → mX5_coins player R = Y → mX5_thrown Y.2 = zk1 X.1 ∧ (X.1 = none → Y.1 = X.2) ∧ Rel (n + 1) L T E V M K Y.2
def zAg_things (Rel : zRel_t) : Prop := ∀ (n : Nat) (L T E V M K R : zS_t), n < 512 → Rel n L T E V M K R → ∀ X Y, mX4_things T = X → mX5_things R = Y → Y.1 = X ∧ Rel (n + 1) L T E V M K Y.2
def zAg_cardOf (Rel : zRel_t) : Prop := ∀ (n : Nat) (place : Int32) (L T E V M K R : zS_t), n < 512 → Rel n L T E V M K R → ∀ X Y, mX4_cardOf place T = X → mX5_cardOf place R = Y → mX5_thrown Y.2 = zk1 X.1 ∧ (X.1 = none → Y.1 = X.2) ∧ Rel (n + 1) L T E V M K Y.2
def zAg_controllerOf (Rel : zRel_t) : Prop := ∀ (n : Nat) (place layer : Int32) (L T E V M K R : zS_t), n < 512 → Rel n L T E V M K R → ∀ X Y, mX4_controllerOf place layer T V = X → mX5_controllerOf place layer R = Y → mX5_thrown Y.2 = zk2 X.1 ∧ (X.1 = none → Y.1 = X.2.1) ∧ Rel (n + 1) L T E X.2.2 M K Y.2
def zAg_kindsOf (Rel : zRel_t) : Prop := ∀ (n : Nat) (place layer : Int32) (L T E V M K R : zS_t), n < 512 → Rel n L T E V M K R → ∀ X Y, mX4_kindsOf place layer T V = X → mX5_kindsOf place layer R = Y → mX5_thrown Y.2 = zk2 X.1 ∧ (X.1 = none → Y.1 = X.2.1) ∧ Rel (n + 1) L T E X.2.2 M K Y.2
def zAg_strengthOf (Rel : zRel_t) : Prop := ∀ (n : Nat) (place layer : Int32) (L T E V M K R : zS_t), n < 512 → Rel n L T E V M K R → ∀ X Y, mX4_strengthOf place layer T V = X → mX5_strengthOf place layer R = Y → mX5_thrown Y.2 = zk2 X.1 ∧ (X.1 = none → Y.1 = X.2.1) ∧ Rel (n + 1) L T E X.2.2 M K Y.2
def zAg_power (Rel : zRel_t) : Prop := ∀ (n : Nat) (player : Int32) (L T E V M K R : zS_t), n < 512 → Rel n L T E V M K R → ∀ X Y, mX4_power player T V = X → mX5_power player R = Y → mX5_thrown Y.2 = zk1 X.1 ∧ (X.1 = none → Y.1 = X.2.1) ∧ Rel (n + 1) L T E X.2.2 M K Y.2
def zAg_stack (Rel : zRel_t) : Prop := ∀ (n : Nat) (L T E V M K R : zS_t), n < 512 → Rel n L T E V M K R → ∀ X Y, mX4_stack E = X → mX5_stack R = Y → Y.1 = X ∧ Rel (n + 1) L T E V M K Y.2
def zAg_entryCard (Rel : zRel_t) : Prop := ∀ (n : Nat) (place : Int32) (L T E V M K R : zS_t), n < 512 → Rel n L T E V M K R → ∀ X Y, mX4_entryCard place E = X → mX5_entryCard place R = Y → mX5_thrown Y.2 = zk1 X.1 ∧ (X.1 = none → Y.1 = X.2) ∧ Rel (n + 1) L T E V M K Y.2
def zAg_isTrigger (Rel : zRel_t) : Prop := ∀ (n : Nat) (place : Int32) (L T E V M K R : zS_t), n < 512 → Rel n L T E V M K R → ∀ X Y, mX4_isTrigger place E = X → mX5_isTrigger place R = Y → mX5_thrown Y.2 = zk1 X.1 ∧ (X.1 = none → Y.1 = X.2) ∧ Rel (n + 1) L T E V M K Y.2
def zAg_entryPlayer (Rel : zRel_t) : Prop := ∀ (n : Nat) (place : Int32) (L T E V M K R : zS_t), n < 512 → Rel n L T E V M K R → ∀ X Y, mX4_entryPlayer place E = X → mX5_entryPlayer place R = Y → mX5_thrown Y.2 = zk1 X.1 ∧ (X.1 = none → Y.1 = X.2) ∧ Rel (n + 1) L T E V M K Y.2
def zAg_entryTarget (Rel : zRel_t) : Prop := ∀ (n : Nat) (place : Int32) (L T E V M K R : zS_t), n < 512 → Rel n L T E V M K R → ∀ X Y, mX4_entryTarget place T E = X → mX5_entryTarget place R = Y → mX5_thrown Y.2 = zk1 X.1 ∧ (X.1 = none → Y.1 = X.2) ∧ Rel (n + 1) L T E V M K Y.2
def zAg (Rel : zRel_t) : Prop := zAg_play Rel ∧ zAg_obstacle Rel ∧ zAg_pass Rel ∧ zAg_settle Rel ∧ zAg_turn Rel ∧ zAg_acting Rel ∧ zAg_rounds Rel ∧ zAg_loops Rel ∧ zAg_coins Rel ∧ zAg_things Rel ∧ zAg_cardOf Rel ∧ zAg_controllerOf Rel ∧ zAg_kindsOf Rel ∧ zAg_strengthOf Rel ∧ zAg_power Rel ∧ zAg_stack Rel ∧ zAg_entryCard Rel ∧ zAg_isTrigger Rel ∧ zAg_entryPlayer Rel ∧ zAg_entryTarget Rel
