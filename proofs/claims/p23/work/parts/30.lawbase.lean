/-! the law's own methods: what they ask, how they end, how they are called -/
def zPy (D : va_G) (tys : List (ClassId × FieldType)) (W0 : va_W) (sz : Nat) (U : State) : Prop := zB D tys W0 sz U ∧ zSx U ∧ zAOA U
theorem zPy_blind {D : va_G} {tys : List (ClassId × FieldType)} {W0 : va_W} {sz : Nat} {av : List Value} : FrameBlind (va_Pc av (zPy D tys W0 sz)) := by
  intro a U g mk q
  obtain ⟨q1, q2, q3, q4⟩ := q
  have h := zB_blind (D := D) (tys := tys) (W0 := W0) (sz := sz) (av := av) a U g mk ⟨q1, q2⟩
  exact ⟨q1, h.2, zSx.to (u := U) (U := U.calling g mk a) q3 (State.WarmedH.refl U), zAOA.moved (u := U) (U := U.calling g mk a) (Vm.Alike.refl U.vm) q4⟩
/-- a method of the law, called with av in the world W0: it answers r and throws nothing; the world is W1 then -/
def zNI (l : Launch) (D : va_G) (tys : List (ClassId × FieldType)) (y : MethodName) (wy : List Cond) (rm : Room) (av : List Value) (W0 : va_W) (r : Int32) (W1 : va_W) : Prop :=
  ∀ sz : Nat, vx_Met l y wy rm (va_Pc av (zPy D tys W0 sz)) (va_Qi (fun (x : Int32) (_ : Unit) => x = r) (fun _ t => zEnd D W1 (va_A W0 sz) t) (va_A W0 sz)) (vx_X (fun (_ : Unit) => True) (fun _ _ _ => False) (va_A W0 sz)) rm.cells rm.slots (va_A W0 sz)
theorem zn_I {l : Launch} {D : va_G} {tys : List (ClassId × FieldType)} {y : MethodName} {wy wr : List Cond} {rm : Room} {av : List Value} {W0 W1 : va_W} {r : Int32} {cc : ByteArray} {maxL : Nat} (hy : plainName y.cls = true) (hw : wy = Cond.code y cc maxL (some .int) :: wr) (hav : (lg_sl av).length ≤ maxL)
    (body : ∀ (p : Program) (e : Env) (s : State) (m : MethodId) (args : Array Value) (below : List Frame) (meth : Method) (c : Code) (Q : State → Prop) (A : Nat → Prop), zF p m c cc maxL s args wy y.cls D tys A → zSx s → zAOA s → 
      (∀ (pc : Nat) (lv : List (Nat × Value)) (cells slots : Nat), cells ≤ rm.cells → slots ≤ rm.slots → decode cc pc = .ok (.ireturn, 1) → zW p l e rm s m args below meth c cells slots Q D A maxL W1 lv pc [.int r]) →
      zW p l e rm s m args below meth c 0 0 Q D A maxL W0 (lv_args 0 av) 0 []) : zNI l D tys y wy rm av W0 r W1 := by
  intro sz
  refine vx_ofW (cc := cc) (maxL := maxL) (ret := (some .int)) hy hw ?_
  intro p e s m args below meth c s₁ B hml ht hv
  obtain ⟨rfl, ⟨hsz, hP, hK, hD0, hst⟩, hsx, hao⟩ := hv
  subst hsz
  have hD := hD0.self (sz := s.heap.size)
  have hl := lv_entry av (n := maxL) hav
  have hts := atoms_spec (ws := wy) B.pre
  rw [lg_entry_eq]
  refine body p e s m _ below meth c _ _ ⟨⟨B.exec, B.bytes, hml, findClass_of_methodNamed B.named, hts⟩, hK, fun q h => Or.inr h, hst⟩ hsx hao ?_ s.heap [] _ hP hD va_S.rf hl
  intro pc lv cells slots h1 h6 hdg H locs ls hP1 hD1 hS1 hl1
  refine W.widen (k := rm.cells) (n := rm.slots) h1 h6 (vx_ret ?_)
  exact W.iret (v := r) B.exec B.bytes B.returns (fun t ht hW => ⟨⟨r, (), rfl, rfl, by rw [ht]; exact hP1, hD1⟩, hS1.F ht⟩) hS1.2.2 hdg
theorem zn_Z {l : Launch} {D : va_G} {tys : List (ClassId × FieldType)} {y : MethodName} {wy wr : List Cond} {rm : Room} {av : List Value} {W0 W1 : va_W} {r : Int32} {cc : ByteArray} {maxL : Nat} (hy : plainName y.cls = true) (hw : wy = Cond.code y cc maxL (some .boolean) :: wr) (hav : (lg_sl av).length ≤ maxL)
    (body : ∀ (p : Program) (e : Env) (s : State) (m : MethodId) (args : Array Value) (below : List Frame) (meth : Method) (c : Code) (Q : State → Prop) (A : Nat → Prop), zF p m c cc maxL s args wy y.cls D tys A → zSx s → zAOA s → 
      (∀ (pc : Nat) (lv : List (Nat × Value)) (cells slots : Nat), cells ≤ rm.cells → slots ≤ rm.slots → decode cc pc = .ok (.ireturn, 1) → narrow .boolean (.int r) = .int r → zW p l e rm s m args below meth c cells slots Q D A maxL W1 lv pc [.int r]) →
      zW p l e rm s m args below meth c 0 0 Q D A maxL W0 (lv_args 0 av) 0 []) : zNI l D tys y wy rm av W0 r W1 := by
  intro sz
  refine vx_ofW (cc := cc) (maxL := maxL) (ret := (some .boolean)) hy hw ?_
  intro p e s m args below meth c s₁ B hml ht hv
  obtain ⟨rfl, ⟨hsz, hP, hK, hD0, hst⟩, hsx, hao⟩ := hv
  subst hsz
  have hD := hD0.self (sz := s.heap.size)
  have hl := lv_entry av (n := maxL) hav
  have hts := atoms_spec (ws := wy) B.pre
  rw [lg_entry_eq]
  refine body p e s m _ below meth c _ _ ⟨⟨B.exec, B.bytes, hml, findClass_of_methodNamed B.named, hts⟩, hK, fun q h => Or.inr h, hst⟩ hsx hao ?_ s.heap [] _ hP hD va_S.rf hl
  intro pc lv cells slots h1 h6 hdg hn9 H locs ls hP1 hD1 hS1 hl1
  refine W.widen (k := rm.cells) (n := rm.slots) h1 h6 (vx_ret ?_)
  exact W.zret (v := r) (ty := .boolean) B.exec B.bytes B.returns hn9 (fun t ht hW => ⟨⟨r, (), rfl, rfl, by rw [ht]; exact hP1, hD1⟩, hS1.F ht⟩) hS1.2.2 hdg
theorem zn_H {l : Launch} {D : va_G} {tys : List (ClassId × FieldType)} {y : MethodName} {wy wr : List Cond} {rm : Room} {av : List Value} {W0 W1 : va_W} {r : Int32} {cc : ByteArray} {maxL : Nat} {hh : List (Nat × Nat × Nat × Nat)} (hy : plainName y.cls = true) (hw : wy = Cond.codeWith y cc maxL (some .int) hh :: wr) (hav : (lg_sl av).length ≤ maxL)
    (body : ∀ (p : Program) (e : Env) (s : State) (m : MethodId) (args : Array Value) (below : List Frame) (meth : Method) (c : Code) (Q : State → Prop) (A : Nat → Prop), zF p m c cc maxL s args wy y.cls D tys A → zSx s → zAOA s → c.exceptionTable.toList = tableOf hh → 
      (∀ (pc : Nat) (lv : List (Nat × Value)) (cells slots : Nat), cells ≤ rm.cells → slots ≤ rm.slots → decode cc pc = .ok (.ireturn, 1) → zW p l e rm s m args below meth c cells slots Q D A maxL W1 lv pc [.int r]) →
      zW p l e rm s m args below meth c 0 0 Q D A maxL W0 (lv_args 0 av) 0 []) : zNI l D tys y wy rm av W0 r W1 := by
  intro sz
  refine vx_ofWH (cc := cc) (maxL := maxL) (ret := (some .int)) (hh := hh) hy hw ?_
  intro p e s m args below meth c s₁ B hml hv
  obtain ⟨rfl, ⟨hsz, hP, hK, hD0, hst⟩, hsx, hao⟩ := hv
  subst hsz
  have hD := hD0.self (sz := s.heap.size)
  have hl := lv_entry av (n := maxL) hav
  have hts := atoms_spec (ws := wy) B.pre
  rw [lg_entry_eq]
  refine body p e s m _ below meth c _ _ ⟨⟨B.exec, B.bytes, hml, findClass_of_methodNamed B.named, hts⟩, hK, fun q h => Or.inr h, hst⟩ hsx hao (vx_table (x := y) B (hts _ (by rw [hw]; exact List.mem_cons_self))) ?_ s.heap [] _ hP hD va_S.rf hl
  intro pc lv cells slots h1 h6 hdg H locs ls hP1 hD1 hS1 hl1
  refine W.widen (k := rm.cells) (n := rm.slots) h1 h6 (vx_ret ?_)
  exact W.iret (v := r) B.exec B.bytes B.returns (fun t ht hW => ⟨⟨r, (), rfl, rfl, by rw [ht]; exact hP1, hD1⟩, hS1.F ht⟩) hS1.2.2 hdg
/-! worlds that look alike -/
def zSm : va_W → va_W → Prop
  | [], [] => True
  | a :: t, b :: u => (a.1 = b.1 ∧ ∀ (D : va_G) (H : Heap), va_at D vwCl a H → va_at D vwCl b H) ∧ zSm t u
  | _, _ => False
theorem zSm.rf : ∀ w : va_W, zSm w w
  | [] => trivial
  | a :: t => ⟨⟨rfl, fun _ _ h => h⟩, zSm.rf t⟩
theorem zSm.app : ∀ {a b c d : va_W}, zSm a b → zSm c d → zSm (a ++ c) (b ++ d)
  | [], [], _, _, _, h => h
  | _ :: _, _ :: _, _, _, h, h2 => ⟨h.1, zSm.app h.2 h2⟩
theorem zSm.mp (f g : Nat → Nat × va_E) : ∀ l : List Nat, (∀ i ∈ l, (f i).1 = (g i).1 ∧ ∀ (D : va_G) (H : Heap), va_at D vwCl (f i) H → va_at D vwCl (g i) H) → zSm (l.map f) (l.map g)
  | [], _ => trivial
  | i :: t, h => ⟨h i List.mem_cons_self, zSm.mp f g t (fun j hj => h j (List.mem_cons_of_mem _ hj))⟩
theorem zSm.P1 {D : va_G} {H : Heap} : ∀ {a b : va_W}, zSm a b → (∀ q ∈ a, va_at D vwCl q H) → ∀ q ∈ b, va_at D vwCl q H
  | [], [], _, _ => fun q h => absurd h List.not_mem_nil
  | x :: t, y :: u, h, hp => fun q hq => by
    rcases List.mem_cons.mp hq with h9 | h9
    · subst h9
      exact h.1.2 D H (hp x List.mem_cons_self)
    · exact zSm.P1 h.2 (fun q hq => hp q (List.mem_cons_of_mem _ hq)) q h9
theorem zSm.P {D : va_G} {H : Heap} {a b : va_W} (h : zSm a b) (hp : va_P D vwCl a H) : va_P D vwCl b H := zP_mem.mpr (h.P1 (zP_mem.mp hp))
theorem zSm.fst : ∀ {a b : va_W}, zSm a b → a.map Prod.fst = b.map Prod.fst
  | [], [], _ => rfl
  | x :: t, y :: u, h => by
    show x.1 :: t.map Prod.fst = y.1 :: u.map Prod.fst
    rw [h.1.1, zSm.fst h.2]
theorem zSm.D {A : Nat → Prop} {a b : va_W} (h : zSm a b) (hd : va_D A a) : va_D A b := by
  obtain ⟨h1, h2⟩ := zD_iff.mp hd
  have e := h.fst
  refine zD_iff.mpr ⟨?_, fun q hq => ?_⟩
  · have h3 : (a.map Prod.fst).Pairwise (fun x y => x ≠ y) := List.pairwise_map.mpr h1
    rw [e] at h3
    exact List.pairwise_map.mp h3
  · have h4 : q.1 ∈ b.map Prod.fst := List.mem_map.mpr ⟨q, hq, rfl⟩
    rw [← e] at h4
    obtain ⟨q9, h5, h6⟩ := List.mem_map.mp h4
    rw [← h6]
    exact h2 q9 h5
section ZN
variable {p : Program} {l : Launch} {e : Env} {R : Room} {s : State} {m : MethodId} {args : Array Value} {below : List Frame} {meth : Method} {c : Code} {cells slots : Nat} {Q : State → Prop}
variable {cc : ByteArray} {nL : Nat} {Ts : List Cond} {own : String} {D : va_G} {tys : List (ClassId × FieldType)} {A : Nat → Prop} {ws ws' : va_W} {lv lv' : List (Nat × Value)} {st : List Value} {pc : Nat}
theorem zi_norm (h : zSm ws ws') (k : zW p l e R s m args below meth c cells slots Q D A nL ws' lv pc st) : zW p l e R s m args below meth c cells slots Q D A nL ws lv pc st := fun H locs ls hP hD hS hl => k H locs ls (h.P hP) (h.D hD) hS hl
theorem zi_none (k : zW p l e R s m args below meth c cells slots Q D A nL [] lv pc st) : zW p l e R s m args below meth c cells slots Q D A nL ws lv pc st := fun H locs ls hP hD hS hl => k H locs ls (fun k q h => by cases h) ⟨fun i j p q h => (by cases h), fun k q h => (by cases h)⟩ hS hl
theorem zi_widen {c2 s2 : Nat} (h1 : cells ≤ c2) (h2 : slots ≤ s2) (k : zW p l e R s m args below meth c c2 s2 Q D A nL ws lv pc st) : zW p l e R s m args below meth c cells slots Q D A nL ws lv pc st := fun H locs ls hP hD hS hl => W.widen h1 h2 (k H locs ls hP hD hS hl)
theorem zi_toplit {x y : Int32} (h : x = y) (k : zW p l e R s m args below meth c cells slots Q D A nL ws lv pc (.int y :: st)) : zW p l e R s m args below meth c cells slots Q D A nL ws lv pc (.int x :: st) := h ▸ k
theorem zi_ldc (F : zF p m c cc nL s args Ts own D tys A) {index : Nat} {v : Int32} (hc : Cond.constant own index v ∈ Ts) (hdg : decode cc pc = .ok (.ldc index, 2)) (k : zW p l e R s m args below meth c cells slots Q D A nL ws lv (pc + 2) (.int v :: st)) : zW p l e R s m args below meth c cells slots Q D A nL ws lv pc st := fun H locs ls hP hD hS hl => lv_ldc F.1.1 F.1.2.1 F.1.2.2.2.1 (F.1.2.2.2.2 _ hc) hdg (k H locs ls hP hD hS hl)
theorem zi_perm (hp : ws.Perm ws') (k : zW p l e R s m args below meth c cells slots Q D A nL ws' lv pc st) : zW p l e R s m args below meth c cells slots Q D A nL ws lv pc st := fun H locs ls hP hD hS hl => k H locs ls (zpermP hp hP) (zpermD hp hD) hS hl
theorem zi_catch (F : zF p m c cc nL s args Ts own D tys A) {name En : String} (pre : List ExceptionTableEntry) (x : ExceptionTableEntry) (suf : List ExceptionTableEntry) (hsplit : c.exceptionTable.toList = pre ++ x :: suf) (hpass : ∀ z ∈ pre, covers z pc = false ∨ (z.catchType ≠ 0 ∧ ∃ nm : String, (Cond.classLink own z.catchType nm).before args s = true ∧ va_Nc En nm s)) (hx : covers x pc = true) (h0 : x.catchType ≠ 0) (hlink : Cond.classLink own x.catchType name ∈ Ts) (hcast : va_Nw (.castable En name) s) (k : ∀ q9 : Addr, zW p l e R s m args below meth c cells slots Q D A nL ws lv x.handlerPc [.ref q9]) : zWx p l e R s m args below meth c cells slots Q D A nL ws lv pc En := fun H locs ls ce q9 rest hP hD hS hl hce hcv hcl =>
  vx_catch F.1.2.2.2.1 pre x suf hsplit hpass hx h0 (F.1.2.2.2.2 _ hlink) (va_Nw.use rfl hcast) hce hcv hcl (k q9 H locs ls hP hD hS hl)
theorem zi_callQI (F : zF p m c cc nL s args Ts own D tys A) (hsx : zSx s) (hao : zAOA s) {y : MethodName} {bytes : ByteArray} {maxL index n : Nat} {ret : Option FieldType} {wy : List Cond} {rm : Room} {As rest : List Value} {Wc Wn : va_W} {r : Int32} (hM : zNI l D tys y wy rm As Wc r Wn) (cw : CallB R s args own index y bytes maxL ret wy rm rm.cells rm.slots n ∧ (Cond.static y).before args s = true) (w1 w2 : va_W) (hws : ws = w1 ++ (Wc ++ w2)) (hwn : w1 ++ (Wn ++ w2) = ws') (hn : As.length = n) (hst : st = As.reverse ++ rest) (hrm : (rest.map fun v => v.category).sum ≤ 8) (hdg : decode cc pc = .ok (.invokestatic index, 3)) (hR : cells + rm.cells ≤ R.cells ∧ slots + rm.slots ≤ R.slots) (k : zW p l e R s m args below meth c (cells + rm.cells) (slots + rm.slots) Q D A nL ws' lv (pc + 3) (.int r :: rest)) : zW p l e R s m args below meth c cells slots Q D A nL ws lv pc st := fun H locs ls hP hD hS hl => by
  subst hws
  subst hst
  have hPc := zcutP hP
  have hDc := zcutD hD
  have hFc := zfree hD hS F.2.2.1
  refine vx_calli (vx_runS (As := As) (rest := rest) F.1 (hM H.size) cw ⟨zPy_blind, fun U hU hW => ⟨rfl, ⟨by rw [hU], by rw [hU]; exact hPc, va_K.moved hW.alike F.2.1, hDc.weaken (fun _ _ _ _ => trivial), by rw [hU]; exact zSt.to F.2.2.2 hW hS.2.1 hFc⟩, zSx.to hsx hW, zAOA.moved hW.alike hao⟩⟩ rfl hn hl.1 rfl (lv_room hrm) hdg hR) hS (fun q _ h => hFc q h) hFc (fun q _ h => hFc q h) (fun En ce q9 u t H1 locs1 ht hvm hw9 hB hz1 hk1 hS1 hce hcv hcl => hB.elim) (fun r1 u t H1 locs1 ht hvm hw9 hB hz1 hk1 hS1 => ?_)
  subst hw9
  obtain ⟨hP1, hD1⟩ := hB
  rw [ht] at hP1
  obtain ⟨hP2, hD2⟩ := zjoin hP hD hk1 hFc hP1 hD1
  exact k H1 locs1 ls (hwn ▸ hP2) (hwn ▸ hD2) hS1 hl
theorem zi_callQH (F : zF p m c cc nL s args Ts own D tys A) (hsx : zSx s) (hao : zAOA s) {y : MethodName} {bytes : ByteArray} {maxL index n : Nat} {ret : Option FieldType} {hh : List (Nat × Nat × Nat × Nat)} {wy : List Cond} {rm : Room} {As rest : List Value} {Wc Wn : va_W} {r : Int32} (hM : zNI l D tys y wy rm As Wc r Wn) (cw : vx_CSW R s args own index y bytes maxL ret hh wy rm rm.cells rm.slots n) (w1 w2 : va_W) (hws : ws = w1 ++ (Wc ++ w2)) (hwn : w1 ++ (Wn ++ w2) = ws') (hn : As.length = n) (hst : st = As.reverse ++ rest) (hrm : (rest.map fun v => v.category).sum ≤ 8) (hdg : decode cc pc = .ok (.invokestatic index, 3)) (hR : cells + rm.cells ≤ R.cells ∧ slots + rm.slots ≤ R.slots) (k : zW p l e R s m args below meth c (cells + rm.cells) (slots + rm.slots) Q D A nL ws' lv (pc + 3) (.int r :: rest)) : zW p l e R s m args below meth c cells slots Q D A nL ws lv pc st := fun H locs ls hP hD hS hl => by
  subst hws
  subst hst
  have hPc := zcutP hP
  have hDc := zcutD hD
  have hFc := zfree hD hS F.2.2.1
  refine vx_calli (vx_runSX (As := As) (rest := rest) F.1 (hM H.size) cw ⟨zPy_blind, fun U hU hW => ⟨rfl, ⟨by rw [hU], by rw [hU]; exact hPc, va_K.moved hW.alike F.2.1, hDc.weaken (fun _ _ _ _ => trivial), by rw [hU]; exact zSt.to F.2.2.2 hW hS.2.1 hFc⟩, zSx.to hsx hW, zAOA.moved hW.alike hao⟩⟩ rfl hn hl.1 rfl (lv_room hrm) hdg hR) hS (fun q _ h => hFc q h) hFc (fun q _ h => hFc q h) (fun En ce q9 u t H1 locs1 ht hvm hw9 hB hz1 hk1 hS1 hce hcv hcl => hB.elim) (fun r1 u t H1 locs1 ht hvm hw9 hB hz1 hk1 hS1 => ?_)
  subst hw9
  obtain ⟨hP1, hD1⟩ := hB
  rw [ht] at hP1
  obtain ⟨hP2, hD2⟩ := zjoin hP hD hk1 hFc hP1 hD1
  exact k H1 locs1 ls (hwn ▸ hP2) (hwn ▸ hD2) hS1 hl
end ZN
theorem znoc {U : State} (h : zSx U) {a b : String} (hm : (a, b) ∈ zPairs) : va_Nc a b U := h.2.1 _ hm
theorem zcas {U : State} (h : zSx U) {a : String} (hm : a ∈ zExc) : va_Nw (.castable a a) U := h.1 _ hm
/-! stores written down as numbers -/
abbrev zD_t : Type := List (List Nat)
def zg1 : List Nat → Nat → Nat
  | [], _ => 0
  | x :: _, 0 => x
  | _ :: t, n + 1 => zg1 t n
def zg2 : zD_t → Nat → List Nat
  | [], _ => []
  | x :: _, 0 => x
  | _ :: t, n + 1 => zg2 t n
def zd (x : zD_t) : zS_t := fun k j => Int32.ofNat (zg1 (zg2 x k) j)
def zq : Nat → (Nat → Int32) → (Nat → Int32) → Bool
  | 0, _, _ => true
  | n + 1, f, g => (f n == g n) && zq n f g
theorem zq_s : ∀ {n : Nat} {f g : Nat → Int32}, zq n f g = true → ∀ j, j < n → f j = g j
  | 0, _, _, _, j, hj => absurd hj (Nat.not_lt_zero j)
  | n + 1, f, g, h, j, hj => by
    unfold zq at h
    rw [Bool.and_eq_true] at h
    rcases Nat.lt_or_eq_of_le (Nat.le_of_lt_succ hj) with h9 | h9
    · exact zq_s h.2 j h9
    · rw [h9]; exact eq_of_beq h.1
def zqr : Nat → zS_t → zS_t → Bool
  | 0, _, _ => true
  | n + 1, f, g => zq 24 (f n) (g n) && zqr n f g
theorem zqr_s : ∀ {n : Nat} {f g : zS_t}, zqr n f g = true → ∀ i, i < n → ∀ j, j < 24 → f i j = g i j
  | 0, _, _, _, i, hi => absurd hi (Nat.not_lt_zero i)
  | n + 1, f, g, h, i, hi => by
    unfold zqr at h
    rw [Bool.and_eq_true] at h
    rcases Nat.lt_or_eq_of_le (Nat.le_of_lt_succ hi) with h9 | h9
    · exact zqr_s h.2 i h9
    · rw [h9]; exact zq_s h.1
theorem zal {n : Nat} {f g : Nat → Int32} (h : zq n f g = true) {a : Nat} {c : ClassId} : a = a ∧ ∀ (D : va_G) (H : Heap), va_at D vwCl (a, .inl (c, n, .inl f)) H → va_at D vwCl (a, .inl (c, n, .inl g)) H := by
  refine ⟨rfl, fun D H h9 => ?_⟩
  have e : arrV c n (fun j => .int (f j)) = arrV c n (fun j => .int (g j)) := by
    unfold arrV
    have e2 : (fun (j : Fin n) => Value.int (f j.val)) = (fun (j : Fin n) => Value.int (g j.val)) := by
      funext j
      rw [zq_s h j.val j.isLt]
    exact congrArg (fun z => ({ cls := c, slots := Array.ofFn (n := n) z, vm := .none } : Cell)) e2
  show H[a]? = some (vp_cell c (n, .inl g))
  have h8 : H[a]? = some (vp_cell c (n, .inl f)) := h9
  rw [h8, vp_cell_i, vp_cell_i, e]
theorem zel {a b : Nat × va_E} (h : a = b) : a.1 = b.1 ∧ ∀ (D : va_G) (H : Heap), va_at D vwCl a H → va_at D vwCl b H := by subst h; exact ⟨rfl, fun _ _ h => h⟩
def zqL (L Y : zS_t) : Bool := zq 3 (L 0) (Y 0) && ((L 5 0 == Y 5 0) && ((L 6 0 == Y 6 0) && ((L 7 0 == Y 7 0) && ((L 8 0 == Y 8 0) && ((L 9 0 == Y 9 0) && ((L 10 0 == Y 10 0)))))))
theorem zqL_s (G : zG_t) {L Y : zS_t} (h : zqL L Y = true) : zSm (zWO G L) (zWO G Y) := by
  unfold zqL at h
  simp only [Bool.and_eq_true] at h
  obtain ⟨h0, h5, h6, h7, h8, h9, h10⟩ := h
  unfold zWO
  exact ⟨zel (by rw [eq_of_beq h5, eq_of_beq h6, eq_of_beq h7, eq_of_beq h8, eq_of_beq h9, eq_of_beq h10]), ⟨zal h0, trivial⟩⟩
def zqT (T Y : zS_t) : Bool := zq 10 (T 0) (Y 0) && (zq 10 (T 1) (Y 1) && (zq 10 (T 2) (Y 2) && (zq 10 (T 3) (Y 3) && ((T 4 0 == Y 4 0)))))
theorem zqT_s (G : zG_t) {T Y : zS_t} (h : zqT T Y = true) : zSm (zWT G T) (zWT G Y) := by
  unfold zqT at h
  simp only [Bool.and_eq_true] at h
  obtain ⟨h0, h1, h2, h3, h4⟩ := h
  unfold zWT
  exact ⟨zel (by rw [eq_of_beq h4]), ⟨zal h0, ⟨zal h1, ⟨zal h2, ⟨zal h3, trivial⟩⟩⟩⟩⟩
def zqE (E Y : zS_t) : Bool := zq 12 (E 0) (Y 0) && (zq 12 (E 1) (Y 1) && (zq 12 (E 2) (Y 2) && (zq 12 (E 3) (Y 3) && (zq 12 (E 4) (Y 4) && ((E 5 0 == Y 5 0))))))
theorem zqE_s (G : zG_t) {E Y : zS_t} (h : zqE E Y = true) : zSm (zWE G E) (zWE G Y) := by
  unfold zqE at h
  simp only [Bool.and_eq_true] at h
  obtain ⟨h0, h1, h2, h3, h4, h5⟩ := h
  unfold zWE
  exact ⟨zel (by rw [eq_of_beq h5]), ⟨zal h0, ⟨zal h1, ⟨zal h2, ⟨zal h3, ⟨zal h4, trivial⟩⟩⟩⟩⟩⟩
def zqV (V Y : zS_t) : Bool := zq 10 (V 0) (Y 0) && (zq 10 (V 1) (Y 1) && (zq 10 (V 2) (Y 2) && (zq 10 (V 3) (Y 3) && (zq 10 (V 4) (Y 4)))))
theorem zqV_s (G : zG_t) {V Y : zS_t} (h : zqV V Y = true) : zSm (zWV G V) (zWV G Y) := by
  unfold zqV at h
  simp only [Bool.and_eq_true] at h
  obtain ⟨h0, h1, h2, h3, h4⟩ := h
  unfold zWV
  exact ⟨zel rfl, ⟨zal h0, ⟨zal h1, ⟨zal h2, ⟨zal h3, ⟨zal h4, trivial⟩⟩⟩⟩⟩⟩
def zqM (M Y : zS_t) : Bool := zq 24 (M 0) (Y 0) && ((M 2 0 == Y 2 0) && ((M 3 0 == Y 3 0) && ((M 4 0 == Y 4 0))))
theorem zqM_s (G : zG_t) {M Y : zS_t} (h : zqM M Y = true) : zSm (zWM0 G M) (zWM0 G Y) := by
  unfold zqM at h
  simp only [Bool.and_eq_true] at h
  obtain ⟨h0, h2, h3, h4⟩ := h
  unfold zWM0
  exact ⟨zel (by rw [eq_of_beq h2, eq_of_beq h3, eq_of_beq h4]), ⟨zal h0, ⟨zel rfl, trivial⟩⟩⟩
def zqK (K Y : zS_t) : Bool := zqr 40 K Y
theorem zqK_s (G : zG_t) {M M2 K Y : zS_t} (h1 : zSm (zWM0 G M) (zWM0 G M2)) (h : zqK K Y = true) : zSm (zWM G M K) (zWM G M2 Y) := by
  unfold zWM
  refine h1.app (zSm.mp _ _ _ (fun i hi => ?_))
  have hi9 : i < 40 := List.mem_range.mp hi
  have h2 : zq 24 (K i) (Y i) = true := by
    have h3 := zqr_s h i hi9
    have e : ∀ n, n ≤ 24 → zq n (K i) (Y i) = true := by
      intro n
      induction n with
      | zero => intro _; rfl
      | succ n ih =>
        intro hn
        unfold zq
        rw [h3 n (by omega), ih (by omega)]
        simp
    exact e 24 (Nat.le_refl _)
  exact zal h2
theorem zqW_s (G : zG_t) {L T E V M K L2 T2 E2 V2 M2 K2 : zS_t} (hL : zSm (zWO G L) (zWO G L2)) (hT : zSm (zWT G T) (zWT G T2)) (hE : zSm (zWE G E) (zWE G E2)) (hV : zSm (zWV G V) (zWV G V2)) (hM : zSm (zWM G M K) (zWM G M2 K2)) : zSm (zWL G L T E V M K) (zWL G L2 T2 E2 V2 M2 K2) := by
  unfold zWL
  exact hL.app (hE.app ((hT.app hV).app hM))
def zb1 (x : List Nat) : Bool := x.all (fun v => v == 0 || v == 1)
theorem zb1_s : ∀ {x : List Nat}, zb1 x = true → ∀ j, zg1 x j = 0 ∨ zg1 x j = 1
  | [], _, j => Or.inl (by cases j <;> rfl)
  | v :: t, h, 0 => by
    unfold zb1 at h
    rw [List.all_cons, Bool.and_eq_true, Bool.or_eq_true] at h
    rcases h.1 with h9 | h9
    · exact Or.inl (eq_of_beq h9)
    · exact Or.inr (eq_of_beq h9)
  | v :: t, h, j + 1 => by
    unfold zb1 at h
    rw [List.all_cons, Bool.and_eq_true] at h
    exact zb1_s h.2 j
theorem zd_E {x : zD_t} (h1 : 0 ≤ (zd x 5 0).toInt ∧ (zd x 5 0).toInt ≤ 12) (h2 : zb1 (zg2 x 1) = true) : zIE (zd x) := by
  refine ⟨h1, fun j => ?_⟩
  show vp_nar .boolean (Int32.ofNat (zg1 (zg2 x 1) j)) = Int32.ofNat (zg1 (zg2 x 1) j)
  rcases zb1_s h2 j with h | h <;> rw [h] <;> decide
