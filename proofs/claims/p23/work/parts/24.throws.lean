/-! methods that may throw: what they ask, how they end, how they are called -/
def zNm : List String := ["java/lang/RuntimeException", "java/lang/Exception"]
def zExc : List String := ["java/lang/IndexOutOfBoundsException", "java/lang/IllegalStateException", "java/lang/IllegalArgumentException"]
def zPairs : List (String × String) := [("java/lang/IllegalStateException", "java/lang/IndexOutOfBoundsException"), ("java/lang/IllegalArgumentException", "java/lang/IndexOutOfBoundsException"), ("java/lang/IllegalStateException", "java/lang/IllegalArgumentException")]
def zMsg (n : String) : MethodName := ⟨n, "<init>", "(Ljava/lang/String;)V"⟩
def zDeclC : List String := ["java/lang/RuntimeException", "java/lang/Exception", "java/lang/Throwable"]
def zSx (U : State) : Prop := (∀ n ∈ zExc, va_Nw (.castable n n) U) ∧ (∀ q ∈ zPairs, va_Nc q.1 q.2 U) ∧ (∀ n ∈ zDeclC, va_Nw (.declares (zMsg n)) U)
theorem zSx.to {u U : State} (h : zSx u) (hW : u.WarmedH U.vm) : zSx U := ⟨fun n hn => va_Nw.warmC hW (h.1 n hn), fun q hq => va_Nc.moved hW.alike (h.2.1 q hq), fun n hn => va_Nw.warmD hW (h.2.2 n hn)⟩
def zBad (cls : String) : List Cond := [.castable cls cls, .declares (zMsg "java/lang/RuntimeException"), .declares (zMsg "java/lang/Exception"), .declares (zMsg "java/lang/Throwable")]
def zPx (D : va_G) (tys : List (ClassId × FieldType)) (W0 : va_W) (sz : Nat) (U : State) : Prop := zB D tys W0 sz U ∧ zSx U
theorem zPx_blind {D : va_G} {tys : List (ClassId × FieldType)} {W0 : va_W} {sz : Nat} {av : List Value} : FrameBlind (va_Pc av (zPx D tys W0 sz)) := by
  intro a U g mk q
  obtain ⟨q1, q2, q3⟩ := q
  have h := zB_blind (D := D) (tys := tys) (W0 := W0) (sz := sz) (av := av) a U g mk ⟨q1, q2⟩
  exact ⟨q1, h.2, zSx.to (u := U) (U := U.calling g mk a) q3 (State.WarmedH.refl U)⟩
/-- method y, called with av in the world W0: answers r (Ec = none) or throws Ec; the world is W1 then -/
def zXI (l : Launch) (D : va_G) (tys : List (ClassId × FieldType)) (y : MethodName) (wy : List Cond) (rm : Room) (av : List Value) (W0 : va_W) (Ec : Option String) (r : Int32) (W1 : va_W) : Prop :=
  ∀ sz : Nat, vx_Met l y wy rm (va_Pc av (zPx D tys W0 sz)) (va_Qi (fun (x : Int32) (_ : Unit) => x = r ∧ Ec = none) (fun _ t => zEnd D W1 (va_A W0 sz) t) (va_A W0 sz)) (vx_X (fun (_ : Unit) => True) (fun En _ t => Ec = some En ∧ zEnd D W1 (va_A W0 sz) t) (va_A W0 sz)) 1 6 (va_A W0 sz)
def zXV (l : Launch) (D : va_G) (tys : List (ClassId × FieldType)) (y : MethodName) (wy : List Cond) (rm : Room) (av : List Value) (W0 : va_W) (Ec : Option String) (W1 : va_W) : Prop :=
  ∀ sz : Nat, vx_Met l y wy rm (va_Pc av (zPx D tys W0 sz)) (va_Qv (fun (_ : Unit) => Ec = none) (fun _ t => zEnd D W1 (va_A W0 sz) t) (va_A W0 sz)) (vx_X (fun (_ : Unit) => True) (fun En _ t => Ec = some En ∧ zEnd D W1 (va_A W0 sz) t) (va_A W0 sz)) 1 6 (va_A W0 sz)
/-- thrown over a point of a method -/
def zWx (p : Program) (l : Launch) (e : Env) (R : Room) (s : State) (m : MethodId) (args : Array Value) (below : List Frame) (meth : Method) (c : Code) (cells slots : Nat) (Q : State → Prop) (D : va_G) (A : Nat → Prop) (nL : Nat) (ws : va_W) (lv : List (Nat × Value)) (pc : Nat) (En : String) : Prop :=
  ∀ (H : Heap) (locs : List Loc) (ls : Array Slot) (ce : Cell) (q9 : Addr) (rest : List Value), va_P D vwCl ws H → va_D A ws → va_S A s.heap H locs → lv_has ls nL lv → H[q9]? = some ce → ce.vm = .none → s.vm.findClass En = some ce.cls → vx_W p l e R s m args below meth c H locs cells slots Q (F0 m pc ls rest) q9
/-- the throw of a text: the rows, the words -/
def zTh (cc : ByteArray) (wy : List Cond) (rm : Room) (pc ik is ic : Nat) (cls text : String) : Prop :=
  (decode cc pc = .ok (.new ik, 3) ∧ decode cc (pc + 3) = .ok (.dup, 1) ∧ decode cc (pc + 4) = .ok (.ldc is, 2) ∧ decode cc (pc + 6) = .ok (.invokespecial ic, 3) ∧ decode cc (pc + 9) = .ok (.athrow, 1)) ∧
  Cond.classLink RX4 ik cls ∈ wy ∧ Cond.initialized cls ∈ wy ∧ (is, text) ∈ zTexts ∧ cls ∈ zExc ∧ (∀ w ∈ (vx_atS RX4 ic cls zNm).filter goodWord, w ∈ wy) ∧
  (∀ w ∈ (vx_atS RX4 ic cls zNm).filter (fun w => !goodWord w), w ∈ zBad cls) ∧ (∀ w ∈ Cond.classLink RX4 ik cls :: Cond.initialized cls :: vx_atS RX4 ic cls zNm, vx_ot w = true) ∧ 6 ≤ rm.frames ∧ 82 ≤ rm.locals
theorem zfits : ∀ n ∈ zExc, Bundle.fit n = true := by decide +kernel
theorem zfitn : ∀ n ∈ zNm, Bundle.fit n = true := by decide +kernel
set_option maxHeartbeats 4000000 in
theorem zx_I {l : Launch} (hfl : l.stackTraces = false) {D : va_G} {tys : List (ClassId × FieldType)} {y : MethodName} {wy wr : List Cond} {rm : Room} {av : List Value} {W0 W1 : va_W} {Ec : Option String} {r : Int32} {cc : ByteArray} {maxL : Nat} (hy : plainName y.cls = true) (hyc : y.cls = RX4) (hw : wy = Cond.code y cc maxL (some .int) :: wr) (hav : (lg_sl av).length ≤ maxL) (hrc : rm.cells = 1) (hrs : rm.slots = 6)
    (body : ∀ (p : Program) (e : Env) (s : State) (m : MethodId) (args : Array Value) (below : List Frame) (meth : Method) (c : Code) (Q : State → Prop) (A : Nat → Prop), zF p m c cc maxL s args wy RX4 D tys A → zSx s →
      (∀ (pc : Nat) (lv : List (Nat × Value)) (cells slots : Nat), cells ≤ 1 → slots ≤ 6 → decode cc pc = .ok (.ireturn, 1) → Ec = none → zW p l e rm s m args below meth c cells slots Q D A maxL W1 lv pc [.int r]) →
      (∀ (pc ik is ic : Nat) (cls text : String) (lv : List (Nat × Value)), Ec = some cls → zTh cc wy rm pc ik is ic cls text → zW p l e rm s m args below meth c 0 0 Q D A maxL W1 lv pc []) →
      (∀ (pc : Nat) (lv : List (Nat × Value)) (En : String) (cells slots : Nat), cells ≤ 1 → slots ≤ 6 → Ec = some En → zWx p l e rm s m args below meth c cells slots Q D A maxL W1 lv pc En) →
      zW p l e rm s m args below meth c 0 0 Q D A maxL W0 (lv_args 0 av) 0 []) : zXI l D tys y wy rm av W0 Ec r W1 := by
  intro sz
  refine vx_ofW (cc := cc) (maxL := maxL) (ret := (some .int)) hy hw ?_
  intro p e s m args below meth c s₁ B hml ht hv
  obtain ⟨rfl, ⟨hsz, hP, hK, hD0, hst⟩, hsx⟩ := hv
  subst hsz
  have hD := hD0.self (sz := s.heap.size)
  have hl := lv_entry av (n := maxL) hav
  have hown : s.vm.findClass RX4 = some m.cls := by rw [← hyc]; exact findClass_of_methodNamed B.named
  have hts := atoms_spec (ws := wy) B.pre
  rw [lg_entry_eq]
  refine body p e s m _ below meth c _ _ ⟨⟨B.exec, B.bytes, hml, hown, hts⟩, hK, fun q h => Or.inr h, hst⟩ hsx ?_ ?_ ?_ s.heap [] _ hP hD va_S.rf hl
  · intro pc lv cells slots h1 h6 hdg hE H locs ls hP1 hD1 hS1 hl1
    refine W.widen (k := 1) (n := 6) h1 h6 (vx_ret ?_)
    exact W.iret (v := r) B.exec B.bytes B.returns (fun t ht hW => ⟨⟨r, (), rfl, ⟨rfl, hE⟩, by rw [ht]; exact hP1, hD1⟩, hS1.F ht⟩) hS1.2.2 hdg
  · intro pc ik is ic cls text lv hE hth H locs ls hP1 hD1 hS1 hl1
    obtain ⟨⟨d0, d3, d4, d6, d9⟩, hk, hini, htx, hex, hat, hng, hgood, hfr, hlo⟩ := hth
    obtain ⟨sa, hsa⟩ := hst.2.2.2.2.1 _ htx
    refine vx_throwS (names := zNm) B.exec B.bytes hfl hown (zfits cls hex) zfitn (hts _ hk) (hts _ hini) hsa (vx_hat (fun w hw9 => hts w (hat w hw9)) hng (vx_c (va_Nw.use rfl (hsx.1 cls hex)) (vx_c (va_Nw.use rfl (hsx.2.2 _ (by decide))) (vx_c (va_Nw.use rfl (hsx.2.2 _ (by decide))) (vx_c (va_Nw.use rfl (hsx.2.2 _ (by decide))) vx_n))))) hgood hst.2.2.1 hst.2.2.2.1 hS1 (hl1.1.trans hml.symm) d0 d3 d4 d6 d9 (fun x hx => (ht x hx).elim) (by show 5 < rm.frames; omega) (by show 0 + 82 ≤ rm.locals; omega) (by show 0 + 1 ≤ rm.cells; omega) (by show 0 + 6 ≤ rm.slots; omega) B.notSynchronized ?_ hS1.2.2 (Nat.le_refl _) (Nat.le_refl _)
    exact fun t hal hz hk9 => ⟨(), trivial, ⟨hE, hP1.kept (fun k q hq => hk9 q.1 ((hP1 k q hq).lt)), hD1⟩, Nat.le_trans hS1.1 hz, fun q h1 h2 => (hk9 q (Nat.lt_of_lt_of_le h1 hS1.1)).trans (hS1.2.1 q h1 h2)⟩
  · intro pc lv En cells slots hc hs hE H locs ls ce q9 rest hP1 hD1 hS1 hl1 hce hcv hcl
    exact vx_out (E := En) (fun x hx => (ht x hx).elim) B.notSynchronized hce hcv hcl (fun t ht9 hal => ⟨(), trivial, ⟨hE, by rw [ht9]; exact hP1, hD1⟩, hS1.F ht9⟩) hS1.2.2 hc hs
set_option maxHeartbeats 4000000 in
theorem zx_Z {l : Launch} (hfl : l.stackTraces = false) {D : va_G} {tys : List (ClassId × FieldType)} {y : MethodName} {wy wr : List Cond} {rm : Room} {av : List Value} {W0 W1 : va_W} {Ec : Option String} {r : Int32} {cc : ByteArray} {maxL : Nat} (hy : plainName y.cls = true) (hyc : y.cls = RX4) (hw : wy = Cond.code y cc maxL (some .boolean) :: wr) (hav : (lg_sl av).length ≤ maxL) (hrc : rm.cells = 1) (hrs : rm.slots = 6)
    (body : ∀ (p : Program) (e : Env) (s : State) (m : MethodId) (args : Array Value) (below : List Frame) (meth : Method) (c : Code) (Q : State → Prop) (A : Nat → Prop), zF p m c cc maxL s args wy RX4 D tys A → zSx s →
      (∀ (pc : Nat) (lv : List (Nat × Value)) (cells slots : Nat), cells ≤ 1 → slots ≤ 6 → decode cc pc = .ok (.ireturn, 1) → Ec = none → narrow .boolean (.int r) = .int r → zW p l e rm s m args below meth c cells slots Q D A maxL W1 lv pc [.int r]) →
      (∀ (pc ik is ic : Nat) (cls text : String) (lv : List (Nat × Value)), Ec = some cls → zTh cc wy rm pc ik is ic cls text → zW p l e rm s m args below meth c 0 0 Q D A maxL W1 lv pc []) →
      (∀ (pc : Nat) (lv : List (Nat × Value)) (En : String) (cells slots : Nat), cells ≤ 1 → slots ≤ 6 → Ec = some En → zWx p l e rm s m args below meth c cells slots Q D A maxL W1 lv pc En) →
      zW p l e rm s m args below meth c 0 0 Q D A maxL W0 (lv_args 0 av) 0 []) : zXI l D tys y wy rm av W0 Ec r W1 := by
  intro sz
  refine vx_ofW (cc := cc) (maxL := maxL) (ret := (some .boolean)) hy hw ?_
  intro p e s m args below meth c s₁ B hml ht hv
  obtain ⟨rfl, ⟨hsz, hP, hK, hD0, hst⟩, hsx⟩ := hv
  subst hsz
  have hD := hD0.self (sz := s.heap.size)
  have hl := lv_entry av (n := maxL) hav
  have hown : s.vm.findClass RX4 = some m.cls := by rw [← hyc]; exact findClass_of_methodNamed B.named
  have hts := atoms_spec (ws := wy) B.pre
  rw [lg_entry_eq]
  refine body p e s m _ below meth c _ _ ⟨⟨B.exec, B.bytes, hml, hown, hts⟩, hK, fun q h => Or.inr h, hst⟩ hsx ?_ ?_ ?_ s.heap [] _ hP hD va_S.rf hl
  · intro pc lv cells slots h1 h6 hdg hE hn9 H locs ls hP1 hD1 hS1 hl1
    refine W.widen (k := 1) (n := 6) h1 h6 (vx_ret ?_)
    exact W.zret (v := r) (ty := .boolean) B.exec B.bytes B.returns hn9 (fun t ht hW => ⟨⟨r, (), rfl, ⟨rfl, hE⟩, by rw [ht]; exact hP1, hD1⟩, hS1.F ht⟩) hS1.2.2 hdg
  · intro pc ik is ic cls text lv hE hth H locs ls hP1 hD1 hS1 hl1
    obtain ⟨⟨d0, d3, d4, d6, d9⟩, hk, hini, htx, hex, hat, hng, hgood, hfr, hlo⟩ := hth
    obtain ⟨sa, hsa⟩ := hst.2.2.2.2.1 _ htx
    refine vx_throwS (names := zNm) B.exec B.bytes hfl hown (zfits cls hex) zfitn (hts _ hk) (hts _ hini) hsa (vx_hat (fun w hw9 => hts w (hat w hw9)) hng (vx_c (va_Nw.use rfl (hsx.1 cls hex)) (vx_c (va_Nw.use rfl (hsx.2.2 _ (by decide))) (vx_c (va_Nw.use rfl (hsx.2.2 _ (by decide))) (vx_c (va_Nw.use rfl (hsx.2.2 _ (by decide))) vx_n))))) hgood hst.2.2.1 hst.2.2.2.1 hS1 (hl1.1.trans hml.symm) d0 d3 d4 d6 d9 (fun x hx => (ht x hx).elim) (by show 5 < rm.frames; omega) (by show 0 + 82 ≤ rm.locals; omega) (by show 0 + 1 ≤ rm.cells; omega) (by show 0 + 6 ≤ rm.slots; omega) B.notSynchronized ?_ hS1.2.2 (Nat.le_refl _) (Nat.le_refl _)
    exact fun t hal hz hk9 => ⟨(), trivial, ⟨hE, hP1.kept (fun k q hq => hk9 q.1 ((hP1 k q hq).lt)), hD1⟩, Nat.le_trans hS1.1 hz, fun q h1 h2 => (hk9 q (Nat.lt_of_lt_of_le h1 hS1.1)).trans (hS1.2.1 q h1 h2)⟩
  · intro pc lv En cells slots hc hs hE H locs ls ce q9 rest hP1 hD1 hS1 hl1 hce hcv hcl
    exact vx_out (E := En) (fun x hx => (ht x hx).elim) B.notSynchronized hce hcv hcl (fun t ht9 hal => ⟨(), trivial, ⟨hE, by rw [ht9]; exact hP1, hD1⟩, hS1.F ht9⟩) hS1.2.2 hc hs
set_option maxHeartbeats 4000000 in
theorem zx_V {l : Launch} (hfl : l.stackTraces = false) {D : va_G} {tys : List (ClassId × FieldType)} {y : MethodName} {wy wr : List Cond} {rm : Room} {av : List Value} {W0 W1 : va_W} {Ec : Option String} {cc : ByteArray} {maxL : Nat} (hy : plainName y.cls = true) (hyc : y.cls = RX4) (hw : wy = Cond.code y cc maxL none :: wr) (hav : (lg_sl av).length ≤ maxL) (hrc : rm.cells = 1) (hrs : rm.slots = 6)
    (body : ∀ (p : Program) (e : Env) (s : State) (m : MethodId) (args : Array Value) (below : List Frame) (meth : Method) (c : Code) (Q : State → Prop) (A : Nat → Prop), zF p m c cc maxL s args wy RX4 D tys A → zSx s →
      (∀ (pc : Nat) (lv : List (Nat × Value)) (cells slots : Nat), cells ≤ 1 → slots ≤ 6 → decode cc pc = .ok (.return_, 1) → Ec = none → zW p l e rm s m args below meth c cells slots Q D A maxL W1 lv pc []) →
      (∀ (pc ik is ic : Nat) (cls text : String) (lv : List (Nat × Value)), Ec = some cls → zTh cc wy rm pc ik is ic cls text → zW p l e rm s m args below meth c 0 0 Q D A maxL W1 lv pc []) →
      (∀ (pc : Nat) (lv : List (Nat × Value)) (En : String) (cells slots : Nat), cells ≤ 1 → slots ≤ 6 → Ec = some En → zWx p l e rm s m args below meth c cells slots Q D A maxL W1 lv pc En) →
      zW p l e rm s m args below meth c 0 0 Q D A maxL W0 (lv_args 0 av) 0 []) : zXV l D tys y wy rm av W0 Ec W1 := by
  intro sz
  refine vx_ofW (cc := cc) (maxL := maxL) (ret := none) hy hw ?_
  intro p e s m args below meth c s₁ B hml ht hv
  obtain ⟨rfl, ⟨hsz, hP, hK, hD0, hst⟩, hsx⟩ := hv
  subst hsz
  have hD := hD0.self (sz := s.heap.size)
  have hl := lv_entry av (n := maxL) hav
  have hown : s.vm.findClass RX4 = some m.cls := by rw [← hyc]; exact findClass_of_methodNamed B.named
  have hts := atoms_spec (ws := wy) B.pre
  rw [lg_entry_eq]
  refine body p e s m _ below meth c _ _ ⟨⟨B.exec, B.bytes, hml, hown, hts⟩, hK, fun q h => Or.inr h, hst⟩ hsx ?_ ?_ ?_ s.heap [] _ hP hD va_S.rf hl
  · intro pc lv cells slots h1 h6 hdg hE H locs ls hP1 hD1 hS1 hl1
    refine W.widen (k := 1) (n := 6) h1 h6 (vx_ret ?_)
    exact W.vret B.exec B.bytes B.returns (fun t ht hW => ⟨⟨(), rfl, hE, by rw [ht]; exact hP1, hD1⟩, hS1.F ht⟩) hS1.2.2 hdg
  · intro pc ik is ic cls text lv hE hth H locs ls hP1 hD1 hS1 hl1
    obtain ⟨⟨d0, d3, d4, d6, d9⟩, hk, hini, htx, hex, hat, hng, hgood, hfr, hlo⟩ := hth
    obtain ⟨sa, hsa⟩ := hst.2.2.2.2.1 _ htx
    refine vx_throwS (names := zNm) B.exec B.bytes hfl hown (zfits cls hex) zfitn (hts _ hk) (hts _ hini) hsa (vx_hat (fun w hw9 => hts w (hat w hw9)) hng (vx_c (va_Nw.use rfl (hsx.1 cls hex)) (vx_c (va_Nw.use rfl (hsx.2.2 _ (by decide))) (vx_c (va_Nw.use rfl (hsx.2.2 _ (by decide))) (vx_c (va_Nw.use rfl (hsx.2.2 _ (by decide))) vx_n))))) hgood hst.2.2.1 hst.2.2.2.1 hS1 (hl1.1.trans hml.symm) d0 d3 d4 d6 d9 (fun x hx => (ht x hx).elim) (by show 5 < rm.frames; omega) (by show 0 + 82 ≤ rm.locals; omega) (by show 0 + 1 ≤ rm.cells; omega) (by show 0 + 6 ≤ rm.slots; omega) B.notSynchronized ?_ hS1.2.2 (Nat.le_refl _) (Nat.le_refl _)
    exact fun t hal hz hk9 => ⟨(), trivial, ⟨hE, hP1.kept (fun k q hq => hk9 q.1 ((hP1 k q hq).lt)), hD1⟩, Nat.le_trans hS1.1 hz, fun q h1 h2 => (hk9 q (Nat.lt_of_lt_of_le h1 hS1.1)).trans (hS1.2.1 q h1 h2)⟩
  · intro pc lv En cells slots hc hs hE H locs ls ce q9 rest hP1 hD1 hS1 hl1 hce hcv hcl
    exact vx_out (E := En) (fun x hx => (ht x hx).elim) B.notSynchronized hce hcv hcl (fun t ht9 hal => ⟨(), trivial, ⟨hE, by rw [ht9]; exact hP1, hD1⟩, hS1.F ht9⟩) hS1.2.2 hc hs
section ZX
variable {p : Program} {l : Launch} {e : Env} {R : Room} {s : State} {m : MethodId} {args : Array Value} {below : List Frame} {meth : Method} {c : Code} {cells slots : Nat} {Q : State → Prop}
variable {cc : ByteArray} {nL : Nat} {Ts : List Cond} {own : String} {D : va_G} {tys : List (ClassId × FieldType)} {A : Nat → Prop} {ws ws' : va_W} {lv lv' : List (Nat × Value)} {st : List Value} {pc : Nat}
theorem zi_callXI (F : zF p m c cc nL s args Ts own D tys A) (hsx : zSx s) {y : MethodName} {bytes : ByteArray} {maxL index n b : Nat} {ret : Option FieldType} {wy : List Cond} {rm : Room} {C : String} {As rest : List Value} {Wc Wn : va_W} {Ec : Option String} {r : Int32} (hM : zXI l D tys y wy rm (.ref b :: As) Wc Ec r Wn) (cw : CallW R s args own C index y bytes maxL ret wy rm 1 6 n) (q0 : Nat) {ci : Nat} {fs : List Value} {vc : u_T × Nat} (hq : Wc[q0]? = some (b, .inr (ci, fs))) (hc : vwCl[ci]? = some (C, vc)) (w1 w2 : va_W) (hws : ws = w1 ++ (Wc ++ w2)) (hwn : w1 ++ (Wn ++ w2) = ws') (hn : As.length = n) (hst : st = As.reverse ++ .ref b :: rest) (hrm : (rest.map fun v => v.category).sum ≤ 8) (hdg : decode cc pc = .ok (.invokevirtual index, 3)) (hR : cells + 1 ≤ R.cells ∧ slots + 6 ≤ R.slots) (kx : ∀ En, Ec = some En → zWx p l e R s m args below meth c (cells + 1) (slots + 6) Q D A nL ws' lv pc En) (k : Ec = none → zW p l e R s m args below meth c (cells + 1) (slots + 6) Q D A nL ws' lv (pc + 3) (.int r :: rest)) : zW p l e R s m args below meth c cells slots Q D A nL ws lv pc st := fun H locs ls hP hD hS hl => by
  subst hws
  subst hst
  have hPc := zcutP hP
  have hDc := zcutD hD
  have hFc := zfree hD hS F.2.2.1
  refine vx_calli (vx_runV (As := As) (rest := rest) F.1 (hM H.size) cw ⟨zPx_blind, va_recv F.2.1 hPc hc hq, fun U hU hW => ⟨rfl, ⟨by rw [hU], by rw [hU]; exact hPc, va_K.moved hW.alike F.2.1, hDc.weaken (fun _ _ _ _ => trivial), by rw [hU]; exact zSt.to F.2.2.2 hW hS.2.1 hFc⟩, zSx.to hsx hW⟩⟩ rfl hn hl.1 rfl (lv_room hrm) hdg hR) hS (fun q _ h => hFc q h) hFc (fun q _ h => hFc q h) (fun En ce q9 u t H1 locs1 ht hvm hw9 hB hz1 hk1 hS1 hce hcv hcl => ?_) (fun r1 u t H1 locs1 ht hvm hw9 hB hz1 hk1 hS1 => ?_)
  · obtain ⟨hE9, hP1, hD1⟩ := hB
    rw [ht] at hP1
    obtain ⟨hP2, hD2⟩ := zjoin hP hD hk1 hFc hP1 hD1
    exact kx En hE9 H1 locs1 ls ce q9 rest (hwn ▸ hP2) (hwn ▸ hD2) hS1 hl hce hcv hcl
  · obtain ⟨hP1, hD1⟩ := hB
    obtain ⟨hr9, hE9⟩ := hw9
    subst hr9
    rw [ht] at hP1
    obtain ⟨hP2, hD2⟩ := zjoin hP hD hk1 hFc hP1 hD1
    exact k hE9 H1 locs1 ls (hwn ▸ hP2) (hwn ▸ hD2) hS1 hl
theorem zi_callXV (F : zF p m c cc nL s args Ts own D tys A) (hsx : zSx s) {y : MethodName} {bytes : ByteArray} {maxL index n b : Nat} {ret : Option FieldType} {wy : List Cond} {rm : Room} {C : String} {As rest : List Value} {Wc Wn : va_W} {Ec : Option String}  (hM : zXV l D tys y wy rm (.ref b :: As) Wc Ec Wn) (cw : CallW R s args own C index y bytes maxL ret wy rm 1 6 n) (q0 : Nat) {ci : Nat} {fs : List Value} {vc : u_T × Nat} (hq : Wc[q0]? = some (b, .inr (ci, fs))) (hc : vwCl[ci]? = some (C, vc)) (w1 w2 : va_W) (hws : ws = w1 ++ (Wc ++ w2)) (hwn : w1 ++ (Wn ++ w2) = ws') (hn : As.length = n) (hst : st = As.reverse ++ .ref b :: rest) (hrm : (rest.map fun v => v.category).sum ≤ 8) (hdg : decode cc pc = .ok (.invokevirtual index, 3)) (hR : cells + 1 ≤ R.cells ∧ slots + 6 ≤ R.slots) (kx : ∀ En, Ec = some En → zWx p l e R s m args below meth c (cells + 1) (slots + 6) Q D A nL ws' lv pc En) (k : Ec = none → zW p l e R s m args below meth c (cells + 1) (slots + 6) Q D A nL ws' lv (pc + 3) rest) : zW p l e R s m args below meth c cells slots Q D A nL ws lv pc st := fun H locs ls hP hD hS hl => by
  subst hws
  subst hst
  have hPc := zcutP hP
  have hDc := zcutD hD
  have hFc := zfree hD hS F.2.2.1
  refine vx_callv (vx_runV (As := As) (rest := rest) F.1 (hM H.size) cw ⟨zPx_blind, va_recv F.2.1 hPc hc hq, fun U hU hW => ⟨rfl, ⟨by rw [hU], by rw [hU]; exact hPc, va_K.moved hW.alike F.2.1, hDc.weaken (fun _ _ _ _ => trivial), by rw [hU]; exact zSt.to F.2.2.2 hW hS.2.1 hFc⟩, zSx.to hsx hW⟩⟩ rfl hn hl.1 rfl (lv_room hrm) hdg hR) hS (fun q _ h => hFc q h) hFc (fun q _ h => hFc q h) (fun En ce q9 u t H1 locs1 ht hvm hw9 hB hz1 hk1 hS1 hce hcv hcl => ?_) (fun u t H1 locs1 ht hvm hw9 hB hz1 hk1 hS1 => ?_)
  · obtain ⟨hE9, hP1, hD1⟩ := hB
    rw [ht] at hP1
    obtain ⟨hP2, hD2⟩ := zjoin hP hD hk1 hFc hP1 hD1
    exact kx En hE9 H1 locs1 ls ce q9 rest (hwn ▸ hP2) (hwn ▸ hD2) hS1 hl hce hcv hcl
  · obtain ⟨hP1, hD1⟩ := hB
    have hE9 := hw9
    rw [ht] at hP1
    obtain ⟨hP2, hD2⟩ := zjoin hP hD hk1 hFc hP1 hD1
    exact k hE9 H1 locs1 ls (hwn ▸ hP2) (hwn ▸ hD2) hS1 hl
end ZX
theorem zng_45 : ∀ w ∈ (vx_atS RX4 45 "java/lang/IndexOutOfBoundsException" zNm).filter (fun w => !goodWord w), w ∈ zBad "java/lang/IndexOutOfBoundsException" := by decide +kernel
theorem zgd_45 : ∀ w ∈ Cond.classLink RX4 41 "java/lang/IndexOutOfBoundsException" :: Cond.initialized "java/lang/IndexOutOfBoundsException" :: vx_atS RX4 45 "java/lang/IndexOutOfBoundsException" zNm, vx_ot w = true := by decide +kernel
theorem zng_56 : ∀ w ∈ (vx_atS RX4 56 "java/lang/IllegalStateException" zNm).filter (fun w => !goodWord w), w ∈ zBad "java/lang/IllegalStateException" := by decide +kernel
theorem zgd_56 : ∀ w ∈ Cond.classLink RX4 52 "java/lang/IllegalStateException" :: Cond.initialized "java/lang/IllegalStateException" :: vx_atS RX4 56 "java/lang/IllegalStateException" zNm, vx_ot w = true := by decide +kernel
theorem zng_102 : ∀ w ∈ (vx_atS RX4 102 "java/lang/IllegalArgumentException" zNm).filter (fun w => !goodWord w), w ∈ zBad "java/lang/IllegalArgumentException" := by decide +kernel
theorem zgd_102 : ∀ w ∈ Cond.classLink RX4 98 "java/lang/IllegalArgumentException" :: Cond.initialized "java/lang/IllegalArgumentException" :: vx_atS RX4 102 "java/lang/IllegalArgumentException" zNm, vx_ot w = true := by decide +kernel
def zbnd7 {α1 α2 α3 α4 α5 α6 α7 β : Type} (e : α1 × α2 × α3 × α4 × α5 × α6 × α7) (f : α1 → α2 → α3 → α4 → α5 → α6 → α7 → β) : β := f (e.1) (e.2.1) (e.2.2.1) (e.2.2.2.1) (e.2.2.2.2.1) (e.2.2.2.2.2.1) (e.2.2.2.2.2.2)
theorem zbnd7_cut {α1 α2 α3 α4 α5 α6 α7 β : Type} {e : α1 × α2 × α3 × α4 × α5 × α6 × α7} {f : α1 → α2 → α3 → α4 → α5 → α6 → α7 → β} {X : β} (h : zbnd7 e f = X) {a1 : α1} {a2 : α2} {a3 : α3} {a4 : α4} {a5 : α5} {a6 : α6} {a7 : α7} (hr : e = (a1, a2, a3, a4, a5, a6, a7)) : f a1 a2 a3 a4 a5 a6 a7 = X := by subst hr; exact h
def zbnd8 {α1 α2 α3 α4 α5 α6 α7 α8 β : Type} (e : α1 × α2 × α3 × α4 × α5 × α6 × α7 × α8) (f : α1 → α2 → α3 → α4 → α5 → α6 → α7 → α8 → β) : β := f (e.1) (e.2.1) (e.2.2.1) (e.2.2.2.1) (e.2.2.2.2.1) (e.2.2.2.2.2.1) (e.2.2.2.2.2.2.1) (e.2.2.2.2.2.2.2)
theorem zbnd8_cut {α1 α2 α3 α4 α5 α6 α7 α8 β : Type} {e : α1 × α2 × α3 × α4 × α5 × α6 × α7 × α8} {f : α1 → α2 → α3 → α4 → α5 → α6 → α7 → α8 → β} {X : β} (h : zbnd8 e f = X) {a1 : α1} {a2 : α2} {a3 : α3} {a4 : α4} {a5 : α5} {a6 : α6} {a7 : α7} {a8 : α8} (hr : e = (a1, a2, a3, a4, a5, a6, a7, a8)) : f a1 a2 a3 a4 a5 a6 a7 a8 = X := by subst hr; exact h
