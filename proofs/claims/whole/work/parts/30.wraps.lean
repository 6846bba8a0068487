/-! methods that catch all that they meet -/
def zYI (l : Launch) (D : va_G) (tys : List (ClassId × FieldType)) (y : MethodName) (wy : List Cond) (rm : Room) (av : List Value) (W0 : va_W) (r : Int32) (W1 : va_W) : Prop :=
  ∀ sz : Nat, vx_Met l y wy rm (va_Pc av (zPx D tys W0 sz)) (va_Qi (fun (x : Int32) (_ : Unit) => x = r) (fun _ t => zEnd D W1 (va_A W0 sz) t) (va_A W0 sz)) (vx_X (fun (_ : Unit) => True) (fun _ _ _ => False) (va_A W0 sz)) 1 6 (va_A W0 sz)
theorem zy_I {l : Launch} {D : va_G} {tys : List (ClassId × FieldType)} {y : MethodName} {wy wr : List Cond} {rm : Room} {av : List Value} {W0 W1 : va_W} {r : Int32} {cc : ByteArray} {maxL : Nat} {hh : List (Nat × Nat × Nat × Nat)} (hy : plainName y.cls = true) (hw : wy = Cond.codeWith y cc maxL (some .int) hh :: wr) (hav : (lg_sl av).length ≤ maxL)
    (body : ∀ (p : Program) (e : Env) (s : State) (m : MethodId) (args : Array Value) (below : List Frame) (meth : Method) (c : Code) (Q : State → Prop) (A : Nat → Prop), zF p m c cc maxL s args wy y.cls D tys A → zSx s → c.exceptionTable.toList = tableOf hh →
      (∀ (pc : Nat) (lv : List (Nat × Value)) (cells slots : Nat), cells ≤ 1 → slots ≤ 6 → decode cc pc = .ok (.ireturn, 1) → zW p l e rm s m args below meth c cells slots Q D A maxL W1 lv pc [.int r]) →
      zW p l e rm s m args below meth c 0 0 Q D A maxL W0 (lv_args 0 av) 0 []) : zYI l D tys y wy rm av W0 r W1 := by
  intro sz
  refine vx_ofWH (cc := cc) (maxL := maxL) (ret := (some .int)) (hh := hh) hy hw ?_
  intro p e s m args below meth c s₁ B hml hv
  obtain ⟨rfl, ⟨hsz, hP, hK, hD0, hst⟩, hsx⟩ := hv
  subst hsz
  have hD := hD0.self (sz := s.heap.size)
  have hl := lv_entry av (n := maxL) hav
  have hts := atoms_spec (ws := wy) B.pre
  rw [lg_entry_eq]
  refine body p e s m _ below meth c _ _ ⟨⟨B.exec, B.bytes, hml, findClass_of_methodNamed B.named, hts⟩, hK, fun q h => Or.inr h, hst⟩ hsx (vx_table (x := y) B (hts _ (by rw [hw]; exact List.mem_cons_self))) ?_ s.heap [] _ hP hD va_S.rf hl
  intro pc lv cells slots h1 h6 hdg H locs ls hP1 hD1 hS1 hl1
  refine W.widen (k := 1) (n := 6) h1 h6 (vx_ret ?_)
  exact W.iret (v := r) B.exec B.bytes B.returns (fun t ht hW => ⟨⟨r, (), rfl, rfl, by rw [ht]; exact hP1, hD1⟩, hS1.F ht⟩) hS1.2.2 hdg
section ZY
variable {p : Program} {l : Launch} {e : Env} {R : Room} {s : State} {m : MethodId} {args : Array Value} {below : List Frame} {meth : Method} {c : Code} {cells slots : Nat} {Q : State → Prop}
variable {cc : ByteArray} {nL : Nat} {Ts : List Cond} {own : String} {D : va_G} {tys : List (ClassId × FieldType)} {A : Nat → Prop} {ws ws' : va_W} {lv lv' : List (Nat × Value)} {st : List Value} {pc : Nat}
theorem zi_catch (F : zF p m c cc nL s args Ts own D tys A) {name En : String} (pre : List ExceptionTableEntry) (x : ExceptionTableEntry) (suf : List ExceptionTableEntry) (hsplit : c.exceptionTable.toList = pre ++ x :: suf) (hpass : ∀ z ∈ pre, covers z pc = false ∨ (z.catchType ≠ 0 ∧ ∃ nm : String, (Cond.classLink own z.catchType nm).before args s = true ∧ va_Nc En nm s)) (hx : covers x pc = true) (h0 : x.catchType ≠ 0) (hlink : Cond.classLink own x.catchType name ∈ Ts) (hcast : va_Nw (.castable En name) s) (k : ∀ q9 : Addr, zW p l e R s m args below meth c cells slots Q D A nL ws lv x.handlerPc [.ref q9]) : zWx p l e R s m args below meth c cells slots Q D A nL ws lv pc En := fun H locs ls ce q9 rest hP hD hS hl hce hcv hcl =>
  vx_catch F.1.2.2.2.1 pre x suf hsplit hpass hx h0 (F.1.2.2.2.2 _ hlink) (va_Nw.use rfl hcast) hce hcv hcl (k q9 H locs ls hP hD hS hl)
theorem zi_last (F : zF p m c cc nL s args Ts own D tys A) {a n : Nat} {cA : ClassId} {f : Nat → Int64} {i : Int32} {x : Int64} (q0 t0 : Nat) (ha : ws[q0]? = some (a, .inl (cA, n, .inr (.inl f)))) (ht : tys[t0]? = some (cA, .long)) (hin : vp_in i n) (hws : ws.set q0 (a, .inl (cA, n, .inr (.inl (vp_updL f i.toNatClampNeg x)))) = ws') (hdg : decode cc pc = .ok (.lastore, 1)) (k : zW p l e R s m args below meth c cells slots Q D A nL ws' lv (pc + 1) st) : zW p l e R s m args below meth c cells slots Q D A nL ws lv pc (.long x :: .int i :: .ref a :: st) := fun H locs ls hP hD hS hl =>
  va_last F.1.1 F.1.2.1 F.2.1 hP hD hS q0 t0 ha ht hin hdg (fun H1 locs1 hP1 hD1 hS1 => k H1 locs1 ls (hws ▸ hP1) (hws ▸ hD1) hS1 hl)
theorem zi_lald (F : zF p m c cc nL s args Ts own D tys A) {a n : Nat} {cA : ClassId} {f : Nat → Int64} {i : Int32} {v : Int64} (q0 t0 : Nat) (ha : ws[q0]? = some (a, .inl (cA, n, .inr (.inl f)))) (ht : tys[t0]? = some (cA, .long)) (hin : vp_in i n) (hv : f i.toNatClampNeg = v) (hdg : decode cc pc = .ok (.laload, 1)) (k : zW p l e R s m args below meth c cells slots Q D A nL ws lv (pc + 1) (.long v :: st)) : zW p l e R s m args below meth c cells slots Q D A nL ws lv pc (.int i :: .ref a :: st) := fun H locs ls hP hD hS hl =>
  va_lald F.1.1 F.1.2.1 F.2.1 hP q0 t0 ha ht hin hdg (by rw [hv]; exact k H locs ls hP hD hS hl)
theorem zi_callYI (F : zF p m c cc nL s args Ts own D tys A) (hsx : zSx s) {y : MethodName} {bytes : ByteArray} {maxL index n : Nat} {ret : Option FieldType} {hh : List (Nat × Nat × Nat × Nat)} {wy : List Cond} {rm : Room} {As rest : List Value} {Wc Wn : va_W} {r : Int32} (hM : zYI l D tys y wy rm As Wc r Wn) (cw : vx_CSW R s args own index y bytes maxL ret hh wy rm 1 6 n) (w1 w2 : va_W) (hws : ws = w1 ++ (Wc ++ w2)) (hwn : w1 ++ (Wn ++ w2) = ws') (hn : As.length = n) (hst : st = As.reverse ++ rest) (hrm : (rest.map fun v => v.category).sum ≤ 8) (hdg : decode cc pc = .ok (.invokestatic index, 3)) (hR : cells + 1 ≤ R.cells ∧ slots + 6 ≤ R.slots) (k : zW p l e R s m args below meth c (cells + 1) (slots + 6) Q D A nL ws' lv (pc + 3) (.int r :: rest)) : zW p l e R s m args below meth c cells slots Q D A nL ws lv pc st := fun H locs ls hP hD hS hl => by
  subst hws
  subst hst
  have hPc := zcutP hP
  have hDc := zcutD hD
  have hFc := zfree hD hS F.2.2.1
  refine vx_calli (vx_runSX (As := As) (rest := rest) F.1 (hM H.size) cw ⟨zPx_blind, fun U hU hW => ⟨rfl, ⟨by rw [hU], by rw [hU]; exact hPc, va_K.moved hW.alike F.2.1, hDc.weaken (fun _ _ _ _ => trivial), by rw [hU]; exact zSt.to F.2.2.2 hW hS.2.1 hFc⟩, zSx.to hsx hW⟩⟩ rfl hn hl.1 rfl (lv_room hrm) hdg hR) hS (fun q _ h => hFc q h) hFc (fun q _ h => hFc q h) (fun En ce q9 u t H1 locs1 ht hvm hw9 hB hz1 hk1 hS1 hce hcv hcl => hB.elim) (fun r1 u t H1 locs1 ht hvm hw9 hB hz1 hk1 hS1 => ?_)
  subst hw9
  obtain ⟨hP1, hD1⟩ := hB
  rw [ht] at hP1
  obtain ⟨hP2, hD2⟩ := zjoin hP hD hk1 hFc hP1 hD1
  exact k H1 locs1 ls (hwn ▸ hP2) (hwn ▸ hD2) hS1 hl
end ZY
def zWq (G : zG_t) (oa : Nat) (f : Nat → Int64) (w : va_W) : va_W := (oa, .inl (G.2.1 3, 1, .inr (.inl f))) :: w
theorem zWq_cut (G : zG_t) (oa : Nat) (f : Nat → Int64) (w : va_W) : zWq G oa f w = [(oa, .inl (G.2.1 3, 1, .inr (.inl f)))] ++ (w ++ []) := by simp [zWq]
def zk1 (x : Option String) : Int32 := if x = none then 0 else 1
def zk2 (x : Option String) : Int32 := if x = none then 0 else if x = some "java/lang/IndexOutOfBoundsException" then 1 else 2
def zot (x : Option String) (r : Int32) (f : Nat → Int64) : Nat → Int64 := if x = none then vp_updL f (0 : Int32).toNatClampNeg r.toInt64 else f
theorem znoc {U : State} (h : zSx U) {a b : String} (hm : (a, b) ∈ zPairs) : va_Nc a b U := h.2.1 _ hm
theorem zcas {U : State} (h : zSx U) {a : String} (hm : a ∈ zExc) : va_Nw (.castable a a) U := h.1 _ hm
