/-! constructors: what they ask, how they end -/
def zAOA (U : State) : Prop := (Cond.arrayOver (.array .int)).before #[] U = true
theorem zAOA.moved {u U : State} (hvm : u.vm.Alike U.vm) (h : zAOA u) : zAOA U := Jvm.Stand.arrayOver_alikeB hvm h
def zPn (D : va_G) (tys : List (ClassId × FieldType)) (W0 : va_W) (sz : Nat) (U : State) : Prop := zB D tys W0 sz U ∧ zAOA U
theorem zPn_blind {D : va_G} {tys : List (ClassId × FieldType)} {W0 : va_W} {sz : Nat} {av : List Value} : FrameBlind (va_Pc av (zPn D tys W0 sz)) := by
  intro a U g mk q
  obtain ⟨q1, q2, q3⟩ := q
  have h := zB_blind (D := D) (tys := tys) (W0 := W0) (sz := sz) (av := av) a U g mk ⟨q1, q2⟩
  exact ⟨q1, h.2, zAOA.moved (u := U) (U := U.calling g mk a) (Vm.Alike.refl U.vm) q3⟩
abbrev zU_t : Type := Nat → Nat → Nat
def zad (G : zG_t) (u : zU_t) : zG_t := (G.1, G.2.1, u)
def zZ : zS_t := fun _ _ => 0
/-- constructor y makes of the object at a, which lies in the world W0, the world W1, its new objects anywhere -/
def zCN (l : Launch) (D : va_G) (tys : List (ClassId × FieldType)) (y : MethodName) (wy : List Cond) (rm : Room) (a : Nat) (W0 : va_W) (W1 : zU_t → va_W) : Prop :=
  ∀ sz : Nat, Met l y wy rm (va_Pc [.ref a] (zPn D tys W0 sz)) (va_Qv (fun (_ : zU_t) => True) (fun u t => zEnd D (W1 u) (va_A W0 sz) t) (va_A W0 sz)) rm.cells rm.slots (va_A W0 sz)
theorem zpermP {D : va_G} {cl : List vw_C} {w1 w2 : va_W} {H : Heap} (hp : w1.Perm w2) (h : va_P D cl w1 H) : va_P D cl w2 H := zP_mem.mpr fun q hq => zP_mem.mp h q (hp.mem_iff.mpr hq)
theorem zpermD {A : Nat → Prop} {w1 w2 : va_W} (hp : w1.Perm w2) (h : va_D A w1) : va_D A w2 := by
  obtain ⟨h1, h2⟩ := zD_iff.mp h
  exact zD_iff.mpr ⟨(hp.pairwise_iff (fun {a b} e q => e q.symm)).mp h1, fun q hq => h2 q (hp.mem_iff.mpr hq)⟩
theorem zb_N {l : Launch} {D : va_G} {tys : List (ClassId × FieldType)} {y : MethodName} {wy wr : List Cond} {rm : Room} {a : Nat} {W0 : va_W} {W1 : zU_t → va_W} {cc : ByteArray} {maxL : Nat} (hy : plainName y.cls = true) (hn : y.name = "<init>") (hw : wy = Cond.code y cc maxL none :: wr) (hav : (lg_sl [.ref a]).length ≤ maxL)
    (body : ∀ (p : Program) (e : Env) (s : State) (m : MethodId) (args : Array Value) (below : List Frame) (meth : Method) (c : Code) (Q : State → Prop) (A : Nat → Prop), zF p m c cc maxL s args wy y.cls D tys A → zAOA s → meth.name = "<init>" → (∀ (u : zU_t) (pc : Nat) (lv : List (Nat × Value)) (ws : va_W) (cells slots : Nat), cells = rm.cells → slots = rm.slots → decode cc pc = .ok (.return_, 1) → ws.Perm (W1 u) → zW p l e rm s m args below meth c cells slots Q D A maxL ws lv pc []) → zW p l e rm s m args below meth c 0 0 Q D A maxL W0 (lv_args 0 [.ref a]) 0 []) : zCN l D tys y wy rm a W0 W1 := by
  intro sz
  refine Met.ofW (cc := cc) (maxL := maxL) (ret := none) hy hw ?_
  intro p e s m args below meth c s₁ B hml hv
  obtain ⟨rfl, ⟨hsz, hP, hK, hD0, hst⟩, hao⟩ := hv
  subst hsz
  have hD := hD0.self (sz := s.heap.size)
  have hl := lv_entry [.ref a] (n := maxL) hav
  rw [lg_entry_eq]
  refine body p e s m _ below meth c _ _ ⟨⟨B.exec, B.bytes, hml, findClass_of_methodNamed B.named, atoms_spec (ws := wy) B.pre⟩, hK, fun q h => Or.inr h, hst⟩ hao ((name_of_methodNamed B.named B.method).1.trans hn) ?_ s.heap [] _ hP hD va_S.rf hl
  intro u pc lv ws cells slots hc hs hdg hp H locs ls hP1 hD1 hS1 hl1
  subst hc
  subst hs
  exact W.vret B.exec B.bytes B.returns (fun t ht hW => ⟨⟨u, rfl, trivial, by rw [ht]; exact zpermP hp hP1, zpermD hp hD1⟩, hS1.F ht⟩) hS1.2.2 hdg
section ZC
variable {p : Program} {l : Launch} {e : Env} {R : Room} {s : State} {m : MethodId} {args : Array Value} {below : List Frame} {meth : Method} {c : Code} {cells slots : Nat} {Q : State → Prop}
variable {cc : ByteArray} {nL : Nat} {Ts : List Cond} {own : String} {D : va_G} {tys : List (ClassId × FieldType)} {A : Nat → Prop} {ws ws' : va_W} {lv lv' : List (Nat × Value)} {st : List Value} {pc : Nat}
theorem zi_objI (F : zF p m c cc nL s args Ts own D tys A) {idx a : Nat} (h1 : Cond.methodLink own idx objectInit ∈ Ts) (h2 : Cond.instanceMethod objectInit ∈ Ts) (h3 : Cond.code objectInit ⟨#[0xb1]⟩ 1 none ∈ Ts) (hdg : decode cc pc = .ok (.invokespecial idx, 3)) (hf : 1 ≤ R.frames) (ho : 12 ≤ R.locals) (k : zW p l e R s m args below meth c cells slots Q D A nL ws lv (pc + 3) []) : zW p l e R s m args below meth c cells slots Q D A nL ws lv pc [.ref a] := fun H locs ls hP hD hS hl =>
  W.objInit F.1.1 F.1.2.1 F.1.2.2.2.1 (F.1.2.2.2.2 _ h1) (F.1.2.2.2.2 _ h2) (F.1.2.2.2.2 _ h3) rfl (hl.1.trans F.1.2.2.1.symm) rfl hdg hf ho (k H locs ls hP hD hS hl)
theorem zi_newa (F : zF p m c cc nL s args Ts own D tys A) {atype : ArrayType} {n : Int32} {N : Nat} {cA : ClassId} {ty : FieldType} (t0 : Nat) (ht : tys[t0]? = some (cA, ty)) (hra : ∀ c9, va_RA s c9 ty → va_RA s cA ty → c9 = cA) (hw : Cond.arrayClass (newarray.typeOf atype) ∈ Ts) (hty : newarray.typeOf atype = ty) {a0 : vp_A} (ha : ∀ c9 : ClassId, vp_cell c9 a0 = arrV c9 N (fun _ => defaultValue ty)) (hn : ¬ n < 0) (hN : n.toNatClampNeg = N) (hb : N * componentBytes ty ≤ 536870912) (hdg : decode cc pc = .ok (.newarray atype, 2)) (hc : cells + 1 ≤ R.cells) (hs : slots + N ≤ R.slots) (k : ∀ q : Nat, zW p l e R s m args below meth c (cells + 1) (slots + N) Q D A nL (ws ++ [(q, .inl (cA, a0))]) lv (pc + 2) (.ref q :: st)) : zW p l e R s m args below meth c cells slots Q D A nL ws lv pc (.int n :: st) := fun H locs ls hP hD hS hl =>
  va_newa F.1.1 F.1.2.1 (F.1.2.2.2.2 _ hw) hty F.2.1 hP hD hS F.2.2.1 ha hn hN hb hc hs hdg (fun q c9 H1 hK1 hP1 hD1 hS1 => by
    have h9 := (hK1.2 tys.length (c9, ty) (by simp)).2
    have e9 : c9 = cA := hra c9 h9 (F.2.1.2 t0 _ ht).2
    subst e9
    exact k q H1 locs ls hP1 hD1 hS1 hl)
theorem zi_mna (F : zF p m c cc nL s args Ts own D tys A) (hao : zAOA s) {index : Nat} {cA cy : ClassId} (t0 t1 : Nat) (ht : tys[t0]? = some (cA, .array .int)) (ht1 : tys[t1]? = some (cy, .int)) (hcl : Cond.classLink own index "[[I" ∈ Ts) (hw : Cond.arrayClass .int ∈ Ts) {n9 k9 : Int32} {N K : Nat} (hn : ¬ n9 < 0) (hk : ¬ k9 < 0) (hN : n9.toNatClampNeg = N) (hK9 : k9.toNatClampNeg = K) (hb1 : N * 4 ≤ 536870912) (hb2 : K * 4 ≤ 536870912) (hc : cells + (1 + N) ≤ R.cells) (hs : slots + (N + N * K) ≤ R.slots) (hdg : decode cc pc = .ok (.multianewarray index 2, 4)) (k : ∀ (q : Nat) (r : Nat → Nat), zW p l e R s m args below meth c (cells + 1 + N) (slots + N + N * K) Q D A nL ((ws ++ [(q, .inl (cA, N, .inr (.inr (.inr (.inr (fun i => if i < N then some (r i) else none))))))]) ++ (List.range N).map (fun i => (r i, .inl (cy, K, .inl (fun _ => 0))))) lv (pc + 4) (.ref q :: st)) : zW p l e R s m args below meth c cells slots Q D A nL ws lv pc (.int k9 :: .int n9 :: st) := fun H locs ls hP hD hS hl => by
  have e0 : ws = ws ++ va_pl [] (fun _ => .inl (cA, 0, .inl (fun _ => 0))) := by simp [va_pl]
  refine va_mna (X := ws) (L := []) (f := fun _ => .inl (cA, 0, .inl (fun _ => 0))) (z := (K, .inl (fun _ => 0))) F.1.1 F.1.2.1 F.1.2.2.2.1 (F.1.2.2.2.2 _ hcl) hao (F.1.2.2.2.2 _ hw) (F.2.1.2 t1 _ ht1).2 F.2.1 (e0 ▸ hP) (e0 ▸ hD) hS F.2.2.1 hn hk hN hK9 hb1 hb2 (by omega) rfl rfl hc hs (fun c9 => arrV_new _ _ _) hdg (fun q r c9 H1 hi hL hK1 hP1 hD1 hS1 => ?_)
  have h9 := (hK1.2 tys.length (c9, .array .int) (by simp)).2
  have e9 : c9 = cA := Option.some.inj (h9.symm.trans (F.2.1.2 t0 _ ht).2)
  subst e9
  have e1 : va_pl ([] ++ (List.range N).map r) (vr_up (fun _ => .inl (c9, 0, .inl (fun _ => 0))) ((List.range N).map r) (.inl (cy, (K, .inl (fun _ => 0))))) = (List.range N).map (fun i => (r i, .inl (cy, K, .inl (fun _ => 0)))) := by
    unfold va_pl vr_up
    rw [List.nil_append, List.map_map]
    refine List.map_congr_left (fun i hi9 => ?_)
    show (r i, (if r i ∈ (List.range N).map r then _ else _)) = _
    rw [if_pos (List.mem_map.mpr ⟨i, hi9, rfl⟩)]
  rw [e1] at hP1 hD1
  exact k q r H1 locs ls hP1 hD1 hS1 hl
theorem zi_new (F : zF p m c cc nL s args Ts own D tys A) {index ci N : Nat} {C : String} {T : u_T} (hin : ∀ w ∈ u_ws C T N, w ∈ Ts) (ty : Nat → FieldType) (hty : ∀ k, k < N → parseFieldDescriptor (T k).2.2.1 = some (ty k)) (h1 : Cond.classLink own index C ∈ Ts) (h2 : Cond.instantiable C N ∈ Ts) (h3 : Cond.initialized C ∈ Ts) (hc : vwCl[ci]? = some (C, T, N)) (fs : List Value) (hfs : ∀ j, j < N → defaultValue (ty j) = vp_V fs j) (hcells : cells + 1 ≤ R.cells) (hslots : slots + N ≤ R.slots) (hdg : decode cc pc = .ok (.new index, 3)) (k : ∀ q : Nat, zW p l e R s m args below meth c (cells + 1) (slots + N) Q D A nL (ws ++ [(q, .inr (ci, fs))]) lv (pc + 3) (.ref q :: st)) : zW p l e R s m args below meth c cells slots Q D A nL ws lv pc st := fun H locs ls hP hD hS hl =>
  va_new F.1.1 F.1.2.1 F.1.2.2.2.2 hin ty hty F.1.2.2.2.1 (F.1.2.2.2.2 _ h1) (F.1.2.2.2.2 _ h2) (F.1.2.2.2.2 _ h3) F.2.1 hP hD hS F.2.2.1 hc hfs hcells hslots hdg (fun q H1 hP1 hD1 hS1 => k q H1 locs ls hP1 hD1 hS1 hl)
theorem zi_ws {w9 : va_W} (h : ws = w9) (k : zW p l e R s m args below meth c cells slots Q D A nL w9 lv pc st) : zW p l e R s m args below meth c cells slots Q D A nL ws lv pc st := h ▸ k
theorem zi_callC (F : zF p m c cc nL s args Ts own D tys A) (hao : zAOA s) {y : MethodName} {bytes : ByteArray} {maxL index b : Nat} {wy : List Cond} {rm : Room} {host : String} {rest : List Value} {Wc : va_W} {W1 : zU_t → va_W} (hM : zCN l D tys y wy rm b Wc W1) (cw : va_CN R s args own index y host bytes maxL none wy rm rm.cells rm.slots 0 ∧ y.name = "<init>" ∧ (Cond.instanceMethod y).before args s = true) (w1 w2 : va_W) (hws : ws = w1 ++ (Wc ++ w2)) (hrm : (rest.map fun v => v.category).sum ≤ 8) (hdg : decode cc pc = .ok (.invokespecial index, 3)) (hR : cells + rm.cells ≤ R.cells ∧ slots + rm.slots ≤ R.slots) (k : ∀ u : zU_t, zW p l e R s m args below meth c (cells + rm.cells) (slots + rm.slots) Q D A nL (w1 ++ (W1 u ++ w2)) lv (pc + 3) rest) : zW p l e R s m args below meth c cells slots Q D A nL ws lv pc (.ref b :: rest) := fun H locs ls hP hD hS hl => by
  subst hws
  have hPc := zcutP hP
  have hDc := zcutD hD
  have hFc := zfree hD hS F.2.2.1
  refine va_callv (va_runIN (As := []) (rest := rest) F.1 (hM H.size) cw ⟨zPn_blind, fun U hU hW => ⟨rfl, ⟨by rw [hU], by rw [hU]; exact hPc, va_K.moved hW.alike F.2.1, hDc.weaken (fun _ _ _ _ => trivial), by rw [hU]; exact zSt.to F.2.2.2 hW hS.2.1 hFc⟩, zAOA.moved hW.alike hao⟩⟩ rfl rfl hl.1 rfl (lv_room hrm) hdg hR) hS (fun q _ h => hFc q h) hFc (fun u t H1 locs1 ht hvm hw9 hB hz1 hk1 hS1 => ?_)
  obtain ⟨hP1, hD1⟩ := hB
  rw [ht] at hP1
  obtain ⟨hP2, hD2⟩ := zjoin hP hD hk1 hFc hP1 hD1
  exact k u H1 locs1 ls hP2 hD2 hS1 hl
theorem zi_callD (F : zF p m c cc nL s args Ts own D tys A) (hao : zAOA s) {y : MethodName} {bytes : ByteArray} {maxL index b : Nat} {wy : List Cond} {rm : Room} {rest : List Value} {Wc : va_W} {W1 : zU_t → va_W} (hM : zCN l D tys y wy rm b Wc W1) (cw : CallB R s args own index y bytes maxL none wy rm rm.cells rm.slots 0 ∧ y.name = "<init>" ∧ (Cond.instanceMethod y).before args s = true) (w1 w2 : va_W) (hws : ws = w1 ++ (Wc ++ w2)) (hrm : (rest.map fun v => v.category).sum ≤ 8) (hdg : decode cc pc = .ok (.invokespecial index, 3)) (hR : cells + rm.cells ≤ R.cells ∧ slots + rm.slots ≤ R.slots) (k : ∀ u : zU_t, zW p l e R s m args below meth c (cells + rm.cells) (slots + rm.slots) Q D A nL (w1 ++ (W1 u ++ w2)) lv (pc + 3) rest) : zW p l e R s m args below meth c cells slots Q D A nL ws lv pc (.ref b :: rest) := fun H locs ls hP hD hS hl => by
  subst hws
  have hPc := zcutP hP
  have hDc := zcutD hD
  have hFc := zfree hD hS F.2.2.1
  refine va_callv (va_runI (As := []) (rest := rest) F.1 (hM H.size) cw ⟨zPn_blind, fun U hU hW => ⟨rfl, ⟨by rw [hU], by rw [hU]; exact hPc, va_K.moved hW.alike F.2.1, hDc.weaken (fun _ _ _ _ => trivial), by rw [hU]; exact zSt.to F.2.2.2 hW hS.2.1 hFc⟩, zAOA.moved hW.alike hao⟩⟩ rfl rfl hl.1 rfl (lv_room hrm) hdg hR) hS (fun q _ h => hFc q h) hFc (fun u t H1 locs1 ht hvm hw9 hB hz1 hk1 hS1 => ?_)
  obtain ⟨hP1, hD1⟩ := hB
  rw [ht] at hP1
  obtain ⟨hP2, hD2⟩ := zjoin hP hD hk1 hFc hP1 hD1
  exact k u H1 locs1 ls hP2 hD2 hS1 hl
end ZC
theorem zra_i {s : State} {c9 cA : ClassId} (h1 : va_RA s c9 .int) (h2 : va_RA s cA .int) : c9 = cA := Option.some.inj (h1.symm.trans h2)
theorem zra_z {s : State} {c9 cA : ClassId} (h1 : va_RA s c9 .boolean) (h2 : va_RA s cA .boolean) : c9 = cA := Option.some.inj (h1.symm.trans h2)
theorem zra_l {s : State} {c9 cA : ClassId} (h1 : va_RA s c9 .long) (h2 : va_RA s cA .long) : c9 = cA := Option.some.inj (h1.symm.trans h2)
