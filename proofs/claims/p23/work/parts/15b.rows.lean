theorem zsF_s (S : zS_t) (k : Nat) (g : Nat → Int32) : zsF S k g k = g := by
  unfold zsF
  rw [Nat.beq_refl]
  rfl
theorem zsF_n (S : zS_t) {k f : Nat} (g : Nat → Int32) (h : f ≠ k) : zsF S k g f = S f := by
  unfold zsF
  cases hb : Nat.beq f k with
  | true => exact absurd (Nat.eq_of_beq_eq_true hb) h
  | false => rfl
theorem zclamp {a : Int32} {n : Nat} (h0 : 0 ≤ a.toInt) (h1 : a.toInt < n) : a.toNatClampNeg < n := by
  show a.toInt.toNat < n
  omega
theorem zwM_row (G : zG_t) (M K : zS_t) {i : Nat} (hi : i < 40) : (zWM G M K)[3 + i]? = some (G.2.2 5 i, .inl (G.2.1 0, 24, .inl (K i))) := by
  unfold zWM
  rw [List.getElem?_append_right (show (zWM0 G M).length ≤ 3 + i from by show 3 ≤ 3 + i; omega)]
  have e : 3 + i - (zWM0 G M).length = i := by show 3 + i - 3 = i; omega
  rw [e, List.getElem?_map, List.getElem?_range hi]
  rfl
theorem zwM_len (G : zG_t) (M K : zS_t) : (zWM G M K).length = 43 := by
  unfold zWM
  rw [List.length_append, List.length_map, List.length_range]
  rfl
theorem zwM_lo (G : zG_t) (M K K2 : zS_t) {j : Nat} (hj : j < 3) : (zWM G M K)[j]? = (zWM G M K2)[j]? := by
  unfold zWM
  rw [List.getElem?_append_left (show j < (zWM0 G M).length from hj), List.getElem?_append_left (show j < (zWM0 G M).length from hj)]
theorem zwM_set {G : zG_t} {M K : zS_t} {i : Nat} (hi : i < 40) (g : Nat → Int32) : (zWM G M K).set (3 + i) (G.2.2 5 i, .inl (G.2.1 0, 24, .inl g)) = zWM G M (zsF K i g) := by
  apply List.ext_getElem?
  intro j
  by_cases h : j = 3 + i
  · subst h
    rw [List.getElem?_set_self (by rw [zwM_len]; omega), zwM_row G M (zsF K i g) hi, zsF_s]
  · rw [List.getElem?_set_ne (Ne.symm h)]
    by_cases h3 : j < 3
    · exact zwM_lo G M K (zsF K i g) h3
    · obtain ⟨k, rfl⟩ : ∃ k, j = 3 + k := ⟨j - 3, by omega⟩
      by_cases hk : k < 40
      · rw [zwM_row G M K hk, zwM_row G M (zsF K i g) hk, zsF_n K g (by omega)]
      · rw [List.getElem?_eq_none (by rw [zwM_len]; omega), List.getElem?_eq_none (by rw [zwM_len]; omega)]
section ZR
variable {p : Program} {l : Launch} {e : Env} {R : Room} {s : State} {m : MethodId} {args : Array Value} {below : List Frame} {meth : Method} {c : Code} {cells slots : Nat} {Q : State → Prop}
variable {cc : ByteArray} {nL : Nat} {Ts : List Cond} {own : String} {D : va_G} {tys : List (ClassId × FieldType)} {A : Nat → Prop} {ws ws' : va_W} {lv lv' : List (Nat × Value)} {st : List Value} {pc : Nat}
theorem zi_aldg (F : zF p m c cc nL s args Ts own D tys A) {a n : Nat} {cG : ClassId} {f : Nat → Option Nat} {i : Int32} (q0 t0 : Nat) (ha : ws[q0]? = some (a, .inl (cG, n, .inr (.inr (.inr (.inr f)))))) (ht : tys[t0]? = some (cG, .array .int)) (hin : vp_in i n) (hdg : decode cc pc = .ok (.aaload, 1)) (k : zW p l e R s m args below meth c cells slots Q D A nL ws lv (pc + 1) (va_rf (f i.toNatClampNeg) :: st)) : zW p l e R s m args below meth c cells slots Q D A nL ws lv pc (.int i :: .ref a :: st) := fun H locs ls hP hD hS hl => by
  have hlt : i.toNatClampNeg < n := Nat.not_le.mp fun q => hin (Or.inr q)
  exact W.aald (v := va_rf (f i.toNatClampNeg)) (ty := .array .int) F.1.1 F.1.2.1 (hP q0 _ ha) ((F.2.1.2 t0 _ ht).1 n (fun j => va_rf (f j))) rfl (fun q => by cases q) (by show ¬ (i < 0 ∨ (arrV _ _ _).slots.size ≤ _); rw [arrV_size]; exact hin) (by show (arrV _ _ _).slots[_]? = _; rw [arrV_read _ _ hlt]) rfl rfl hdg (k H locs ls hP hD hS hl)
theorem zkept_at {ad : Nat → Nat} {j n : Nat} (h : j < n) : va_rf (if j < n then some (ad j) else none) = .ref (ad j) := by rw [if_pos h]; rfl
theorem zi_kept (F : zF p m c cc nL s args Ts own D tys A) {a : Nat} {cG : ClassId} {ad : Nat → Nat} {i : Int32} (q0 t0 : Nat) (ha : ws[q0]? = some (a, .inl (cG, 40, .inr (.inr (.inr (.inr (fun i => if i < 40 then some (ad i) else none))))))) (ht : tys[t0]? = some (cG, .array .int)) (hin : vp_in i 40) (hdg : decode cc pc = .ok (.aaload, 1)) (k : zW p l e R s m args below meth c cells slots Q D A nL ws lv (pc + 1) (.ref (ad i.toNatClampNeg) :: st)) : zW p l e R s m args below meth c cells slots Q D A nL ws lv pc (.int i :: .ref a :: st) :=
  zi_aldg F q0 t0 ha ht hin hdg (by rw [zkept_at (Nat.not_le.mp fun q => hin (Or.inr q))]; exact k)
theorem zi_copy (F : zF p m c cc nL s args Ts own D tys A) {a0 a n0 n1 index : Nat} {c0 c1 : ClassId} {f g : Nat → Int32} {sp dp n : Int32} (hlink : Cond.methodLink own index arraycopyName ∈ Ts) (hnat : Cond.native arraycopyName ∈ Ts) (hstat : Cond.static arraycopyName ∈ Ts) (hini : Cond.initialized "java/lang/System" ∈ Ts) (q0 q1 : Nat) (ha0 : ws[q0]? = some (a0, .inl (c0, n0, .inl f))) (ha1 : ws[q1]? = some (a, .inl (c1, n1, .inl g))) (ht0 : tys[0]? = some (c0, .int)) (ht1 : tys[0]? = some (c1, .int)) (h1 : ¬ sp < 0) (h2 : ¬ dp < 0) (h3 : ¬ n < 0) (h4 : sp.toNatClampNeg + n.toNatClampNeg ≤ n0) (h5 : dp.toNatClampNeg + n.toNatClampNeg ≤ n1) (hws : ws.set q1 (a, .inl (c1, n1, .inl (va_cpy f g sp.toNatClampNeg dp.toNatClampNeg n.toNatClampNeg))) = ws') (hframes : 1 ≤ R.frames) (hlocals : (st.map fun v => v.category).sum + (nativeFrameWords "java/lang/System" "arraycopy" 5 + 11) ≤ R.locals) (hdg : decode cc pc = .ok (.invokestatic index, 3)) (k : zW p l e R s m args below meth c cells slots Q D A nL ws' lv (pc + 3) st) : zW p l e R s m args below meth c cells slots Q D A nL ws lv pc (.int n :: .int dp :: .ref a :: .int sp :: .ref a0 :: st) := fun H locs ls hP hD hS hl =>
  va_copyi F.1.1 F.1.2.1 (F.1.2.2.1.trans hl.1.symm) F.1.2.2.2.1 (F.1.2.2.2.2 _ hlink) (F.1.2.2.2.2 _ hnat) (F.1.2.2.2.2 _ hstat) (F.1.2.2.2.2 _ hini) F.2.1 hP hD hS q0 q1 0 0 ha0 ha1 ht0 ht1 rfl h1 h2 h3 h4 h5 (fun _ _ => rfl) hframes hlocals hdg (fun H1 locs1 hP1 hD1 hS1 => k H1 locs1 ls (hws ▸ hP1) (hws ▸ hD1) hS1 hl)
end ZR
