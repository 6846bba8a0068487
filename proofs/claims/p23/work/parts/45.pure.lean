/-! what the law's last part asks of the class's answers -/
theorem zui (x : Int32) : 0 ≤ ((x.toUInt32 >>> (Int32.toUInt32 11 &&& Int32.toUInt32 31)).toInt32).toInt := by
  have e : (Int32.toUInt32 11 &&& Int32.toUInt32 31) = (11 : UInt32) := by decide
  rw [e]
  have h1 : (x.toUInt32 >>> (11 : UInt32)).toNat < 2 ^ 31 := by
    rw [UInt32.toNat_shiftRight]
    have e2 : (11 : UInt32).toNat % 32 = 11 := by decide
    rw [e2, Nat.shiftRight_eq_div_pow]
    have h2 := UInt32.toNat_lt x.toUInt32
    omega
  have h3 : ((x.toUInt32 >>> (11 : UInt32)).toInt32).toInt = (x.toUInt32 >>> (11 : UInt32)).toBitVec.toInt := rfl
  rw [h3, BitVec.toInt_eq_toNat_of_lt (by show 2 * (x.toUInt32 >>> (11 : UInt32)).toNat < 2 ^ 32; omega)]
  exact Int.natCast_nonneg _
theorem zob_ok {a b : Int32} {L T E : zS_t} (h0 : ¬ a < 0) (h1 : a < 14) : mX4_obstacle a b L T E = (none, mX4_findObstacle a b L T E) := by
  unfold mX4_obstacle
  dsimp only [zbnd]
  rw [if_neg h0, if_pos h1]
theorem zfo_room {a b : Int32} {L T E : zS_t} (h : mX4_findObstacle a b L T E = 0) : E 5 0 < 12 := by
  by_cases h5 : E 5 0 < 12
  · exact h5
  · exfalso
    unfold mX4_findObstacle at h
    dsimp only [zbnd] at h
    rw [if_neg h5] at h
    by_cases c1 : mX4_isThing a = 0
    · rw [if_pos c1] at h
      by_cases c2 : mX4_costOf a ≤ mX4_coinsOf (L 6 0) L
      · rw [if_pos c2] at h
        by_cases c3 : mX4_hasTarget a b T E = 0
        · rw [if_pos c3] at h; exact absurd h (by decide)
        · rw [if_neg c3] at h; exact absurd h (by decide)
      · rw [if_neg c2] at h; exact absurd h (by decide)
    · rw [if_neg c1] at h
      by_cases c4 : 0 < E 5 0
      · rw [if_pos c4] at h; exact absurd h (by decide)
      · rw [if_neg c4] at h
        by_cases c5 : L 6 0 = L 5 0
        · rw [if_pos c5] at h
          by_cases c2 : mX4_costOf a ≤ mX4_coinsOf (L 6 0) L
          · rw [if_pos c2] at h
            by_cases c3 : mX4_hasTarget a b T E = 0
            · rw [if_pos c3] at h; exact absurd h (by decide)
            · rw [if_neg c3] at h; exact absurd h (by decide)
          · rw [if_neg c2] at h; exact absurd h (by decide)
        · rw [if_neg c5] at h; exact absurd h (by decide)
theorem zpush5 {c g pl t i : Int32} {E : zS_t} (h : E 5 0 < 12) : (mX0_push c g pl t i E) 5 0 = E 5 0 + 1 := by
  unfold mX0_push
  rw [if_pos h]
  rfl
theorem zpl_ok {a b : Int32} {L T E M : zS_t} (h0 : ¬ a < 0) (h1 : a < 14) (h : mX4_findObstacle a b L T E = 0) : (mX4_play a b L T E M).1 = none ∧ (mX4_play a b L T E M).2.1 = E 5 0 + 1 := by
  have hr := zfo_room h
  unfold mX4_play
  dsimp only [zbnd, zbnd2]
  rw [if_neg h0, if_pos h1, if_pos h]
  exact ⟨rfl, zpush5 hr⟩
theorem zps_ok {L T E V M K : zS_t} : ¬ (mX4_pass L T E V M K).1 < 0 := by
  unfold mX4_pass
  by_cases c1 : 3 ≤ L 7 0 + 1
  · rw [if_pos c1]
    by_cases c2 : E 5 0 ≤ 0
    · rw [if_pos c2]; exact (by decide : ¬ (2 : Int32) < 0)
    · rw [if_neg c2]; exact (by decide : ¬ (1 : Int32) < 0)
  · rw [if_neg c1]; exact (by decide : ¬ (0 : Int32) < 0)
theorem zst_L {en : Int32} (n : Nat) : ∀ (k : Int32) (L T E V M K : zS_t), 0 ≤ k.toInt → k.toInt + n ≤ 1000 → 0 ≤ (mX4_settle_L23 en n k L T E V M K).1.toInt := by
  induction n with
  | zero => intro k L T E V M K h0 _; exact h0
  | succ n ih =>
    intro k L T E V M K h0 h1
    have e1 : (k + 1).toInt = k.toInt + 1 := by
      have k_1 : Int32.toInt 1 = 1 := by decide
      have t := zt_add (a := k) (b := 1) (by omega) (by omega)
      omega
    unfold mX4_settle_L23
    by_cases c1 : en ≤ k
    · rw [if_pos c1]; exact h0
    · rw [if_neg c1]
      by_cases c2 : E 5 0 ≤ 0
      · rw [if_pos c2]; exact h0
      · rw [if_neg c2]
        exact ih _ _ _ _ _ _ _ (by omega) (by omega)
theorem zst_ok {L T E V M K : zS_t} : (mX4_settle 60 L T E V M K).1 = none ∧ ¬ (mX4_settle 60 L T E V M K).2.1 < 0 := by
  have h9 : 0 ≤ (mX4_settle_L23 60 61 0 L T E V M K).1.toInt := zst_L 61 0 L T E V M K (by decide) (by decide)
  unfold mX4_settle
  rw [if_neg (by decide), if_pos (by decide)]
  refine ⟨rfl, fun h => ?_⟩
  have h8 : (mX4_settle_L23 60 61 0 L T E V M K).1 < 0 := h
  have t := zt_lt h8
  have k_0 : Int32.toInt 0 = 0 := by decide
  omega
section ZL
variable {p : Program} {l : Launch} {e : Env} {R : Room} {s : State} {m : MethodId} {args : Array Value} {below : List Frame} {meth : Method} {c : Code} {cells slots : Nat} {Q : State → Prop}
variable {cc : ByteArray} {nL : Nat} {Ts : List Cond} {own : String} {D : va_G} {tys : List (ClassId × FieldType)} {A : Nat → Prop} {ws ws' : va_W} {lv lv' : List (Nat × Value)} {st : List Value} {pc : Nat}
theorem zi_sld (F : zF p m c cc nL s args Ts own D tys A) {b L : Nat} {xs : Nat → Int32} (hX : va_X b L xs s s.heap) (hbl : b < s.heap.size) (hbA : ¬ A b) {i v : Int32} (hin : vp_in i L) (hv : xs i.toNatClampNeg = v) (hdg : decode cc pc = .ok (.iaload, 1)) (k : zW p l e R s m args below meth c cells slots Q D A nL ws lv (pc + 1) (.int v :: st)) : zW p l e R s m args below meth c cells slots Q D A nL ws lv pc (.int i :: .ref b :: st) := fun H locs ls hP hD hS hl =>
  va_sld F.1.1 F.1.2.1 hX hbl hbA hS hin hdg (by rw [hv]; exact k H locs ls hP hD hS hl)
theorem zi_slen (F : zF p m c cc nL s args Ts own D tys A) {b L : Nat} {xs : Nat → Int32} (hX : va_X b L xs s s.heap) (hbl : b < s.heap.size) (hbA : ¬ A b) (hdg : decode cc pc = .ok (.arraylength, 1)) (k : zW p l e R s m args below meth c cells slots Q D A nL ws lv (pc + 1) (.int (Int32.ofNat L) :: st)) : zW p l e R s m args below meth c cells slots Q D A nL ws lv pc (.ref b :: st) := fun H locs ls hP hD hS hl =>
  va_slen F.1.1 F.1.2.1 hX hbl hbA hS hdg (k H locs ls hP hD hS hl)
theorem zi_iushr (F : zF p m c cc nL s args Ts own D tys A) {x y v : Int32} (hdg : decode cc pc = .ok (.iushr, 1)) (hv : (x.toUInt32 >>> (y.toUInt32 &&& Int32.toUInt32 31)).toInt32 = v) (k : zW p l e R s m args below meth c cells slots Q D A nL ws lv (pc + 1) (.int v :: st)) : zW p l e R s m args below meth c cells slots Q D A nL ws lv pc (.int y :: .int x :: st) := fun H locs ls hP hD hS hl => lv_iushr F.1.1 F.1.2.1 hdg hv (k H locs ls hP hD hS hl)
theorem zi_idiv (F : zF p m c cc nL s args Ts own D tys A) {x y : Int32} (hdg : decode cc pc = .ok (.idiv, 1)) (hne : ¬ y = 0) (k : zW p l e R s m args below meth c cells slots Q D A nL ws lv (pc + 1) (.int (x / y) :: st)) : zW p l e R s m args below meth c cells slots Q D A nL ws lv pc (.int y :: .int x :: st) := fun H locs ls hP hD hS hl => lv_idiv F.1.1 F.1.2.1 hdg hne (k H locs ls hP hD hS hl)
end ZL
