/-! calls of the class between stores written down as numbers -/
section ZE
variable {p : Program} {l : Launch} {e : Env} {R : Room} {s : State} {m : MethodId} {args : Array Value} {below : List Frame} {meth : Method} {c : Code} {cells slots : Nat} {Q : State → Prop}
variable {cc : ByteArray} {nL : Nat} {Ts : List Cond} {own : String} {G : zG_t} {A : Nat → Prop} {lv : List (Nat × Value)} {pc : Nat}
def zck_play (b0 b1 : Int32) (a0 a1 a2 a4 : zD_t) (r : Int32) (y0 y2 y4 : zD_t) : Bool := (mX4_play b0 b1 (zd a0) (zd a1) (zd a2) (zd a4)).1.isNone && (((mX4_play b0 b1 (zd a0) (zd a1) (zd a2) (zd a4)).2.1 == r) && (zqL (mX4_play b0 b1 (zd a0) (zd a1) (zd a2) (zd a4)).2.2.1 (zd y0) && (zqE (mX4_play b0 b1 (zd a0) (zd a1) (zd a2) (zd a4)).2.2.2.1 (zd y2) && (zqM (mX4_play b0 b1 (zd a0) (zd a1) (zd a2) (zd a4)).2.2.2.2 (zd y4)))))
theorem zr_play (hfl : l.stackTraces = false) (F : zF p m c cc nL s args Ts own G.1 (zty G) A) (hsx : zSx s) {b0 b1 r : Int32} {a0 a1 a2 a3 a4 a5 y0 y2 y4 : zD_t} (h : zck_play b0 b1 a0 a1 a2 a4 r y0 y2 y4 = true) (hT : zIT (zd a1)) (hE : zIE (zd a2)) (hM : zIM (zd a4)) {index : Nat} {rest : List Value} (cw : CallW R s args own RX4 index yX4_play cX4_play 3 (some .int) wsX4_play rmX4_play 1 6 2) (hrm : (rest.map fun v => v.category).sum ≤ 8) (hdg : decode cc pc = .ok (.invokevirtual index, 3)) (hR : cells + 1 ≤ R.cells ∧ slots + 6 ≤ R.slots) (k : zW p l e R s m args below meth c (cells + 1) (slots + 6) Q G.1 A nL (zWL G (zd y0) (zd a1) (zd y2) (zd a3) (zd y4) (zd a5)) lv (pc + 3) (.int r :: rest)) : zW p l e R s m args below meth c cells slots Q G.1 A nL (zWL G (zd a0) (zd a1) (zd a2) (zd a3) (zd a4) (zd a5)) lv pc (.int b1 :: .int b0 :: .ref (G.2.2 0 0) :: rest) := by
  unfold zck_play at h
  simp only [Bool.and_eq_true] at h
  obtain ⟨qx, qr, qL, qE, qM⟩ := h
  have er : (mX4_play b0 b1 (zd a0) (zd a1) (zd a2) (zd a4)).2.1 = r := eq_of_beq qr
  have hs : zSm (zWL G ((mX4_play b0 b1 (zd a0) (zd a1) (zd a2) (zd a4)).2.2.1) (zd a1) ((mX4_play b0 b1 (zd a0) (zd a1) (zd a2) (zd a4)).2.2.2.1) (zd a3) ((mX4_play b0 b1 (zd a0) (zd a1) (zd a2) (zd a4)).2.2.2.2) (zd a5)) (zWL G (zd y0) (zd a1) (zd y2) (zd a3) (zd y4) (zd a5)) := zqW_s G (zqL_s G qL) (zSm.rf _) (zqE_s G qE) (zSm.rf _) ((zqM_s G qM).app (zSm.rf _))
  have ex : (mX4_play b0 b1 (zd a0) (zd a1) (zd a2) (zd a4)).1 = none := Option.isNone_iff_eq_none.mp qx
  refine zi_callXI (rest := rest) (ws' := zWL G ((mX4_play b0 b1 (zd a0) (zd a1) (zd a2) (zd a4)).2.2.1) (zd a1) ((mX4_play b0 b1 (zd a0) (zd a1) (zd a2) (zd a4)).2.2.2.1) (zd a3) ((mX4_play b0 b1 (zd a0) (zd a1) (zd a2) (zd a4)).2.2.2.2) (zd a5)) F hsx (c_X4_play l hfl G b0 b1 (zd a0) (zd a1) (zd a2) (zd a3) (zd a4) (zd a5) hT hE hM) cw 0 rfl rfl [] [] (zw_nil _) (zw_nil _).symm rfl rfl hrm hdg hR (fun En h9 => ?_) (fun h9 => ?_)
  · rw [ex] at h9; cases h9
  · refine zi_toplit er ?_
    exact zi_norm hs k
def zck_obstacle (b0 b1 : Int32) (a0 a1 a2 : zD_t) (r : Int32) : Bool := (mX4_obstacle b0 b1 (zd a0) (zd a1) (zd a2)).1.isNone && (((mX4_obstacle b0 b1 (zd a0) (zd a1) (zd a2)).2 == r))
theorem zr_obstacle (hfl : l.stackTraces = false) (F : zF p m c cc nL s args Ts own G.1 (zty G) A) (hsx : zSx s) {b0 b1 r : Int32} {a0 a1 a2 a3 a4 a5 : zD_t} (h : zck_obstacle b0 b1 a0 a1 a2 r  = true) (hE : zIE (zd a2)) {index : Nat} {rest : List Value} (cw : CallW R s args own RX4 index yX4_obstacle cX4_obstacle 3 (some .int) wsX4_obstacle rmX4_obstacle 1 6 2) (hrm : (rest.map fun v => v.category).sum ≤ 8) (hdg : decode cc pc = .ok (.invokevirtual index, 3)) (hR : cells + 1 ≤ R.cells ∧ slots + 6 ≤ R.slots) (k : zW p l e R s m args below meth c (cells + 1) (slots + 6) Q G.1 A nL (zWL G (zd a0) (zd a1) (zd a2) (zd a3) (zd a4) (zd a5)) lv (pc + 3) (.int r :: rest)) : zW p l e R s m args below meth c cells slots Q G.1 A nL (zWL G (zd a0) (zd a1) (zd a2) (zd a3) (zd a4) (zd a5)) lv pc (.int b1 :: .int b0 :: .ref (G.2.2 0 0) :: rest) := by
  unfold zck_obstacle at h
  simp only [Bool.and_eq_true] at h
  obtain ⟨qx, qr⟩ := h
  have er : (mX4_obstacle b0 b1 (zd a0) (zd a1) (zd a2)).2 = r := eq_of_beq qr
  have ex : (mX4_obstacle b0 b1 (zd a0) (zd a1) (zd a2)).1 = none := Option.isNone_iff_eq_none.mp qx
  refine zi_callXI (rest := rest) (ws' := zWL G (zd a0) (zd a1) (zd a2) (zd a3) (zd a4) (zd a5)) F hsx (c_X4_obstacle l hfl G b0 b1 (zd a0) (zd a1) (zd a2) (zd a3) (zd a4) (zd a5) hE) cw 0 rfl rfl [] [] (zw_nil _) (zw_nil _).symm rfl rfl hrm hdg hR (fun En h9 => ?_) (fun h9 => ?_)
  · rw [ex] at h9; cases h9
  · refine zi_toplit er ?_
    exact k
def zck_pass (a0 a1 a2 a3 a4 a5 : zD_t) (r : Int32) (y0 y1 y2 y3 y4 y5 : zD_t) : Bool := ((mX4_pass (zd a0) (zd a1) (zd a2) (zd a3) (zd a4) (zd a5)).1 == r) && (zqL (mX4_pass (zd a0) (zd a1) (zd a2) (zd a3) (zd a4) (zd a5)).2.1 (zd y0) && (zqT (mX4_pass (zd a0) (zd a1) (zd a2) (zd a3) (zd a4) (zd a5)).2.2.1 (zd y1) && (zqE (mX4_pass (zd a0) (zd a1) (zd a2) (zd a3) (zd a4) (zd a5)).2.2.2.1 (zd y2) && (zqV (mX4_pass (zd a0) (zd a1) (zd a2) (zd a3) (zd a4) (zd a5)).2.2.2.2.1 (zd y3) && (zqM (mX4_pass (zd a0) (zd a1) (zd a2) (zd a3) (zd a4) (zd a5)).2.2.2.2.2.1 (zd y4) && (zqK (mX4_pass (zd a0) (zd a1) (zd a2) (zd a3) (zd a4) (zd a5)).2.2.2.2.2.2 (zd y5)))))))
theorem zr_pass (hfl : l.stackTraces = false) (F : zF p m c cc nL s args Ts own G.1 (zty G) A) (hsx : zSx s) {r : Int32} {a0 a1 a2 a3 a4 a5 y0 y1 y2 y3 y4 y5 : zD_t} (h : zck_pass a0 a1 a2 a3 a4 a5 r y0 y1 y2 y3 y4 y5 = true) (hT : zIT (zd a1)) (hE : zIE (zd a2)) (hM : zIM (zd a4)) {index : Nat} {rest : List Value} (cw : CallW R s args own RX4 index yX4_pass cX4_pass 1 (some .int) wsX4_pass rmX4_pass 0 0 0) (hrm : (rest.map fun v => v.category).sum ≤ 8) (hdg : decode cc pc = .ok (.invokevirtual index, 3)) (hR : cells ≤ R.cells ∧ slots ≤ R.slots) (k : zW p l e R s m args below meth c cells slots Q G.1 A nL (zWL G (zd y0) (zd y1) (zd y2) (zd y3) (zd y4) (zd y5)) lv (pc + 3) (.int r :: rest)) : zW p l e R s m args below meth c cells slots Q G.1 A nL (zWL G (zd a0) (zd a1) (zd a2) (zd a3) (zd a4) (zd a5)) lv pc (.ref (G.2.2 0 0) :: rest) := by
  unfold zck_pass at h
  simp only [Bool.and_eq_true] at h
  obtain ⟨qr, qL, qT, qE, qV, qM, qK⟩ := h
  have er : (mX4_pass (zd a0) (zd a1) (zd a2) (zd a3) (zd a4) (zd a5)).1 = r := eq_of_beq qr
  have hs : zSm (zWL G ((mX4_pass (zd a0) (zd a1) (zd a2) (zd a3) (zd a4) (zd a5)).2.1) ((mX4_pass (zd a0) (zd a1) (zd a2) (zd a3) (zd a4) (zd a5)).2.2.1) ((mX4_pass (zd a0) (zd a1) (zd a2) (zd a3) (zd a4) (zd a5)).2.2.2.1) ((mX4_pass (zd a0) (zd a1) (zd a2) (zd a3) (zd a4) (zd a5)).2.2.2.2.1) ((mX4_pass (zd a0) (zd a1) (zd a2) (zd a3) (zd a4) (zd a5)).2.2.2.2.2.1) ((mX4_pass (zd a0) (zd a1) (zd a2) (zd a3) (zd a4) (zd a5)).2.2.2.2.2.2)) (zWL G (zd y0) (zd y1) (zd y2) (zd y3) (zd y4) (zd y5)) := zqW_s G (zqL_s G qL) (zqT_s G qT) (zqE_s G qE) (zqV_s G qV) (zqK_s G (zqM_s G qM) qK)
  refine zi_callVI (rest := rest) (ws' := zWL G ((mX4_pass (zd a0) (zd a1) (zd a2) (zd a3) (zd a4) (zd a5)).2.1) ((mX4_pass (zd a0) (zd a1) (zd a2) (zd a3) (zd a4) (zd a5)).2.2.1) ((mX4_pass (zd a0) (zd a1) (zd a2) (zd a3) (zd a4) (zd a5)).2.2.2.1) ((mX4_pass (zd a0) (zd a1) (zd a2) (zd a3) (zd a4) (zd a5)).2.2.2.2.1) ((mX4_pass (zd a0) (zd a1) (zd a2) (zd a3) (zd a4) (zd a5)).2.2.2.2.2.1) ((mX4_pass (zd a0) (zd a1) (zd a2) (zd a3) (zd a4) (zd a5)).2.2.2.2.2.2)) F (c_X4_pass l G  (zd a0) (zd a1) (zd a2) (zd a3) (zd a4) (zd a5) hT hE hM) cw 0 rfl rfl [] [] (zw_nil _) (zw_nil _).symm rfl rfl hrm hdg hR ?_
  refine zi_toplit er ?_
  exact zi_norm hs k
def zck_settle (b0 : Int32) (a0 a1 a2 a3 a4 a5 : zD_t) (r : Int32) (y0 y1 y2 y3 y4 y5 : zD_t) : Bool := (mX4_settle b0 (zd a0) (zd a1) (zd a2) (zd a3) (zd a4) (zd a5)).1.isNone && (((mX4_settle b0 (zd a0) (zd a1) (zd a2) (zd a3) (zd a4) (zd a5)).2.1 == r) && (zqL (mX4_settle b0 (zd a0) (zd a1) (zd a2) (zd a3) (zd a4) (zd a5)).2.2.1 (zd y0) && (zqT (mX4_settle b0 (zd a0) (zd a1) (zd a2) (zd a3) (zd a4) (zd a5)).2.2.2.1 (zd y1) && (zqE (mX4_settle b0 (zd a0) (zd a1) (zd a2) (zd a3) (zd a4) (zd a5)).2.2.2.2.1 (zd y2) && (zqV (mX4_settle b0 (zd a0) (zd a1) (zd a2) (zd a3) (zd a4) (zd a5)).2.2.2.2.2.1 (zd y3) && (zqM (mX4_settle b0 (zd a0) (zd a1) (zd a2) (zd a3) (zd a4) (zd a5)).2.2.2.2.2.2.1 (zd y4) && (zqK (mX4_settle b0 (zd a0) (zd a1) (zd a2) (zd a3) (zd a4) (zd a5)).2.2.2.2.2.2.2 (zd y5))))))))
theorem zr_settle (hfl : l.stackTraces = false) (F : zF p m c cc nL s args Ts own G.1 (zty G) A) (hsx : zSx s) {b0 r : Int32} {a0 a1 a2 a3 a4 a5 y0 y1 y2 y3 y4 y5 : zD_t} (h : zck_settle b0 a0 a1 a2 a3 a4 a5 r y0 y1 y2 y3 y4 y5 = true) (hT : zIT (zd a1)) (hE : zIE (zd a2)) (hM : zIM (zd a4)) {index : Nat} {rest : List Value} (cw : CallW R s args own RX4 index yX4_settle cX4_settle 3 (some .int) wsX4_settle rmX4_settle 1 6 1) (hrm : (rest.map fun v => v.category).sum ≤ 8) (hdg : decode cc pc = .ok (.invokevirtual index, 3)) (hR : cells + 1 ≤ R.cells ∧ slots + 6 ≤ R.slots) (k : zW p l e R s m args below meth c (cells + 1) (slots + 6) Q G.1 A nL (zWL G (zd y0) (zd y1) (zd y2) (zd y3) (zd y4) (zd y5)) lv (pc + 3) (.int r :: rest)) : zW p l e R s m args below meth c cells slots Q G.1 A nL (zWL G (zd a0) (zd a1) (zd a2) (zd a3) (zd a4) (zd a5)) lv pc (.int b0 :: .ref (G.2.2 0 0) :: rest) := by
  unfold zck_settle at h
  simp only [Bool.and_eq_true] at h
  obtain ⟨qx, qr, qL, qT, qE, qV, qM, qK⟩ := h
  have er : (mX4_settle b0 (zd a0) (zd a1) (zd a2) (zd a3) (zd a4) (zd a5)).2.1 = r := eq_of_beq qr
  have hs : zSm (zWL G ((mX4_settle b0 (zd a0) (zd a1) (zd a2) (zd a3) (zd a4) (zd a5)).2.2.1) ((mX4_settle b0 (zd a0) (zd a1) (zd a2) (zd a3) (zd a4) (zd a5)).2.2.2.1) ((mX4_settle b0 (zd a0) (zd a1) (zd a2) (zd a3) (zd a4) (zd a5)).2.2.2.2.1) ((mX4_settle b0 (zd a0) (zd a1) (zd a2) (zd a3) (zd a4) (zd a5)).2.2.2.2.2.1) ((mX4_settle b0 (zd a0) (zd a1) (zd a2) (zd a3) (zd a4) (zd a5)).2.2.2.2.2.2.1) ((mX4_settle b0 (zd a0) (zd a1) (zd a2) (zd a3) (zd a4) (zd a5)).2.2.2.2.2.2.2)) (zWL G (zd y0) (zd y1) (zd y2) (zd y3) (zd y4) (zd y5)) := zqW_s G (zqL_s G qL) (zqT_s G qT) (zqE_s G qE) (zqV_s G qV) (zqK_s G (zqM_s G qM) qK)
  have ex : (mX4_settle b0 (zd a0) (zd a1) (zd a2) (zd a3) (zd a4) (zd a5)).1 = none := Option.isNone_iff_eq_none.mp qx
  refine zi_callXI (rest := rest) (ws' := zWL G ((mX4_settle b0 (zd a0) (zd a1) (zd a2) (zd a3) (zd a4) (zd a5)).2.2.1) ((mX4_settle b0 (zd a0) (zd a1) (zd a2) (zd a3) (zd a4) (zd a5)).2.2.2.1) ((mX4_settle b0 (zd a0) (zd a1) (zd a2) (zd a3) (zd a4) (zd a5)).2.2.2.2.1) ((mX4_settle b0 (zd a0) (zd a1) (zd a2) (zd a3) (zd a4) (zd a5)).2.2.2.2.2.1) ((mX4_settle b0 (zd a0) (zd a1) (zd a2) (zd a3) (zd a4) (zd a5)).2.2.2.2.2.2.1) ((mX4_settle b0 (zd a0) (zd a1) (zd a2) (zd a3) (zd a4) (zd a5)).2.2.2.2.2.2.2)) F hsx (c_X4_settle l hfl G b0 (zd a0) (zd a1) (zd a2) (zd a3) (zd a4) (zd a5) hT hE hM) cw 0 rfl rfl [] [] (zw_nil _) (zw_nil _).symm rfl rfl hrm hdg hR (fun En h9 => ?_) (fun h9 => ?_)
  · rw [ex] at h9; cases h9
  · refine zi_toplit er ?_
    exact zi_norm hs k
def zck_turn (a0 : zD_t) (r : Int32) : Bool := ((mX4_turn (zd a0)) == r)
theorem zr_turn (hfl : l.stackTraces = false) (F : zF p m c cc nL s args Ts own G.1 (zty G) A) (hsx : zSx s) {r : Int32} {a0 a1 a2 a3 a4 a5 : zD_t} (h : zck_turn a0 r  = true)  {index : Nat} {rest : List Value} (cw : CallW R s args own RX4 index yX4_turn cX4_turn 1 (some .int) wsX4_turn rmX4_turn 0 0 0) (hrm : (rest.map fun v => v.category).sum ≤ 8) (hdg : decode cc pc = .ok (.invokevirtual index, 3)) (hR : cells ≤ R.cells ∧ slots ≤ R.slots) (k : zW p l e R s m args below meth c cells slots Q G.1 A nL (zWL G (zd a0) (zd a1) (zd a2) (zd a3) (zd a4) (zd a5)) lv (pc + 3) (.int r :: rest)) : zW p l e R s m args below meth c cells slots Q G.1 A nL (zWL G (zd a0) (zd a1) (zd a2) (zd a3) (zd a4) (zd a5)) lv pc (.ref (G.2.2 0 0) :: rest) := by
  unfold zck_turn at h
  have qr := h
  have er : (mX4_turn (zd a0)) = r := eq_of_beq qr
  refine zi_callVI (rest := rest) (ws' := zWL G (zd a0) (zd a1) (zd a2) (zd a3) (zd a4) (zd a5)) F (c_X4_turn l G  (zd a0) (zd a1) (zd a2) (zd a3) (zd a4) (zd a5) ) cw 0 rfl rfl [] [] (zw_nil _) (zw_nil _).symm rfl rfl hrm hdg hR ?_
  refine zi_toplit er ?_
  exact k
def zck_acting (a0 : zD_t) (r : Int32) : Bool := ((mX4_acting (zd a0)) == r)
theorem zr_acting (hfl : l.stackTraces = false) (F : zF p m c cc nL s args Ts own G.1 (zty G) A) (hsx : zSx s) {r : Int32} {a0 a1 a2 a3 a4 a5 : zD_t} (h : zck_acting a0 r  = true)  {index : Nat} {rest : List Value} (cw : CallW R s args own RX4 index yX4_acting cX4_acting 1 (some .int) wsX4_acting rmX4_acting 0 0 0) (hrm : (rest.map fun v => v.category).sum ≤ 8) (hdg : decode cc pc = .ok (.invokevirtual index, 3)) (hR : cells ≤ R.cells ∧ slots ≤ R.slots) (k : zW p l e R s m args below meth c cells slots Q G.1 A nL (zWL G (zd a0) (zd a1) (zd a2) (zd a3) (zd a4) (zd a5)) lv (pc + 3) (.int r :: rest)) : zW p l e R s m args below meth c cells slots Q G.1 A nL (zWL G (zd a0) (zd a1) (zd a2) (zd a3) (zd a4) (zd a5)) lv pc (.ref (G.2.2 0 0) :: rest) := by
  unfold zck_acting at h
  have qr := h
  have er : (mX4_acting (zd a0)) = r := eq_of_beq qr
  refine zi_callVI (rest := rest) (ws' := zWL G (zd a0) (zd a1) (zd a2) (zd a3) (zd a4) (zd a5)) F (c_X4_acting l G  (zd a0) (zd a1) (zd a2) (zd a3) (zd a4) (zd a5) ) cw 0 rfl rfl [] [] (zw_nil _) (zw_nil _).symm rfl rfl hrm hdg hR ?_
  refine zi_toplit er ?_
  exact k
def zck_rounds (a0 : zD_t) (r : Int32) : Bool := ((mX4_rounds (zd a0)) == r)
theorem zr_rounds (hfl : l.stackTraces = false) (F : zF p m c cc nL s args Ts own G.1 (zty G) A) (hsx : zSx s) {r : Int32} {a0 a1 a2 a3 a4 a5 : zD_t} (h : zck_rounds a0 r  = true)  {index : Nat} {rest : List Value} (cw : CallW R s args own RX4 index yX4_rounds cX4_rounds 1 (some .int) wsX4_rounds rmX4_rounds 0 0 0) (hrm : (rest.map fun v => v.category).sum ≤ 8) (hdg : decode cc pc = .ok (.invokevirtual index, 3)) (hR : cells ≤ R.cells ∧ slots ≤ R.slots) (k : zW p l e R s m args below meth c cells slots Q G.1 A nL (zWL G (zd a0) (zd a1) (zd a2) (zd a3) (zd a4) (zd a5)) lv (pc + 3) (.int r :: rest)) : zW p l e R s m args below meth c cells slots Q G.1 A nL (zWL G (zd a0) (zd a1) (zd a2) (zd a3) (zd a4) (zd a5)) lv pc (.ref (G.2.2 0 0) :: rest) := by
  unfold zck_rounds at h
  have qr := h
  have er : (mX4_rounds (zd a0)) = r := eq_of_beq qr
  refine zi_callVI (rest := rest) (ws' := zWL G (zd a0) (zd a1) (zd a2) (zd a3) (zd a4) (zd a5)) F (c_X4_rounds l G  (zd a0) (zd a1) (zd a2) (zd a3) (zd a4) (zd a5) ) cw 0 rfl rfl [] [] (zw_nil _) (zw_nil _).symm rfl rfl hrm hdg hR ?_
  refine zi_toplit er ?_
  exact k
def zck_loops (a0 : zD_t) (r : Int32) : Bool := ((mX4_loops (zd a0)) == r)
theorem zr_loops (hfl : l.stackTraces = false) (F : zF p m c cc nL s args Ts own G.1 (zty G) A) (hsx : zSx s) {r : Int32} {a0 a1 a2 a3 a4 a5 : zD_t} (h : zck_loops a0 r  = true)  {index : Nat} {rest : List Value} (cw : CallW R s args own RX4 index yX4_loops cX4_loops 1 (some .int) wsX4_loops rmX4_loops 0 0 0) (hrm : (rest.map fun v => v.category).sum ≤ 8) (hdg : decode cc pc = .ok (.invokevirtual index, 3)) (hR : cells ≤ R.cells ∧ slots ≤ R.slots) (k : zW p l e R s m args below meth c cells slots Q G.1 A nL (zWL G (zd a0) (zd a1) (zd a2) (zd a3) (zd a4) (zd a5)) lv (pc + 3) (.int r :: rest)) : zW p l e R s m args below meth c cells slots Q G.1 A nL (zWL G (zd a0) (zd a1) (zd a2) (zd a3) (zd a4) (zd a5)) lv pc (.ref (G.2.2 0 0) :: rest) := by
  unfold zck_loops at h
  have qr := h
  have er : (mX4_loops (zd a0)) = r := eq_of_beq qr
  refine zi_callVI (rest := rest) (ws' := zWL G (zd a0) (zd a1) (zd a2) (zd a3) (zd a4) (zd a5)) F (c_X4_loops l G  (zd a0) (zd a1) (zd a2) (zd a3) (zd a4) (zd a5) ) cw 0 rfl rfl [] [] (zw_nil _) (zw_nil _).symm rfl rfl hrm hdg hR ?_
  refine zi_toplit er ?_
  exact k
def zck_coins (b0 : Int32) (a0 : zD_t) (r : Int32) : Bool := (mX4_coins b0 (zd a0)).1.isNone && (((mX4_coins b0 (zd a0)).2 == r))
theorem zr_coins (hfl : l.stackTraces = false) (F : zF p m c cc nL s args Ts own G.1 (zty G) A) (hsx : zSx s) {b0 r : Int32} {a0 a1 a2 a3 a4 a5 : zD_t} (h : zck_coins b0 a0 r  = true)  {index : Nat} {rest : List Value} (cw : CallW R s args own RX4 index yX4_coins cX4_coins 2 (some .int) wsX4_coins rmX4_coins 1 6 1) (hrm : (rest.map fun v => v.category).sum ≤ 8) (hdg : decode cc pc = .ok (.invokevirtual index, 3)) (hR : cells + 1 ≤ R.cells ∧ slots + 6 ≤ R.slots) (k : zW p l e R s m args below meth c (cells + 1) (slots + 6) Q G.1 A nL (zWL G (zd a0) (zd a1) (zd a2) (zd a3) (zd a4) (zd a5)) lv (pc + 3) (.int r :: rest)) : zW p l e R s m args below meth c cells slots Q G.1 A nL (zWL G (zd a0) (zd a1) (zd a2) (zd a3) (zd a4) (zd a5)) lv pc (.int b0 :: .ref (G.2.2 0 0) :: rest) := by
  unfold zck_coins at h
  simp only [Bool.and_eq_true] at h
  obtain ⟨qx, qr⟩ := h
  have er : (mX4_coins b0 (zd a0)).2 = r := eq_of_beq qr
  have ex : (mX4_coins b0 (zd a0)).1 = none := Option.isNone_iff_eq_none.mp qx
  refine zi_callXI (rest := rest) (ws' := zWL G (zd a0) (zd a1) (zd a2) (zd a3) (zd a4) (zd a5)) F hsx (c_X4_coins l hfl G b0 (zd a0) (zd a1) (zd a2) (zd a3) (zd a4) (zd a5) ) cw 0 rfl rfl [] [] (zw_nil _) (zw_nil _).symm rfl rfl hrm hdg hR (fun En h9 => ?_) (fun h9 => ?_)
  · rw [ex] at h9; cases h9
  · refine zi_toplit er ?_
    exact k
def zck_things (a1 : zD_t) (r : Int32) : Bool := ((mX4_things (zd a1)) == r)
theorem zr_things (hfl : l.stackTraces = false) (F : zF p m c cc nL s args Ts own G.1 (zty G) A) (hsx : zSx s) {r : Int32} {a0 a1 a2 a3 a4 a5 : zD_t} (h : zck_things a1 r  = true)  {index : Nat} {rest : List Value} (cw : CallW R s args own RX4 index yX4_things cX4_things 1 (some .int) wsX4_things rmX4_things 0 0 0) (hrm : (rest.map fun v => v.category).sum ≤ 8) (hdg : decode cc pc = .ok (.invokevirtual index, 3)) (hR : cells ≤ R.cells ∧ slots ≤ R.slots) (k : zW p l e R s m args below meth c cells slots Q G.1 A nL (zWL G (zd a0) (zd a1) (zd a2) (zd a3) (zd a4) (zd a5)) lv (pc + 3) (.int r :: rest)) : zW p l e R s m args below meth c cells slots Q G.1 A nL (zWL G (zd a0) (zd a1) (zd a2) (zd a3) (zd a4) (zd a5)) lv pc (.ref (G.2.2 0 0) :: rest) := by
  unfold zck_things at h
  have qr := h
  have er : (mX4_things (zd a1)) = r := eq_of_beq qr
  refine zi_callVI (rest := rest) (ws' := zWL G (zd a0) (zd a1) (zd a2) (zd a3) (zd a4) (zd a5)) F (c_X4_things l G  (zd a0) (zd a1) (zd a2) (zd a3) (zd a4) (zd a5) ) cw 0 rfl rfl [] [] (zw_nil _) (zw_nil _).symm rfl rfl hrm hdg hR ?_
  refine zi_toplit er ?_
  exact k
def zck_cardOf (b0 : Int32) (a1 : zD_t) (r : Int32) : Bool := (mX4_cardOf b0 (zd a1)).1.isNone && (((mX4_cardOf b0 (zd a1)).2 == r))
theorem zr_cardOf (hfl : l.stackTraces = false) (F : zF p m c cc nL s args Ts own G.1 (zty G) A) (hsx : zSx s) {b0 r : Int32} {a0 a1 a2 a3 a4 a5 : zD_t} (h : zck_cardOf b0 a1 r  = true) (hT : zIT (zd a1)) {index : Nat} {rest : List Value} (cw : CallW R s args own RX4 index yX4_cardOf cX4_cardOf 2 (some .int) wsX4_cardOf rmX4_cardOf 1 6 1) (hrm : (rest.map fun v => v.category).sum ≤ 8) (hdg : decode cc pc = .ok (.invokevirtual index, 3)) (hR : cells + 1 ≤ R.cells ∧ slots + 6 ≤ R.slots) (k : zW p l e R s m args below meth c (cells + 1) (slots + 6) Q G.1 A nL (zWL G (zd a0) (zd a1) (zd a2) (zd a3) (zd a4) (zd a5)) lv (pc + 3) (.int r :: rest)) : zW p l e R s m args below meth c cells slots Q G.1 A nL (zWL G (zd a0) (zd a1) (zd a2) (zd a3) (zd a4) (zd a5)) lv pc (.int b0 :: .ref (G.2.2 0 0) :: rest) := by
  unfold zck_cardOf at h
  simp only [Bool.and_eq_true] at h
  obtain ⟨qx, qr⟩ := h
  have er : (mX4_cardOf b0 (zd a1)).2 = r := eq_of_beq qr
  have ex : (mX4_cardOf b0 (zd a1)).1 = none := Option.isNone_iff_eq_none.mp qx
  refine zi_callXI (rest := rest) (ws' := zWL G (zd a0) (zd a1) (zd a2) (zd a3) (zd a4) (zd a5)) F hsx (c_X4_cardOf l hfl G b0 (zd a0) (zd a1) (zd a2) (zd a3) (zd a4) (zd a5) hT) cw 0 rfl rfl [] [] (zw_nil _) (zw_nil _).symm rfl rfl hrm hdg hR (fun En h9 => ?_) (fun h9 => ?_)
  · rw [ex] at h9; cases h9
  · refine zi_toplit er ?_
    exact k
def zck_controllerOf (b0 b1 : Int32) (a1 a3 : zD_t) (r : Int32) (y3 : zD_t) : Bool := (mX4_controllerOf b0 b1 (zd a1) (zd a3)).1.isNone && (((mX4_controllerOf b0 b1 (zd a1) (zd a3)).2.1 == r) && (zqV (mX4_controllerOf b0 b1 (zd a1) (zd a3)).2.2 (zd y3)))
theorem zr_controllerOf (hfl : l.stackTraces = false) (F : zF p m c cc nL s args Ts own G.1 (zty G) A) (hsx : zSx s) {b0 b1 r : Int32} {a0 a1 a2 a3 a4 a5 y3 : zD_t} (h : zck_controllerOf b0 b1 a1 a3 r y3 = true) (hT : zIT (zd a1)) {index : Nat} {rest : List Value} (cw : CallW R s args own RX4 index yX4_controllerOf cX4_controllerOf 3 (some .int) wsX4_controllerOf rmX4_controllerOf 1 6 2) (hrm : (rest.map fun v => v.category).sum ≤ 8) (hdg : decode cc pc = .ok (.invokevirtual index, 3)) (hR : cells + 1 ≤ R.cells ∧ slots + 6 ≤ R.slots) (k : zW p l e R s m args below meth c (cells + 1) (slots + 6) Q G.1 A nL (zWL G (zd a0) (zd a1) (zd a2) (zd y3) (zd a4) (zd a5)) lv (pc + 3) (.int r :: rest)) : zW p l e R s m args below meth c cells slots Q G.1 A nL (zWL G (zd a0) (zd a1) (zd a2) (zd a3) (zd a4) (zd a5)) lv pc (.int b1 :: .int b0 :: .ref (G.2.2 0 0) :: rest) := by
  unfold zck_controllerOf at h
  simp only [Bool.and_eq_true] at h
  obtain ⟨qx, qr, qV⟩ := h
  have er : (mX4_controllerOf b0 b1 (zd a1) (zd a3)).2.1 = r := eq_of_beq qr
  have hs : zSm (zWL G (zd a0) (zd a1) (zd a2) ((mX4_controllerOf b0 b1 (zd a1) (zd a3)).2.2) (zd a4) (zd a5)) (zWL G (zd a0) (zd a1) (zd a2) (zd y3) (zd a4) (zd a5)) := zqW_s G (zSm.rf _) (zSm.rf _) (zSm.rf _) (zqV_s G qV) (zSm.rf _)
  have ex : (mX4_controllerOf b0 b1 (zd a1) (zd a3)).1 = none := Option.isNone_iff_eq_none.mp qx
  refine zi_callXI (rest := rest) (ws' := zWL G (zd a0) (zd a1) (zd a2) ((mX4_controllerOf b0 b1 (zd a1) (zd a3)).2.2) (zd a4) (zd a5)) F hsx (c_X4_controllerOf l hfl G b0 b1 (zd a0) (zd a1) (zd a2) (zd a3) (zd a4) (zd a5) hT) cw 0 rfl rfl [] [] (zw_nil _) (zw_nil _).symm rfl rfl hrm hdg hR (fun En h9 => ?_) (fun h9 => ?_)
  · rw [ex] at h9; cases h9
  · refine zi_toplit er ?_
    exact zi_norm hs k
def zck_kindsOf (b0 b1 : Int32) (a1 a3 : zD_t) (r : Int32) (y3 : zD_t) : Bool := (mX4_kindsOf b0 b1 (zd a1) (zd a3)).1.isNone && (((mX4_kindsOf b0 b1 (zd a1) (zd a3)).2.1 == r) && (zqV (mX4_kindsOf b0 b1 (zd a1) (zd a3)).2.2 (zd y3)))
theorem zr_kindsOf (hfl : l.stackTraces = false) (F : zF p m c cc nL s args Ts own G.1 (zty G) A) (hsx : zSx s) {b0 b1 r : Int32} {a0 a1 a2 a3 a4 a5 y3 : zD_t} (h : zck_kindsOf b0 b1 a1 a3 r y3 = true) (hT : zIT (zd a1)) {index : Nat} {rest : List Value} (cw : CallW R s args own RX4 index yX4_kindsOf cX4_kindsOf 3 (some .int) wsX4_kindsOf rmX4_kindsOf 1 6 2) (hrm : (rest.map fun v => v.category).sum ≤ 8) (hdg : decode cc pc = .ok (.invokevirtual index, 3)) (hR : cells + 1 ≤ R.cells ∧ slots + 6 ≤ R.slots) (k : zW p l e R s m args below meth c (cells + 1) (slots + 6) Q G.1 A nL (zWL G (zd a0) (zd a1) (zd a2) (zd y3) (zd a4) (zd a5)) lv (pc + 3) (.int r :: rest)) : zW p l e R s m args below meth c cells slots Q G.1 A nL (zWL G (zd a0) (zd a1) (zd a2) (zd a3) (zd a4) (zd a5)) lv pc (.int b1 :: .int b0 :: .ref (G.2.2 0 0) :: rest) := by
  unfold zck_kindsOf at h
  simp only [Bool.and_eq_true] at h
  obtain ⟨qx, qr, qV⟩ := h
  have er : (mX4_kindsOf b0 b1 (zd a1) (zd a3)).2.1 = r := eq_of_beq qr
  have hs : zSm (zWL G (zd a0) (zd a1) (zd a2) ((mX4_kindsOf b0 b1 (zd a1) (zd a3)).2.2) (zd a4) (zd a5)) (zWL G (zd a0) (zd a1) (zd a2) (zd y3) (zd a4) (zd a5)) := zqW_s G (zSm.rf _) (zSm.rf _) (zSm.rf _) (zqV_s G qV) (zSm.rf _)
  have ex : (mX4_kindsOf b0 b1 (zd a1) (zd a3)).1 = none := Option.isNone_iff_eq_none.mp qx
  refine zi_callXI (rest := rest) (ws' := zWL G (zd a0) (zd a1) (zd a2) ((mX4_kindsOf b0 b1 (zd a1) (zd a3)).2.2) (zd a4) (zd a5)) F hsx (c_X4_kindsOf l hfl G b0 b1 (zd a0) (zd a1) (zd a2) (zd a3) (zd a4) (zd a5) hT) cw 0 rfl rfl [] [] (zw_nil _) (zw_nil _).symm rfl rfl hrm hdg hR (fun En h9 => ?_) (fun h9 => ?_)
  · rw [ex] at h9; cases h9
  · refine zi_toplit er ?_
    exact zi_norm hs k
def zck_strengthOf (b0 b1 : Int32) (a1 a3 : zD_t) (r : Int32) (y3 : zD_t) : Bool := (mX4_strengthOf b0 b1 (zd a1) (zd a3)).1.isNone && (((mX4_strengthOf b0 b1 (zd a1) (zd a3)).2.1 == r) && (zqV (mX4_strengthOf b0 b1 (zd a1) (zd a3)).2.2 (zd y3)))
theorem zr_strengthOf (hfl : l.stackTraces = false) (F : zF p m c cc nL s args Ts own G.1 (zty G) A) (hsx : zSx s) {b0 b1 r : Int32} {a0 a1 a2 a3 a4 a5 y3 : zD_t} (h : zck_strengthOf b0 b1 a1 a3 r y3 = true) (hT : zIT (zd a1)) {index : Nat} {rest : List Value} (cw : CallW R s args own RX4 index yX4_strengthOf cX4_strengthOf 3 (some .int) wsX4_strengthOf rmX4_strengthOf 1 6 2) (hrm : (rest.map fun v => v.category).sum ≤ 8) (hdg : decode cc pc = .ok (.invokevirtual index, 3)) (hR : cells + 1 ≤ R.cells ∧ slots + 6 ≤ R.slots) (k : zW p l e R s m args below meth c (cells + 1) (slots + 6) Q G.1 A nL (zWL G (zd a0) (zd a1) (zd a2) (zd y3) (zd a4) (zd a5)) lv (pc + 3) (.int r :: rest)) : zW p l e R s m args below meth c cells slots Q G.1 A nL (zWL G (zd a0) (zd a1) (zd a2) (zd a3) (zd a4) (zd a5)) lv pc (.int b1 :: .int b0 :: .ref (G.2.2 0 0) :: rest) := by
  unfold zck_strengthOf at h
  simp only [Bool.and_eq_true] at h
  obtain ⟨qx, qr, qV⟩ := h
  have er : (mX4_strengthOf b0 b1 (zd a1) (zd a3)).2.1 = r := eq_of_beq qr
  have hs : zSm (zWL G (zd a0) (zd a1) (zd a2) ((mX4_strengthOf b0 b1 (zd a1) (zd a3)).2.2) (zd a4) (zd a5)) (zWL G (zd a0) (zd a1) (zd a2) (zd y3) (zd a4) (zd a5)) := zqW_s G (zSm.rf _) (zSm.rf _) (zSm.rf _) (zqV_s G qV) (zSm.rf _)
  have ex : (mX4_strengthOf b0 b1 (zd a1) (zd a3)).1 = none := Option.isNone_iff_eq_none.mp qx
  refine zi_callXI (rest := rest) (ws' := zWL G (zd a0) (zd a1) (zd a2) ((mX4_strengthOf b0 b1 (zd a1) (zd a3)).2.2) (zd a4) (zd a5)) F hsx (c_X4_strengthOf l hfl G b0 b1 (zd a0) (zd a1) (zd a2) (zd a3) (zd a4) (zd a5) hT) cw 0 rfl rfl [] [] (zw_nil _) (zw_nil _).symm rfl rfl hrm hdg hR (fun En h9 => ?_) (fun h9 => ?_)
  · rw [ex] at h9; cases h9
  · refine zi_toplit er ?_
    exact zi_norm hs k
def zck_power (b0 : Int32) (a1 a3 : zD_t) (r : Int32) (y3 : zD_t) : Bool := (mX4_power b0 (zd a1) (zd a3)).1.isNone && (((mX4_power b0 (zd a1) (zd a3)).2.1 == r) && (zqV (mX4_power b0 (zd a1) (zd a3)).2.2 (zd y3)))
theorem zr_power (hfl : l.stackTraces = false) (F : zF p m c cc nL s args Ts own G.1 (zty G) A) (hsx : zSx s) {b0 r : Int32} {a0 a1 a2 a3 a4 a5 y3 : zD_t} (h : zck_power b0 a1 a3 r y3 = true) (hT : zIT (zd a1)) {index : Nat} {rest : List Value} (cw : CallW R s args own RX4 index yX4_power cX4_power 4 (some .int) wsX4_power rmX4_power 1 6 1) (hrm : (rest.map fun v => v.category).sum ≤ 8) (hdg : decode cc pc = .ok (.invokevirtual index, 3)) (hR : cells + 1 ≤ R.cells ∧ slots + 6 ≤ R.slots) (k : zW p l e R s m args below meth c (cells + 1) (slots + 6) Q G.1 A nL (zWL G (zd a0) (zd a1) (zd a2) (zd y3) (zd a4) (zd a5)) lv (pc + 3) (.int r :: rest)) : zW p l e R s m args below meth c cells slots Q G.1 A nL (zWL G (zd a0) (zd a1) (zd a2) (zd a3) (zd a4) (zd a5)) lv pc (.int b0 :: .ref (G.2.2 0 0) :: rest) := by
  unfold zck_power at h
  simp only [Bool.and_eq_true] at h
  obtain ⟨qx, qr, qV⟩ := h
  have er : (mX4_power b0 (zd a1) (zd a3)).2.1 = r := eq_of_beq qr
  have hs : zSm (zWL G (zd a0) (zd a1) (zd a2) ((mX4_power b0 (zd a1) (zd a3)).2.2) (zd a4) (zd a5)) (zWL G (zd a0) (zd a1) (zd a2) (zd y3) (zd a4) (zd a5)) := zqW_s G (zSm.rf _) (zSm.rf _) (zSm.rf _) (zqV_s G qV) (zSm.rf _)
  have ex : (mX4_power b0 (zd a1) (zd a3)).1 = none := Option.isNone_iff_eq_none.mp qx
  refine zi_callXI (rest := rest) (ws' := zWL G (zd a0) (zd a1) (zd a2) ((mX4_power b0 (zd a1) (zd a3)).2.2) (zd a4) (zd a5)) F hsx (c_X4_power l hfl G b0 (zd a0) (zd a1) (zd a2) (zd a3) (zd a4) (zd a5) hT) cw 0 rfl rfl [] [] (zw_nil _) (zw_nil _).symm rfl rfl hrm hdg hR (fun En h9 => ?_) (fun h9 => ?_)
  · rw [ex] at h9; cases h9
  · refine zi_toplit er ?_
    exact zi_norm hs k
def zck_stack (a2 : zD_t) (r : Int32) : Bool := ((mX4_stack (zd a2)) == r)
theorem zr_stack (hfl : l.stackTraces = false) (F : zF p m c cc nL s args Ts own G.1 (zty G) A) (hsx : zSx s) {r : Int32} {a0 a1 a2 a3 a4 a5 : zD_t} (h : zck_stack a2 r  = true)  {index : Nat} {rest : List Value} (cw : CallW R s args own RX4 index yX4_stack cX4_stack 1 (some .int) wsX4_stack rmX4_stack 0 0 0) (hrm : (rest.map fun v => v.category).sum ≤ 8) (hdg : decode cc pc = .ok (.invokevirtual index, 3)) (hR : cells ≤ R.cells ∧ slots ≤ R.slots) (k : zW p l e R s m args below meth c cells slots Q G.1 A nL (zWL G (zd a0) (zd a1) (zd a2) (zd a3) (zd a4) (zd a5)) lv (pc + 3) (.int r :: rest)) : zW p l e R s m args below meth c cells slots Q G.1 A nL (zWL G (zd a0) (zd a1) (zd a2) (zd a3) (zd a4) (zd a5)) lv pc (.ref (G.2.2 0 0) :: rest) := by
  unfold zck_stack at h
  have qr := h
  have er : (mX4_stack (zd a2)) = r := eq_of_beq qr
  refine zi_callVI (rest := rest) (ws' := zWL G (zd a0) (zd a1) (zd a2) (zd a3) (zd a4) (zd a5)) F (c_X4_stack l G  (zd a0) (zd a1) (zd a2) (zd a3) (zd a4) (zd a5) ) cw 0 rfl rfl [] [] (zw_nil _) (zw_nil _).symm rfl rfl hrm hdg hR ?_
  refine zi_toplit er ?_
  exact k
def zck_entryCard (b0 : Int32) (a2 : zD_t) (r : Int32) : Bool := (mX4_entryCard b0 (zd a2)).1.isNone && (((mX4_entryCard b0 (zd a2)).2 == r))
theorem zr_entryCard (hfl : l.stackTraces = false) (F : zF p m c cc nL s args Ts own G.1 (zty G) A) (hsx : zSx s) {b0 r : Int32} {a0 a1 a2 a3 a4 a5 : zD_t} (h : zck_entryCard b0 a2 r  = true) (hE : zIE (zd a2)) {index : Nat} {rest : List Value} (cw : CallW R s args own RX4 index yX4_entryCard cX4_entryCard 2 (some .int) wsX4_entryCard rmX4_entryCard 1 6 1) (hrm : (rest.map fun v => v.category).sum ≤ 8) (hdg : decode cc pc = .ok (.invokevirtual index, 3)) (hR : cells + 1 ≤ R.cells ∧ slots + 6 ≤ R.slots) (k : zW p l e R s m args below meth c (cells + 1) (slots + 6) Q G.1 A nL (zWL G (zd a0) (zd a1) (zd a2) (zd a3) (zd a4) (zd a5)) lv (pc + 3) (.int r :: rest)) : zW p l e R s m args below meth c cells slots Q G.1 A nL (zWL G (zd a0) (zd a1) (zd a2) (zd a3) (zd a4) (zd a5)) lv pc (.int b0 :: .ref (G.2.2 0 0) :: rest) := by
  unfold zck_entryCard at h
  simp only [Bool.and_eq_true] at h
  obtain ⟨qx, qr⟩ := h
  have er : (mX4_entryCard b0 (zd a2)).2 = r := eq_of_beq qr
  have ex : (mX4_entryCard b0 (zd a2)).1 = none := Option.isNone_iff_eq_none.mp qx
  refine zi_callXI (rest := rest) (ws' := zWL G (zd a0) (zd a1) (zd a2) (zd a3) (zd a4) (zd a5)) F hsx (c_X4_entryCard l hfl G b0 (zd a0) (zd a1) (zd a2) (zd a3) (zd a4) (zd a5) hE) cw 0 rfl rfl [] [] (zw_nil _) (zw_nil _).symm rfl rfl hrm hdg hR (fun En h9 => ?_) (fun h9 => ?_)
  · rw [ex] at h9; cases h9
  · refine zi_toplit er ?_
    exact k
def zck_isTrigger (b0 : Int32) (a2 : zD_t) (r : Int32) : Bool := (mX4_isTrigger b0 (zd a2)).1.isNone && (((mX4_isTrigger b0 (zd a2)).2 == r))
theorem zr_isTrigger (hfl : l.stackTraces = false) (F : zF p m c cc nL s args Ts own G.1 (zty G) A) (hsx : zSx s) {b0 r : Int32} {a0 a1 a2 a3 a4 a5 : zD_t} (h : zck_isTrigger b0 a2 r  = true) (hE : zIE (zd a2)) {index : Nat} {rest : List Value} (cw : CallW R s args own RX4 index yX4_isTrigger cX4_isTrigger 2 (some .boolean) wsX4_isTrigger rmX4_isTrigger 1 6 1) (hrm : (rest.map fun v => v.category).sum ≤ 8) (hdg : decode cc pc = .ok (.invokevirtual index, 3)) (hR : cells + 1 ≤ R.cells ∧ slots + 6 ≤ R.slots) (k : zW p l e R s m args below meth c (cells + 1) (slots + 6) Q G.1 A nL (zWL G (zd a0) (zd a1) (zd a2) (zd a3) (zd a4) (zd a5)) lv (pc + 3) (.int r :: rest)) : zW p l e R s m args below meth c cells slots Q G.1 A nL (zWL G (zd a0) (zd a1) (zd a2) (zd a3) (zd a4) (zd a5)) lv pc (.int b0 :: .ref (G.2.2 0 0) :: rest) := by
  unfold zck_isTrigger at h
  simp only [Bool.and_eq_true] at h
  obtain ⟨qx, qr⟩ := h
  have er : (mX4_isTrigger b0 (zd a2)).2 = r := eq_of_beq qr
  have ex : (mX4_isTrigger b0 (zd a2)).1 = none := Option.isNone_iff_eq_none.mp qx
  refine zi_callXI (rest := rest) (ws' := zWL G (zd a0) (zd a1) (zd a2) (zd a3) (zd a4) (zd a5)) F hsx (c_X4_isTrigger l hfl G b0 (zd a0) (zd a1) (zd a2) (zd a3) (zd a4) (zd a5) hE) cw 0 rfl rfl [] [] (zw_nil _) (zw_nil _).symm rfl rfl hrm hdg hR (fun En h9 => ?_) (fun h9 => ?_)
  · rw [ex] at h9; cases h9
  · refine zi_toplit er ?_
    exact k
def zck_entryPlayer (b0 : Int32) (a2 : zD_t) (r : Int32) : Bool := (mX4_entryPlayer b0 (zd a2)).1.isNone && (((mX4_entryPlayer b0 (zd a2)).2 == r))
theorem zr_entryPlayer (hfl : l.stackTraces = false) (F : zF p m c cc nL s args Ts own G.1 (zty G) A) (hsx : zSx s) {b0 r : Int32} {a0 a1 a2 a3 a4 a5 : zD_t} (h : zck_entryPlayer b0 a2 r  = true) (hE : zIE (zd a2)) {index : Nat} {rest : List Value} (cw : CallW R s args own RX4 index yX4_entryPlayer cX4_entryPlayer 2 (some .int) wsX4_entryPlayer rmX4_entryPlayer 1 6 1) (hrm : (rest.map fun v => v.category).sum ≤ 8) (hdg : decode cc pc = .ok (.invokevirtual index, 3)) (hR : cells + 1 ≤ R.cells ∧ slots + 6 ≤ R.slots) (k : zW p l e R s m args below meth c (cells + 1) (slots + 6) Q G.1 A nL (zWL G (zd a0) (zd a1) (zd a2) (zd a3) (zd a4) (zd a5)) lv (pc + 3) (.int r :: rest)) : zW p l e R s m args below meth c cells slots Q G.1 A nL (zWL G (zd a0) (zd a1) (zd a2) (zd a3) (zd a4) (zd a5)) lv pc (.int b0 :: .ref (G.2.2 0 0) :: rest) := by
  unfold zck_entryPlayer at h
  simp only [Bool.and_eq_true] at h
  obtain ⟨qx, qr⟩ := h
  have er : (mX4_entryPlayer b0 (zd a2)).2 = r := eq_of_beq qr
  have ex : (mX4_entryPlayer b0 (zd a2)).1 = none := Option.isNone_iff_eq_none.mp qx
  refine zi_callXI (rest := rest) (ws' := zWL G (zd a0) (zd a1) (zd a2) (zd a3) (zd a4) (zd a5)) F hsx (c_X4_entryPlayer l hfl G b0 (zd a0) (zd a1) (zd a2) (zd a3) (zd a4) (zd a5) hE) cw 0 rfl rfl [] [] (zw_nil _) (zw_nil _).symm rfl rfl hrm hdg hR (fun En h9 => ?_) (fun h9 => ?_)
  · rw [ex] at h9; cases h9
  · refine zi_toplit er ?_
    exact k
def zck_entryTarget (b0 : Int32) (a1 a2 : zD_t) (r : Int32) : Bool := (mX4_entryTarget b0 (zd a1) (zd a2)).1.isNone && (((mX4_entryTarget b0 (zd a1) (zd a2)).2 == r))
theorem zr_entryTarget (hfl : l.stackTraces = false) (F : zF p m c cc nL s args Ts own G.1 (zty G) A) (hsx : zSx s) {b0 r : Int32} {a0 a1 a2 a3 a4 a5 : zD_t} (h : zck_entryTarget b0 a1 a2 r  = true) (hT : zIT (zd a1)) (hE : zIE (zd a2)) {index : Nat} {rest : List Value} (cw : CallW R s args own RX4 index yX4_entryTarget cX4_entryTarget 2 (some .int) wsX4_entryTarget rmX4_entryTarget 1 6 1) (hrm : (rest.map fun v => v.category).sum ≤ 8) (hdg : decode cc pc = .ok (.invokevirtual index, 3)) (hR : cells + 1 ≤ R.cells ∧ slots + 6 ≤ R.slots) (k : zW p l e R s m args below meth c (cells + 1) (slots + 6) Q G.1 A nL (zWL G (zd a0) (zd a1) (zd a2) (zd a3) (zd a4) (zd a5)) lv (pc + 3) (.int r :: rest)) : zW p l e R s m args below meth c cells slots Q G.1 A nL (zWL G (zd a0) (zd a1) (zd a2) (zd a3) (zd a4) (zd a5)) lv pc (.int b0 :: .ref (G.2.2 0 0) :: rest) := by
  unfold zck_entryTarget at h
  simp only [Bool.and_eq_true] at h
  obtain ⟨qx, qr⟩ := h
  have er : (mX4_entryTarget b0 (zd a1) (zd a2)).2 = r := eq_of_beq qr
  have ex : (mX4_entryTarget b0 (zd a1) (zd a2)).1 = none := Option.isNone_iff_eq_none.mp qx
  refine zi_callXI (rest := rest) (ws' := zWL G (zd a0) (zd a1) (zd a2) (zd a3) (zd a4) (zd a5)) F hsx (c_X4_entryTarget l hfl G b0 (zd a0) (zd a1) (zd a2) (zd a3) (zd a4) (zd a5) hT hE) cw 0 rfl rfl [] [] (zw_nil _) (zw_nil _).symm rfl rfl hrm hdg hR (fun En h9 => ?_) (fun h9 => ?_)
  · rw [ex] at h9; cases h9
  · refine zi_toplit er ?_
    exact k
end ZE
