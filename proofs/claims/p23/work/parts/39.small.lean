theorem zfirst (G : zG_t) : zSm (zWL G zL0 zZ zZ zZ zZ zZ) (zWL G (zd [[6, 6, 6]]) (zd []) (zd []) (zd []) (zd []) (zd [])) :=
  zqW_s G (zqL_s G (by decide +kernel)) (zqT_s G (by decide +kernel)) (zqE_s G (by decide +kernel)) (zqV_s G (by decide +kernel)) (zqK_s G (zqM_s G (by decide +kernel)) (by decide +kernel))
theorem cr_0o (l : Launch) (hfl : l.stackTraces = false) (G : zG_t) (L T E V M K : zS_t) (hIT : zIT T) (hIE : zIE E) (hIM : zIM M) (a b : Int32) (h0 : ¬ a < 0) (h1 : a < 14) (h : ¬ mX4_findObstacle a b L T E = 0) : zNI l G.1 (zty G) yL_act wsL_act rmL_act [.ref (G.2.2 0 0), .int 0, .int a, .int b] (zWL G L T E V M K) (-73) (zWL G L T E V M K) := by
  have h9 := c_L_act_0 l hfl G a b L T E V M K hIT hIE hIM
  rw [zrf_state h0 h1 h] at h9
  have h8 : zNI l G.1 (zty G) yL_act wsL_act rmL_act [.ref (G.2.2 0 0), .int 0, .int a, .int b] (zWL G L T E V M K) (zac (some "java/lang/IllegalStateException") 0) (zWL G L T E V M K) := h9
  rw [zac_2] at h8
  exact h8
/-- act of a card that can be played, between stores written down -/
theorem zr_act0 {p : Program} {l : Launch} {e : Env} {R : Room} {s : State} {m : MethodId} {args : Array Value} {below : List Frame} {meth : Method} {c : Code} {cells slots : Nat} {Q : State → Prop} {cc : ByteArray} {nL : Nat} {Ts : List Cond} {own : String} {G : zG_t} {A : Nat → Prop} {lv : List (Nat × Value)} {pc : Nat} (hfl : l.stackTraces = false) (F : zF p m c cc nL s args Ts own G.1 (zty G) A) (hsx : zSx s) (hao : zAOA s) {b0 b1 r : Int32} {a0 a1 a2 a3 a4 a5 y0 y2 y4 : zD_t} (h : zck_play b0 b1 a0 a1 a2 a4 r y0 y2 y4 = true) (hT : zIT (zd a1)) (hE : zIE (zd a2)) (hM : zIM (zd a4)) {index : Nat} {rest : List Value} (cw : vx_CSW R s args own index yL_act cL_act 5 (some .int) [(0, 179, 180, 51), (0, 179, 185, 53), (0, 179, 190, 55)] wsL_act rmL_act rmL_act.cells rmL_act.slots 4) (hrm : (rest.map fun v => v.category).sum ≤ 8) (hdg : decode cc pc = .ok (.invokestatic index, 3)) (hR : cells + 1 ≤ R.cells ∧ slots + 6 ≤ R.slots) (k : zW p l e R s m args below meth c (cells + 1) (slots + 6) Q G.1 A nL (zWL G (zd y0) (zd a1) (zd y2) (zd a3) (zd y4) (zd a5)) lv (pc + 3) (.int r :: rest)) : zW p l e R s m args below meth c cells slots Q G.1 A nL (zWL G (zd a0) (zd a1) (zd a2) (zd a3) (zd a4) (zd a5)) lv pc (.int b1 :: .int b0 :: .int 0 :: .ref (G.2.2 0 0) :: rest) := by
  unfold zck_play at h
  simp only [Bool.and_eq_true] at h
  obtain ⟨qx, qr, qL, qE, qM⟩ := h
  have er : (mX4_play b0 b1 (zd a0) (zd a1) (zd a2) (zd a4)).2.1 = r := eq_of_beq qr
  have ex : (mX4_play b0 b1 (zd a0) (zd a1) (zd a2) (zd a4)).1 = none := Option.isNone_iff_eq_none.mp qx
  have hs : zSm (zWL G ((mX4_play b0 b1 (zd a0) (zd a1) (zd a2) (zd a4)).2.2.1) (zd a1) ((mX4_play b0 b1 (zd a0) (zd a1) (zd a2) (zd a4)).2.2.2.1) (zd a3) ((mX4_play b0 b1 (zd a0) (zd a1) (zd a2) (zd a4)).2.2.2.2) (zd a5)) (zWL G (zd y0) (zd a1) (zd y2) (zd a3) (zd y4) (zd a5)) := zqW_s G (zqL_s G qL) (zSm.rf _) (zqE_s G qE) (zSm.rf _) ((zqM_s G qM).app (zSm.rf _))
  refine zi_callQH (rest := rest) (ws' := zWL G ((mX4_play b0 b1 (zd a0) (zd a1) (zd a2) (zd a4)).2.2.1) (zd a1) ((mX4_play b0 b1 (zd a0) (zd a1) (zd a2) (zd a4)).2.2.2.1) (zd a3) ((mX4_play b0 b1 (zd a0) (zd a1) (zd a2) (zd a4)).2.2.2.2) (zd a5)) F hsx hao (c_L_act_0 l hfl G b0 b1 (zd a0) (zd a1) (zd a2) (zd a3) (zd a4) (zd a5) hT hE hM) cw [] [] (zw_nil _) (zw_nil _).symm rfl rfl hrm hdg hR ?_
  refine zi_toplit (by rw [ex, er]; first | done | exact zac_n r) ?_
  exact zi_norm hs k
/-! round -/
abbrev rmL_round : Room := { frames := 7, cells := 0, slots := 0, locals := 162 }
theorem hd_L_round : yL_round.cls ≠ "java/lang/invoke/MethodHandle" ∧ yL_round.cls ≠ "java/lang/invoke/VarHandle" ∧ (parseMethodDescriptor yL_round.desc).map (fun d => d.parameters.length) = some 1 := by decide +kernel
set_option maxHeartbeats 4000000 in
set_option maxRecDepth 100000 in
theorem c_L_round (l : Launch) (hfl : l.stackTraces = false) (G : zG_t) {r : Int32} {a0 a1 a2 a3 a4 a5 y0 y1 y2 y3 y4 y5 w0 w1 w2 w3 w4 w5 z0 z1 z2 z3 z4 z5 : zD_t} (h1 : zck_pass a0 a1 a2 a3 a4 a5 0 y0 y1 y2 y3 y4 y5 = true) (h2 : zck_pass y0 y1 y2 y3 y4 y5 0 w0 w1 w2 w3 w4 w5 = true) (h3 : zck_pass w0 w1 w2 w3 w4 w5 r z0 z1 z2 z3 z4 z5 = true) (hT : zIT (zd a1)) (hE : zIE (zd a2)) (hM : zIM (zd a4)) (hT2 : zIT (zd y1)) (hE2 : zIE (zd y2)) (hM2 : zIM (zd y4)) (hT3 : zIT (zd w1)) (hE3 : zIE (zd w2)) (hM3 : zIM (zd w4)) : zNI l G.1 (zty G) yL_round wsL_round rmL_round [.ref (G.2.2 0 0)] (zWL G (zd a0) (zd a1) (zd a2) (zd a3) (zd a4) (zd a5)) r (zWL G (zd z0) (zd z1) (zd z2) (zd z3) (zd z4) (zd z5)) := by
  refine zn_I (cc := cL_round) (maxL := 1) (by decide) rfl (Nat.le_of_ble_eq_true rfl) ?_
  intro p e s m args below meth c Q A F hsx hao hret
  show zW p l e rmL_round s m args below meth c 0 0 Q G.1 A 1 (zWL G (zd a0) (zd a1) (zd a2) (zd a3) (zd a4) (zd a5)) [(0, .ref (G.2.2 0 0))] 0 []
  refine zi_aload_n (pc := 0) F dL_round_0 0 rfl ?_
  refine zr_pass (pc := 1) hfl F hsx h1 hT hE hM (cwV 0 F.1.2.2.2.2 gL_round_X4_pass rfl rfl rfl hd_X4_pass ⟨Nat.le_of_ble_eq_true rfl, Nat.le_of_ble_eq_true rfl⟩) (Nat.le_of_ble_eq_true rfl) dL_round_1 ⟨Nat.le_of_ble_eq_true rfl, Nat.le_of_ble_eq_true rfl⟩ ?_
  show zW p l e rmL_round s m args below meth c 0 0 Q G.1 A 1 (zWL G (zd y0) (zd y1) (zd y2) (zd y3) (zd y4) (zd y5)) [(0, .ref (G.2.2 0 0))] 4 [.int 0]
  refine zi_if_ne (pc := 4) (tgt := 14) F dL_round_4 (by decide) (fun h => absurd h (by decide)) (fun _ => ?_)
  refine zi_aload_n (pc := 7) F dL_round_7 0 rfl ?_
  refine zr_pass (pc := 8) hfl F hsx h2 hT2 hE2 hM2 (cwV 0 F.1.2.2.2.2 gL_round_X4_pass rfl rfl rfl hd_X4_pass ⟨Nat.le_of_ble_eq_true rfl, Nat.le_of_ble_eq_true rfl⟩) (Nat.le_of_ble_eq_true rfl) dL_round_8 ⟨Nat.le_of_ble_eq_true rfl, Nat.le_of_ble_eq_true rfl⟩ ?_
  show zW p l e rmL_round s m args below meth c 0 0 Q G.1 A 1 (zWL G (zd w0) (zd w1) (zd w2) (zd w3) (zd w4) (zd w5)) [(0, .ref (G.2.2 0 0))] 11 [.int 0]
  refine zi_if_eq (pc := 11) (tgt := 18) F dL_round_11 (by decide) (fun _ => ?_) (fun h => absurd h (by decide))
  refine zi_aload_n (pc := 18) F dL_round_18 0 rfl ?_
  refine zr_pass (pc := 19) hfl F hsx h3 hT3 hE3 hM3 (cwV 0 F.1.2.2.2.2 gL_round_X4_pass rfl rfl rfl hd_X4_pass ⟨Nat.le_of_ble_eq_true rfl, Nat.le_of_ble_eq_true rfl⟩) (Nat.le_of_ble_eq_true rfl) dL_round_19 ⟨Nat.le_of_ble_eq_true rfl, Nat.le_of_ble_eq_true rfl⟩ ?_
  show zW p l e rmL_round s m args below meth c 0 0 Q G.1 A 1 (zWL G (zd z0) (zd z1) (zd z2) (zd z3) (zd z4) (zd z5)) [(0, .ref (G.2.2 0 0))] 22 [.int r]
  exact hret _ _ _ _ (Nat.le_of_ble_eq_true rfl) (Nat.le_of_ble_eq_true rfl) dL_round_22
/-! lay -/
abbrev rmL_lay : Room := { frames := 9, cells := 3, slots := 18, locals := 188 }
theorem hd_L_lay : yL_lay.cls ≠ "java/lang/invoke/MethodHandle" ∧ yL_lay.cls ≠ "java/lang/invoke/VarHandle" ∧ (parseMethodDescriptor yL_lay.desc).map (fun d => d.parameters.length) = some 4 := by decide +kernel
set_option maxHeartbeats 4000000 in
set_option maxRecDepth 100000 in
theorem c_L_lay (l : Launch) (hfl : l.stackTraces = false) (G : zG_t) {card target left pl : Int32} {a0 a1 a2 a3 a4 a5 y0 y2 y4 z0 z1 z2 z3 z4 z5 : zD_t} (h1 : zck_acting a0 pl = true) (h2 : zck_play card target a0 a1 a2 a4 1 y0 y2 y4 = true) (h3 : zck_coins pl y0 left = true) (h4 : zck_settle 1 y0 a1 y2 a3 y4 a5 1 z0 z1 z2 z3 z4 z5 = true) (hT : zIT (zd a1)) (hE : zIE (zd a2)) (hM : zIM (zd a4)) (hE2 : zIE (zd y2)) (hM2 : zIM (zd y4)) : zNI l G.1 (zty G) yL_lay wsL_lay rmL_lay [.ref (G.2.2 0 0), .int card, .int target, .int left] (zWL G (zd a0) (zd a1) (zd a2) (zd a3) (zd a4) (zd a5)) 1 (zWL G (zd z0) (zd z1) (zd z2) (zd z3) (zd z4) (zd z5)) := by
  refine zn_Z (cc := cL_lay) (maxL := 5) (by decide) rfl (Nat.le_of_ble_eq_true rfl) ?_
  intro p e s m args below meth c Q A F hsx hao hret
  show zW p l e rmL_lay s m args below meth c 0 0 Q G.1 A 5 (zWL G (zd a0) (zd a1) (zd a2) (zd a3) (zd a4) (zd a5)) [(0, .ref (G.2.2 0 0)), (1, .int card), (2, .int target), (3, .int left)] 0 []
  refine zi_aload_n (pc := 0) F dL_lay_0 0 rfl ?_
  refine zr_acting (pc := 1) hfl F hsx h1  (cwV 0 F.1.2.2.2.2 gL_lay_X4_acting rfl rfl rfl hd_X4_acting ⟨Nat.le_of_ble_eq_true rfl, Nat.le_of_ble_eq_true rfl⟩) (Nat.le_of_ble_eq_true rfl) dL_lay_1 ⟨Nat.le_of_ble_eq_true rfl, Nat.le_of_ble_eq_true rfl⟩ ?_
  show zW p l e rmL_lay s m args below meth c 0 0 Q G.1 A 5 (zWL G (zd a0) (zd a1) (zd a2) (zd a3) (zd a4) (zd a5)) [(0, .ref (G.2.2 0 0)), (1, .int card), (2, .int target), (3, .int left)] 4 [.int pl]
  refine zi_istore (pc := 4) (lv' := [(0, .ref (G.2.2 0 0)), (1, .int card), (2, .int target), (3, .int left), (4, .int pl)]) F dL_lay_4 (by decide) rfl ?_
  refine zi_aload_n (pc := 6) F dL_lay_6 0 rfl ?_
  refine zi_iconst (pc := 7) (v := 0) F dL_lay_7 rfl ?_
  refine zi_iload_n (pc := 8) F dL_lay_8 1 rfl ?_
  refine zi_iload_n (pc := 9) F dL_lay_9 2 rfl ?_
  refine zr_act0 (pc := 10) hfl F hsx hao h2 hT hE hM (vx_cwSW 4 F.1.2.2.2.2 gL_lay_L_act rfl rfl rfl hd_L_act ⟨Nat.le_of_ble_eq_true rfl, Nat.le_of_ble_eq_true rfl⟩) (Nat.le_of_ble_eq_true rfl) dL_lay_10 ⟨Nat.le_of_ble_eq_true rfl, Nat.le_of_ble_eq_true rfl⟩ ?_
  show zW p l e rmL_lay s m args below meth c 1 6 Q G.1 A 5 (zWL G (zd y0) (zd a1) (zd y2) (zd a3) (zd y4) (zd a5)) [(0, .ref (G.2.2 0 0)), (1, .int card), (2, .int target), (3, .int left), (4, .int pl)] 13 [.int 1]
  refine zi_iconst (pc := 13) (v := 1) F dL_lay_13 rfl ?_
  refine zi_icmp_ne (pc := 14) (tgt := 40) F dL_lay_14 (by decide) (fun h => absurd h (by decide)) (fun _ => ?_)
  refine zi_aload_n (pc := 17) F dL_lay_17 0 rfl ?_
  refine zi_iload (pc := 18) F dL_lay_18 4 rfl ?_
  refine zr_coins (pc := 20) hfl F hsx h3  (cwV 1 F.1.2.2.2.2 gL_lay_X4_coins rfl rfl rfl hd_X4_coins ⟨Nat.le_of_ble_eq_true rfl, Nat.le_of_ble_eq_true rfl⟩) (Nat.le_of_ble_eq_true rfl) dL_lay_20 ⟨Nat.le_of_ble_eq_true rfl, Nat.le_of_ble_eq_true rfl⟩ ?_
  show zW p l e rmL_lay s m args below meth c 2 12 Q G.1 A 5 (zWL G (zd y0) (zd a1) (zd y2) (zd a3) (zd y4) (zd a5)) [(0, .ref (G.2.2 0 0)), (1, .int card), (2, .int target), (3, .int left), (4, .int pl)] 23 [.int left]
  refine zi_iload_n (pc := 23) F dL_lay_23 3 rfl ?_
  refine zi_icmp_ne (pc := 24) (tgt := 40) F dL_lay_24 (by decide) (fun h => absurd rfl h) (fun _ => ?_)
  refine zi_aload_n (pc := 27) F dL_lay_27 0 rfl ?_
  refine zi_iconst (pc := 28) (v := 1) F dL_lay_28 rfl ?_
  refine zr_settle (pc := 29) hfl F hsx h4 hT hE2 hM2 (cwV 1 F.1.2.2.2.2 gL_lay_X4_settle rfl rfl rfl hd_X4_settle ⟨Nat.le_of_ble_eq_true rfl, Nat.le_of_ble_eq_true rfl⟩) (Nat.le_of_ble_eq_true rfl) dL_lay_29 ⟨Nat.le_of_ble_eq_true rfl, Nat.le_of_ble_eq_true rfl⟩ ?_
  show zW p l e rmL_lay s m args below meth c 3 18 Q G.1 A 5 (zWL G (zd z0) (zd z1) (zd z2) (zd z3) (zd z4) (zd z5)) [(0, .ref (G.2.2 0 0)), (1, .int card), (2, .int target), (3, .int left), (4, .int pl)] 32 [.int 1]
  refine zi_iconst (pc := 32) (v := 1) F dL_lay_32 rfl ?_
  refine zi_icmp_ne (pc := 33) (tgt := 40) F dL_lay_33 (by decide) (fun h => absurd h (by decide)) (fun _ => ?_)
  refine zi_iconst (pc := 36) (v := 1) F dL_lay_36 rfl ?_
  refine zi_goto (pc := 37) (tgt := 41) F dL_lay_37 (by decide) ?_
  exact hret _ _ _ _ (Nat.le_of_ble_eq_true rfl) (Nat.le_of_ble_eq_true rfl) dL_lay_41 (znb (Or.inr rfl))
/-! is -/
abbrev rmL_is : Room := { frames := 8, cells := 3, slots := 18, locals := 126 }
theorem hd_L_is : yL_is.cls ≠ "java/lang/invoke/MethodHandle" ∧ yL_is.cls ≠ "java/lang/invoke/VarHandle" ∧ (parseMethodDescriptor yL_is.desc).map (fun d => d.parameters.length) = some 6 := by decide +kernel
set_option maxHeartbeats 4000000 in
set_option maxRecDepth 100000 in
theorem c_L_is (l : Launch) (hfl : l.stackTraces = false) (G : zG_t) {place layer ct kd sr : Int32} {a0 a1 a2 a3 a4 a5 y3 w3 z3 : zD_t} (h1 : zck_controllerOf place layer a1 a3 ct y3 = true) (h2 : zck_kindsOf place layer a1 y3 kd w3 = true) (h3 : zck_strengthOf place layer a1 w3 sr z3 = true) (hT : zIT (zd a1)) : zNI l G.1 (zty G) yL_is wsL_is rmL_is [.ref (G.2.2 0 0), .int place, .int layer, .int ct, .int kd, .int sr] (zWL G (zd a0) (zd a1) (zd a2) (zd a3) (zd a4) (zd a5)) 1 (zWL G (zd a0) (zd a1) (zd a2) (zd z3) (zd a4) (zd a5)) := by
  refine zn_Z (cc := cL_is) (maxL := 6) (by decide) rfl (Nat.le_of_ble_eq_true rfl) ?_
  intro p e s m args below meth c Q A F hsx hao hret
  show zW p l e rmL_is s m args below meth c 0 0 Q G.1 A 6 (zWL G (zd a0) (zd a1) (zd a2) (zd a3) (zd a4) (zd a5)) [(0, .ref (G.2.2 0 0)), (1, .int place), (2, .int layer), (3, .int ct), (4, .int kd), (5, .int sr)] 0 []
  refine zi_aload_n (pc := 0) F dL_is_0 0 rfl ?_
  refine zi_iload_n (pc := 1) F dL_is_1 1 rfl ?_
  refine zi_iload_n (pc := 2) F dL_is_2 2 rfl ?_
  refine zr_controllerOf (pc := 3) hfl F hsx h1 hT (cwV 2 F.1.2.2.2.2 gL_is_X4_controllerOf rfl rfl rfl hd_X4_controllerOf ⟨Nat.le_of_ble_eq_true rfl, Nat.le_of_ble_eq_true rfl⟩) (Nat.le_of_ble_eq_true rfl) dL_is_3 ⟨Nat.le_of_ble_eq_true rfl, Nat.le_of_ble_eq_true rfl⟩ ?_
  show zW p l e rmL_is s m args below meth c 1 6 Q G.1 A 6 (zWL G (zd a0) (zd a1) (zd a2) (zd y3) (zd a4) (zd a5)) [(0, .ref (G.2.2 0 0)), (1, .int place), (2, .int layer), (3, .int ct), (4, .int kd), (5, .int sr)] 6 [.int ct]
  refine zi_iload_n (pc := 6) F dL_is_6 3 rfl ?_
  refine zi_icmp_ne (pc := 7) (tgt := 36) F dL_is_7 (by decide) (fun h => absurd rfl h) (fun _ => ?_)
  refine zi_aload_n (pc := 10) F dL_is_10 0 rfl ?_
  refine zi_iload_n (pc := 11) F dL_is_11 1 rfl ?_
  refine zi_iload_n (pc := 12) F dL_is_12 2 rfl ?_
  refine zr_kindsOf (pc := 13) hfl F hsx h2 hT (cwV 2 F.1.2.2.2.2 gL_is_X4_kindsOf rfl rfl rfl hd_X4_kindsOf ⟨Nat.le_of_ble_eq_true rfl, Nat.le_of_ble_eq_true rfl⟩) (Nat.le_of_ble_eq_true rfl) dL_is_13 ⟨Nat.le_of_ble_eq_true rfl, Nat.le_of_ble_eq_true rfl⟩ ?_
  show zW p l e rmL_is s m args below meth c 2 12 Q G.1 A 6 (zWL G (zd a0) (zd a1) (zd a2) (zd w3) (zd a4) (zd a5)) [(0, .ref (G.2.2 0 0)), (1, .int place), (2, .int layer), (3, .int ct), (4, .int kd), (5, .int sr)] 16 [.int kd]
  refine zi_iload (pc := 16) F dL_is_16 4 rfl ?_
  refine zi_icmp_ne (pc := 18) (tgt := 36) F dL_is_18 (by decide) (fun h => absurd rfl h) (fun _ => ?_)
  refine zi_aload_n (pc := 21) F dL_is_21 0 rfl ?_
  refine zi_iload_n (pc := 22) F dL_is_22 1 rfl ?_
  refine zi_iload_n (pc := 23) F dL_is_23 2 rfl ?_
  refine zr_strengthOf (pc := 24) hfl F hsx h3 hT (cwV 2 F.1.2.2.2.2 gL_is_X4_strengthOf rfl rfl rfl hd_X4_strengthOf ⟨Nat.le_of_ble_eq_true rfl, Nat.le_of_ble_eq_true rfl⟩) (Nat.le_of_ble_eq_true rfl) dL_is_24 ⟨Nat.le_of_ble_eq_true rfl, Nat.le_of_ble_eq_true rfl⟩ ?_
  show zW p l e rmL_is s m args below meth c 3 18 Q G.1 A 6 (zWL G (zd a0) (zd a1) (zd a2) (zd z3) (zd a4) (zd a5)) [(0, .ref (G.2.2 0 0)), (1, .int place), (2, .int layer), (3, .int ct), (4, .int kd), (5, .int sr)] 27 [.int sr]
  refine zi_iload (pc := 27) F dL_is_27 5 rfl ?_
  refine zi_icmp_ne (pc := 29) (tgt := 36) F dL_is_29 (by decide) (fun h => absurd rfl h) (fun _ => ?_)
  refine zi_iconst (pc := 32) (v := 1) F dL_is_32 rfl ?_
  refine zi_goto (pc := 33) (tgt := 37) F dL_is_33 (by decide) ?_
  exact hret _ _ _ _ (Nat.le_of_ble_eq_true rfl) (Nat.le_of_ble_eq_true rfl) dL_is_37 (znb (Or.inr rfl))
