/-! X5_play -/
def mX5_play_S135 (card : Int32) (target : Int32) (R73 : zS_t) : Int32 := if card = 7 then (R73 9 target.toNatClampNeg) else (if card = 12 then (R73 9 target.toNatClampNeg) else (if card = 13 then (R73 16 (((R73 12 0) - 1) - target).toNatClampNeg) else 0))
def mX5_play (card : Int32) (target : Int32) (R : zS_t) : Int32 × zS_t := zbnd (mX5_isIn card 0 13) (fun r1 => if r1 = 0 then (0, (zsI R 26 1)) else (zbnd (mX5_obstacleOf card target (zsI R 26 0)) (fun r11 => if r11 ≤ 0 then (zbnd (mX5_cost card) (fun r19 => zbnd ((zsI (zsF R 5 (upd (R 5) (R 1 0).toNatClampNeg ((R 5 (R 1 0).toNatClampNeg) - r19))) 26 0)) (fun R22 => zbnd ((zsF (zsF R22 13 (upd (R22 13) (R22 12 0).toNatClampNeg card)) 14 (upd (R22 14) (R22 12 0).toNatClampNeg (vp_nar .boolean 0)))) (fun R39 => zbnd ((zsF (zsI R39 11 ((R39 11 0) + 1)) 15 (upd (R39 15) (R39 12 0).toNatClampNeg (R39 1 0)))) (fun R56 => zbnd ((zsF R56 16 (upd (R56 16) (R56 12 0).toNatClampNeg (R56 11 0)))) (fun R73 => zbnd (mX5_play_S135 card target R73) (fun w101 => (((R73 12 0) + 1), (zsI (zsF (zsI (zsI (zsI R73 1 (((R73 1 0) + 1) - ((R73 1 0) + 1) / 3 * 3)) 2 0) 12 ((R73 12 0) + 1)) 17 (upd (R73 17) (R56 12 0).toNatClampNeg w101)) 23 0))))))))) else (0, (zsI R 26 2)))))
set_option maxHeartbeats 4000000 in
set_option maxRecDepth 100000 in
theorem pp_X5_play (card : Int32) (target : Int32) (R : zS_t) (hIR : zIR R) : (zIR ((mX5_play card target R).2)) := by
  obtain ⟨X, hE⟩ : ∃ z, mX5_play card target R = z := ⟨_, rfl⟩
  rw [hE]
  have k_0 : Int32.toInt 0 = 0 := by decide
  have k_1 : Int32.toInt 1 = 1 := by decide
  have k_2 : Int32.toInt 2 = 2 := by decide
  have k_3 : Int32.toInt 3 = 3 := by decide
  have k_7 : Int32.toInt 7 = 7 := by decide
  have k_12 : Int32.toInt 12 = 12 := by decide
  have k_13 : Int32.toInt 13 = 13 := by decide
  obtain ⟨⟨i119, i120⟩, ⟨i121, i122⟩, ⟨i123, i124⟩, ⟨i125, i126⟩, ⟨i127, i128⟩, hIR_b14, hIR_p15⟩ := id hIR
  unfold mX5_play at hE
  have pp4 := pp_X5_isIn card 0 13  
  obtain ⟨r1, e2⟩ : ∃ z, mX5_isIn card 0 13 = z := ⟨_, rfl⟩
  have hE := zbnd_cut hE e2
  rw [e2] at pp4
  obtain ⟨hbr1, q5⟩ := pp4
  by_cases c6 : r1 = 0
  · have hE := zite_t hE c6
    have t7 := congrArg Int32.toInt c6
    subst hE
    exact hIR
  · have hE := zite_f hE c6
    have t9 := zt_ne c6
    have pp14 := pp_X5_obstacleOf card target (zsI R 26 0) (hIR)
    obtain ⟨r11, e12⟩ : ∃ z, mX5_obstacleOf card target (zsI R 26 0) = z := ⟨_, rfl⟩
    have hE := zbnd_cut hE e12
    rw [e12] at pp14
    have q15 := pp14
    have q15 : 0 < Int32.toInt r11 ∨ (((¬ Int32.toInt card = 7 ∧ ¬ Int32.toInt card = 12) ∨ (0 ≤ Int32.toInt target ∧ Int32.toInt target < Int32.toInt (R 6 0))) ∧ (¬ Int32.toInt card = 13 ∨ (0 ≤ Int32.toInt target ∧ Int32.toInt target < Int32.toInt (R 12 0))) ∧ Int32.toInt (R 12 0) < 12) := q15
    by_cases c16 : r11 ≤ 0
    · have hE := zite_t hE c16
      have t17 := zt_le c16
      obtain ⟨r19, e20⟩ : ∃ z, mX5_cost card = z := ⟨_, rfl⟩
      have hE := zbnd_cut hE e20
      have hIR22 : zIR (zsI (zsF R 5 (upd (R 5) (R 1 0).toNatClampNeg ((R 5 (R 1 0).toNatClampNeg) - r19))) 26 0) := hIR
      obtain ⟨R22, e23⟩ : ∃ z, (zsI (zsF R 5 (upd (R 5) (R 1 0).toNatClampNeg ((R 5 (R 1 0).toNatClampNeg) - r19))) 26 0) = z := ⟨_, rfl⟩
      have hE := zbnd_cut hE e23
      have t24 : Int32.toInt (R22 6 0) = Int32.toInt (R 6 0) := by rw [← e23]; rfl
      have t25 : Int32.toInt (R22 12 0) = Int32.toInt (R 12 0) := by rw [← e23]; rfl
      have t26 : Int32.toInt (R22 23 0) = Int32.toInt (R 23 0) := by rw [← e23]; rfl
      have t27 : Int32.toInt (R22 0 0) = Int32.toInt (R 0 0) := by rw [← e23]; rfl
      have t28 : Int32.toInt (R22 1 0) = Int32.toInt (R 1 0) := by rw [← e23]; rfl
      rw [e23] at hIR22
      obtain ⟨⟨i29, i30⟩, ⟨i31, i32⟩, ⟨i33, i34⟩, ⟨i35, i36⟩, ⟨i37, i38⟩, hIR22_b14, hIR22_p15⟩ := id hIR22
      have hIR39 : zIR (zsF (zsF R22 13 (upd (R22 13) (R22 12 0).toNatClampNeg card)) 14 (upd (R22 14) (R22 12 0).toNatClampNeg (vp_nar .boolean 0))) := ⟨⟨by (show (0:Int) ≤ Int32.toInt (R22 6 0)); omega, by (show Int32.toInt (R22 6 0) ≤ (10:Int)); omega⟩, ⟨by (show (0:Int) ≤ Int32.toInt (R22 12 0)); omega, by (show Int32.toInt (R22 12 0) ≤ (12:Int)); omega⟩, ⟨by (show (0:Int) ≤ Int32.toInt (R22 23 0)); omega, by (show Int32.toInt (R22 23 0) ≤ (40:Int)); omega⟩, ⟨by (show (0:Int) ≤ Int32.toInt (R22 0 0)); omega, by (show Int32.toInt (R22 0 0) ≤ (2:Int)); omega⟩, ⟨by (show (0:Int) ≤ Int32.toInt (R22 1 0)); omega, by (show Int32.toInt (R22 1 0) ≤ (2:Int)); omega⟩, (zib_upd hIR22_b14 (znar_idem _)), hIR22_p15⟩
      obtain ⟨R39, e40⟩ : ∃ z, (zsF (zsF R22 13 (upd (R22 13) (R22 12 0).toNatClampNeg card)) 14 (upd (R22 14) (R22 12 0).toNatClampNeg (vp_nar .boolean 0))) = z := ⟨_, rfl⟩
      have hE := zbnd_cut hE e40
      have t41 : Int32.toInt (R39 6 0) = Int32.toInt (R22 6 0) := by rw [← e40]; rfl
      have t42 : Int32.toInt (R39 12 0) = Int32.toInt (R22 12 0) := by rw [← e40]; rfl
      have t43 : Int32.toInt (R39 23 0) = Int32.toInt (R22 23 0) := by rw [← e40]; rfl
      have t44 : Int32.toInt (R39 0 0) = Int32.toInt (R22 0 0) := by rw [← e40]; rfl
      have t45 : Int32.toInt (R39 1 0) = Int32.toInt (R22 1 0) := by rw [← e40]; rfl
      rw [e40] at hIR39
      obtain ⟨⟨i46, i47⟩, ⟨i48, i49⟩, ⟨i50, i51⟩, ⟨i52, i53⟩, ⟨i54, i55⟩, hIR39_b14, hIR39_p15⟩ := id hIR39
      have hIR56 : zIR (zsF (zsI R39 11 ((R39 11 0) + 1)) 15 (upd (R39 15) (R39 12 0).toNatClampNeg (R39 1 0))) := ⟨⟨by (show (0:Int) ≤ Int32.toInt (R39 6 0)); omega, by (show Int32.toInt (R39 6 0) ≤ (10:Int)); omega⟩, ⟨by (show (0:Int) ≤ Int32.toInt (R39 12 0)); omega, by (show Int32.toInt (R39 12 0) ≤ (12:Int)); omega⟩, ⟨by (show (0:Int) ≤ Int32.toInt (R39 23 0)); omega, by (show Int32.toInt (R39 23 0) ≤ (40:Int)); omega⟩, ⟨by (show (0:Int) ≤ Int32.toInt (R39 0 0)); omega, by (show Int32.toInt (R39 0 0) ≤ (2:Int)); omega⟩, ⟨by (show (0:Int) ≤ Int32.toInt (R39 1 0)); omega, by (show Int32.toInt (R39 1 0) ≤ (2:Int)); omega⟩, hIR39_b14, (zip_upd hIR39_p15 ⟨by omega, by omega⟩)⟩
      obtain ⟨R56, e57⟩ : ∃ z, (zsF (zsI R39 11 ((R39 11 0) + 1)) 15 (upd (R39 15) (R39 12 0).toNatClampNeg (R39 1 0))) = z := ⟨_, rfl⟩
      have hE := zbnd_cut hE e57
      have t58 : Int32.toInt (R56 6 0) = Int32.toInt (R39 6 0) := by rw [← e57]; rfl
      have t59 : Int32.toInt (R56 12 0) = Int32.toInt (R39 12 0) := by rw [← e57]; rfl
      have t60 : Int32.toInt (R56 23 0) = Int32.toInt (R39 23 0) := by rw [← e57]; rfl
      have t61 : Int32.toInt (R56 0 0) = Int32.toInt (R39 0 0) := by rw [← e57]; rfl
      have t62 : Int32.toInt (R56 1 0) = Int32.toInt (R39 1 0) := by rw [← e57]; rfl
      rw [e57] at hIR56
      obtain ⟨⟨i63, i64⟩, ⟨i65, i66⟩, ⟨i67, i68⟩, ⟨i69, i70⟩, ⟨i71, i72⟩, hIR56_b14, hIR56_p15⟩ := id hIR56
      have hIR73 : zIR (zsF R56 16 (upd (R56 16) (R56 12 0).toNatClampNeg (R56 11 0))) := hIR56
      obtain ⟨R73, e74⟩ : ∃ z, (zsF R56 16 (upd (R56 16) (R56 12 0).toNatClampNeg (R56 11 0))) = z := ⟨_, rfl⟩
      have hE := zbnd_cut hE e74
      have t75 : Int32.toInt (R73 6 0) = Int32.toInt (R56 6 0) := by rw [← e74]; rfl
      have t76 : Int32.toInt (R73 12 0) = Int32.toInt (R56 12 0) := by rw [← e74]; rfl
      have t77 : Int32.toInt (R73 23 0) = Int32.toInt (R56 23 0) := by rw [← e74]; rfl
      have t78 : Int32.toInt (R73 0 0) = Int32.toInt (R56 0 0) := by rw [← e74]; rfl
      have t79 : Int32.toInt (R73 1 0) = Int32.toInt (R56 1 0) := by rw [← e74]; rfl
      rw [e74] at hIR73
      obtain ⟨⟨i80, i81⟩, ⟨i82, i83⟩, ⟨i84, i85⟩, ⟨i86, i87⟩, ⟨i88, i89⟩, hIR73_b14, hIR73_p15⟩ := id hIR73
      obtain ⟨w101, e102⟩ : ∃ z, mX5_play_S135 card target R73 = z := ⟨_, rfl⟩
      have hE := zbnd_cut hE e102
      subst hE
      try have t114 := zt_add (a := (R73 12 0)) (b := 1) (by omega) (by omega)
      try have t115 := zt_add (a := (R73 1 0)) (b := 1) (by omega) (by omega)
      try have t116 := zt_rem (a := ((R73 1 0) + 1)) (b := 3) (c := 3) rfl (by omega) (by omega)
      exact ⟨⟨by (show (0:Int) ≤ Int32.toInt (R73 6 0)); omega, by (show Int32.toInt (R73 6 0) ≤ (10:Int)); omega⟩, ⟨by (show (0:Int) ≤ Int32.toInt ((R73 12 0) + 1)); omega, by (show Int32.toInt ((R73 12 0) + 1) ≤ (12:Int)); omega⟩, ⟨by (show (0:Int) ≤ Int32.toInt 0); omega, by (show Int32.toInt 0 ≤ (40:Int)); omega⟩, ⟨by (show (0:Int) ≤ Int32.toInt (R73 0 0)); omega, by (show Int32.toInt (R73 0 0) ≤ (2:Int)); omega⟩, ⟨by (show (0:Int) ≤ Int32.toInt (((R73 1 0) + 1) - ((R73 1 0) + 1) / 3 * 3)); omega, by (show Int32.toInt (((R73 1 0) + 1) - ((R73 1 0) + 1) / 3 * 3) ≤ (2:Int)); omega⟩, hIR73_b14, hIR73_p15⟩
    · have hE := zite_f hE c16
      have t117 := zt_nle c16
      subst hE
      exact hIR
theorem hw_X5_play_X5 : ∀ w ∈ wsX50, w ∈ wsX5_play := fun w h => List.mem_cons_of_mem _ (List.mem_append_right _ (h))
abbrev rmX5_play : Room := { frames := 2, cells := 0, slots := 0, locals := 46 }
theorem hd_X5_play : yX5_play.cls = RX5 ∧ yX5_play.cls ≠ "java/lang/invoke/MethodHandle" ∧ yX5_play.cls ≠ "java/lang/invoke/VarHandle" ∧ (parseMethodDescriptor yX5_play.desc).map (fun d => d.parameters.length) = some 2 := by decide +kernel
set_option maxHeartbeats 4000000 in
set_option maxRecDepth 100000 in
theorem c_X5_play (l : Launch) (G : zG_t) (card : Int32) (target : Int32) (R : zS_t) (hIR : zIR R) : zCI l G.1 (zty G) yX5_play wsX5_play rmX5_play [.ref (G.2.2 6 0), .int card, .int target] (zWR G R) ((mX5_play card target R).1) (zWR G ((mX5_play card target R).2)) := by
  obtain ⟨X, hE⟩ : ∃ z, mX5_play card target R = z := ⟨_, rfl⟩
  rw [hE]
  refine zb_I (cc := cX5_play) (maxL := 3) (by decide) rfl (Nat.le_of_ble_eq_true rfl) ?_
  intro p e s m args below meth c Q A F hret
  show zW p l e rmX5_play s m args below meth c 0 0 Q G.1 A 3 (zWR G R) [(0, .ref (G.2.2 6 0)), (1, .int card), (2, .int target)] 0 []
  have k_0 : Int32.toInt 0 = 0 := by decide
  have k_1 : Int32.toInt 1 = 1 := by decide
  have k_2 : Int32.toInt 2 = 2 := by decide
  have k_3 : Int32.toInt 3 = 3 := by decide
  have k_7 : Int32.toInt 7 = 7 := by decide
  have k_12 : Int32.toInt 12 = 12 := by decide
  have k_13 : Int32.toInt 13 = 13 := by decide
  obtain ⟨⟨i129, i130⟩, ⟨i131, i132⟩, ⟨i133, i134⟩, ⟨i135, i136⟩, ⟨i137, i138⟩, hIR_b14, hIR_p15⟩ := id hIR
  unfold mX5_play at hE
  refine zi_aload_n (pc := 0) F dX5_play_0 0 rfl ?_
  refine zi_iload_n (pc := 1) F dX5_play_1 1 rfl ?_
  refine zi_iconst (pc := 2) (v := 0) F dX5_play_2 rfl ?_
  refine zi_bipush (pc := 3) (v := 13) F dX5_play_3 rfl ?_
  have hM3 := c_X5_isIn l G card 0 13  
  have pp4 := pp_X5_isIn card 0 13  
  obtain ⟨r1, e2⟩ : ∃ z, mX5_isIn card 0 13 = z := ⟨_, rfl⟩
  have hE := zbnd_cut hE e2
  rw [e2] at hM3
  rw [e2] at pp4
  obtain ⟨hbr1, q5⟩ := pp4
  refine zi_callSI (pc := 5) (rest := [.ref (G.2.2 6 0)]) (ws' := zWR G R) F hM3 (va_cwS 3 F.1.2.2.2.2 gX5_play_X5_isIn rfl rfl rfl hd_X5_isIn.2 ⟨Nat.le_of_ble_eq_true rfl, Nat.le_of_ble_eq_true rfl⟩) [] (zWR G R) rfl rfl rfl rfl (Nat.le_of_ble_eq_true rfl) dX5_play_5 ⟨Nat.zero_le _, Nat.zero_le _⟩ ?_
  refine zi_if_eq (pc := 8) (tgt := 15) F dX5_play_8 (by decide) (fun c6 => ?_) (fun c6 => ?_)
  · have hE := zite_t hE c6
    have t7 := congrArg Int32.toInt c6
    refine zi_iconst (pc := 15) (v := 1) F dX5_play_15 rfl ?_
    refine zi_put (pc := 16) (C := RX5) (T := TX5) (N := 27) (ty := .int) (ws' := zWR G (zsI R 26 1)) F (hw_X5_play_X5) tyX5 tyX5_ok nmX5 0 rfl rfl 26 (by decide) (List.mem_of_getElem? (i := 1) rfl) rfl rfl rfl rfl rfl (Nat.le_of_ble_eq_true rfl) rfl dX5_play_16 ?_
    refine zi_aload_n (pc := 19) F dX5_play_19 0 rfl ?_
    refine zi_get (pc := 20) (C := RX5) (T := TX5) (N := 27) (v := .int 1) F (hw_X5_play_X5) 0 rfl rfl 26 (by decide) (List.mem_of_getElem? (i := 1) rfl) rfl rfl dX5_play_20 ?_
    refine zi_if_le (pc := 23) (tgt := 28) F dX5_play_23 (by decide) (fun c8 => absurd c8 (by decide)) (fun _ => ?_)
    refine zi_iconst (pc := 26) (v := 0) F dX5_play_26 rfl ?_
    subst hE
    exact hret _ _ dX5_play_27
  · have hE := zite_f hE c6
    have t9 := zt_ne c6
    refine zi_iconst (pc := 11) (v := 0) F dX5_play_11 rfl ?_
    refine zi_goto (pc := 12) (tgt := 16) F dX5_play_12 (by decide) ?_
    refine zi_put (pc := 16) (C := RX5) (T := TX5) (N := 27) (ty := .int) (ws' := zWR G (zsI R 26 0)) F (hw_X5_play_X5) tyX5 tyX5_ok nmX5 0 rfl rfl 26 (by decide) (List.mem_of_getElem? (i := 1) rfl) rfl rfl rfl rfl rfl (Nat.le_of_ble_eq_true rfl) rfl dX5_play_16 ?_
    refine zi_aload_n (pc := 19) F dX5_play_19 0 rfl ?_
    refine zi_get (pc := 20) (C := RX5) (T := TX5) (N := 27) (v := .int 0) F (hw_X5_play_X5) 0 rfl rfl 26 (by decide) (List.mem_of_getElem? (i := 1) rfl) rfl rfl dX5_play_20 ?_
    refine zi_if_le (pc := 23) (tgt := 28) F dX5_play_23 (by decide) (fun _ => ?_) (fun c10 => absurd c10 (by decide))
    refine zi_aload_n (pc := 28) F dX5_play_28 0 rfl ?_
    refine zi_aload_n (pc := 29) F dX5_play_29 0 rfl ?_
    refine zi_iload_n (pc := 30) F dX5_play_30 1 rfl ?_
    refine zi_iload_n (pc := 31) F dX5_play_31 2 rfl ?_
    have hM13 := c_X5_obstacleOf l G card target (zsI R 26 0) (hIR)
    have pp14 := pp_X5_obstacleOf card target (zsI R 26 0) (hIR)
    obtain ⟨r11, e12⟩ : ∃ z, mX5_obstacleOf card target (zsI R 26 0) = z := ⟨_, rfl⟩
    have hE := zbnd_cut hE e12
    rw [e12] at hM13
    rw [e12] at pp14
    have q15 := pp14
    have q15 : 0 < Int32.toInt r11 ∨ (((¬ Int32.toInt card = 7 ∧ ¬ Int32.toInt card = 12) ∨ (0 ≤ Int32.toInt target ∧ Int32.toInt target < Int32.toInt (R 6 0))) ∧ (¬ Int32.toInt card = 13 ∨ (0 ≤ Int32.toInt target ∧ Int32.toInt target < Int32.toInt (R 12 0))) ∧ Int32.toInt (R 12 0) < 12) := q15
    refine zi_callVI (pc := 32) (rest := [.ref (G.2.2 6 0)]) (ws' := zWR G (zsI R 26 0)) F hM13 (cwV 2 F.1.2.2.2.2 gX5_play_X5_obstacleOf rfl rfl rfl hd_X5_obstacleOf ⟨Nat.le_of_ble_eq_true rfl, Nat.le_of_ble_eq_true rfl⟩) 0 rfl rfl _ _ (zw_nil _) (zw_nil _).symm rfl rfl (Nat.le_of_ble_eq_true rfl) dX5_play_32 ⟨Nat.zero_le _, Nat.zero_le _⟩ ?_
    refine zi_if_le (pc := 35) (tgt := 42) F dX5_play_35 (by decide) (fun c16 => ?_) (fun c16 => ?_)
    · have hE := zite_t hE c16
      have t17 := zt_le c16
      refine zi_iconst (pc := 42) (v := 0) F dX5_play_42 rfl ?_
      refine zi_put (pc := 43) (C := RX5) (T := TX5) (N := 27) (ty := .int) (ws' := zWR G (zsI R 26 0)) F (hw_X5_play_X5) tyX5 tyX5_ok nmX5 0 rfl rfl 26 (by decide) (List.mem_of_getElem? (i := 1) rfl) rfl rfl rfl rfl rfl (Nat.le_of_ble_eq_true rfl) rfl dX5_play_43 ?_
      refine zi_aload_n (pc := 46) F dX5_play_46 0 rfl ?_
      refine zi_get (pc := 47) (C := RX5) (T := TX5) (N := 27) (v := .int 0) F (hw_X5_play_X5) 0 rfl rfl 26 (by decide) (List.mem_of_getElem? (i := 1) rfl) rfl rfl dX5_play_47 ?_
      refine zi_if_le (pc := 50) (tgt := 55) F dX5_play_50 (by decide) (fun _ => ?_) (fun c18 => absurd c18 (by decide))
      refine zi_aload_n (pc := 55) F dX5_play_55 0 rfl ?_
      refine zi_get (pc := 56) (C := RX5) (T := TX5) (N := 27) (v := .ref (G.2.2 6 1)) F (hw_X5_play_X5) 0 rfl rfl 5 (by decide) (List.mem_of_getElem? (i := 2) rfl) rfl rfl dX5_play_56 ?_
      refine zi_aload_n (pc := 59) F dX5_play_59 0 rfl ?_
      refine zi_get (pc := 60) (C := RX5) (T := TX5) (N := 27) (v := .int (R 1 0)) F (hw_X5_play_X5) 0 rfl rfl 1 (by decide) (List.mem_of_getElem? (i := 3) rfl) rfl rfl dX5_play_60 ?_
      refine zi_dup2 (pc := 63) F dX5_play_63 rfl rfl ?_
      refine zi_iald (pc := 64) (v := (R 5 (R 1 0).toNatClampNeg)) F 1 0 rfl rfl (zin (a := (R 1 0)) (by omega) (by omega)) rfl dX5_play_64 ?_
      refine zi_iload_n (pc := 65) F dX5_play_65 1 rfl ?_
      have hM21 := c_X5_cost l G card  
      obtain ⟨r19, e20⟩ : ∃ z, mX5_cost card = z := ⟨_, rfl⟩
      have hE := zbnd_cut hE e20
      rw [e20] at hM21
      refine zi_callSI (pc := 66) (rest := [.int (R 5 (R 1 0).toNatClampNeg), .int (R 1 0), .ref (G.2.2 6 1)]) (ws' := zWR G (zsI R 26 0)) F hM21 (va_cwS 1 F.1.2.2.2.2 gX5_play_X5_cost rfl rfl rfl hd_X5_cost.2 ⟨Nat.le_of_ble_eq_true rfl, Nat.le_of_ble_eq_true rfl⟩) [] (zWR G (zsI R 26 0)) rfl rfl rfl rfl (Nat.le_of_ble_eq_true rfl) dX5_play_66 ⟨Nat.zero_le _, Nat.zero_le _⟩ ?_
      refine zi_isub (pc := 69) F dX5_play_69 ?_
      refine zi_iast (pc := 70) (ws' := zWR G (zsI (zsF R 5 (upd (R 5) (R 1 0).toNatClampNeg ((R 5 (R 1 0).toNatClampNeg) - r19))) 26 0)) F 1 0 rfl rfl (zin (a := (R 1 0)) (by omega) (by omega)) rfl dX5_play_70 ?_
      have hIR22 : zIR (zsI (zsF R 5 (upd (R 5) (R 1 0).toNatClampNeg ((R 5 (R 1 0).toNatClampNeg) - r19))) 26 0) := hIR
      refine zi_nameW (w := fun Z9 => zWR G Z9) (S := (zsI (zsF R 5 (upd (R 5) (R 1 0).toNatClampNeg ((R 5 (R 1 0).toNatClampNeg) - r19))) 26 0)) (fun R22 e23 => ?_)
      have hE := zbnd_cut hE e23
      have t24 : Int32.toInt (R22 6 0) = Int32.toInt (R 6 0) := by rw [← e23]; rfl
      have t25 : Int32.toInt (R22 12 0) = Int32.toInt (R 12 0) := by rw [← e23]; rfl
      have t26 : Int32.toInt (R22 23 0) = Int32.toInt (R 23 0) := by rw [← e23]; rfl
      have t27 : Int32.toInt (R22 0 0) = Int32.toInt (R 0 0) := by rw [← e23]; rfl
      have t28 : Int32.toInt (R22 1 0) = Int32.toInt (R 1 0) := by rw [← e23]; rfl
      rw [e23] at hIR22
      obtain ⟨⟨i29, i30⟩, ⟨i31, i32⟩, ⟨i33, i34⟩, ⟨i35, i36⟩, ⟨i37, i38⟩, hIR22_b14, hIR22_p15⟩ := id hIR22
      refine zi_aload_n (pc := 71) F dX5_play_71 0 rfl ?_
      refine zi_get (pc := 72) (C := RX5) (T := TX5) (N := 27) (v := .ref (G.2.2 6 6)) F (hw_X5_play_X5) 0 rfl rfl 13 (by decide) (List.mem_of_getElem? (i := 4) rfl) rfl rfl dX5_play_72 ?_
      refine zi_aload_n (pc := 75) F dX5_play_75 0 rfl ?_
      refine zi_get (pc := 76) (C := RX5) (T := TX5) (N := 27) (v := .int (R22 12 0)) F (hw_X5_play_X5) 0 rfl rfl 12 (by decide) (List.mem_of_getElem? (i := 5) rfl) rfl rfl dX5_play_76 ?_
      refine zi_iload_n (pc := 79) F dX5_play_79 1 rfl ?_
      refine zi_iast (pc := 80) (ws' := zWR G (zsF R22 13 (upd (R22 13) (R22 12 0).toNatClampNeg card))) F 6 0 rfl rfl (zin (a := (R22 12 0)) (by omega) (by omega)) rfl dX5_play_80 ?_
      refine zi_aload_n (pc := 81) F dX5_play_81 0 rfl ?_
      refine zi_get (pc := 82) (C := RX5) (T := TX5) (N := 27) (v := .ref (G.2.2 6 7)) F (hw_X5_play_X5) 0 rfl rfl 14 (by decide) (List.mem_of_getElem? (i := 6) rfl) rfl rfl dX5_play_82 ?_
      refine zi_aload_n (pc := 85) F dX5_play_85 0 rfl ?_
      refine zi_get (pc := 86) (C := RX5) (T := TX5) (N := 27) (v := .int (R22 12 0)) F (hw_X5_play_X5) 0 rfl rfl 12 (by decide) (List.mem_of_getElem? (i := 5) rfl) rfl rfl dX5_play_86 ?_
      refine zi_iconst (pc := 89) (v := 0) F dX5_play_89 rfl ?_
      refine zi_zast (pc := 90) (ws' := zWR G (zsF (zsF R22 13 (upd (R22 13) (R22 12 0).toNatClampNeg card)) 14 (upd (R22 14) (R22 12 0).toNatClampNeg (vp_nar .boolean 0)))) F 7 1 rfl rfl (zin (a := (R22 12 0)) (by omega) (by omega)) rfl dX5_play_90 ?_
      have hIR39 : zIR (zsF (zsF R22 13 (upd (R22 13) (R22 12 0).toNatClampNeg card)) 14 (upd (R22 14) (R22 12 0).toNatClampNeg (vp_nar .boolean 0))) := ⟨⟨by (show (0:Int) ≤ Int32.toInt (R22 6 0)); omega, by (show Int32.toInt (R22 6 0) ≤ (10:Int)); omega⟩, ⟨by (show (0:Int) ≤ Int32.toInt (R22 12 0)); omega, by (show Int32.toInt (R22 12 0) ≤ (12:Int)); omega⟩, ⟨by (show (0:Int) ≤ Int32.toInt (R22 23 0)); omega, by (show Int32.toInt (R22 23 0) ≤ (40:Int)); omega⟩, ⟨by (show (0:Int) ≤ Int32.toInt (R22 0 0)); omega, by (show Int32.toInt (R22 0 0) ≤ (2:Int)); omega⟩, ⟨by (show (0:Int) ≤ Int32.toInt (R22 1 0)); omega, by (show Int32.toInt (R22 1 0) ≤ (2:Int)); omega⟩, (zib_upd hIR22_b14 (znar_idem _)), hIR22_p15⟩
      refine zi_nameW (w := fun Z9 => zWR G Z9) (S := (zsF (zsF R22 13 (upd (R22 13) (R22 12 0).toNatClampNeg card)) 14 (upd (R22 14) (R22 12 0).toNatClampNeg (vp_nar .boolean 0)))) (fun R39 e40 => ?_)
      have hE := zbnd_cut hE e40
      have t41 : Int32.toInt (R39 6 0) = Int32.toInt (R22 6 0) := by rw [← e40]; rfl
      have t42 : Int32.toInt (R39 12 0) = Int32.toInt (R22 12 0) := by rw [← e40]; rfl
      have t43 : Int32.toInt (R39 23 0) = Int32.toInt (R22 23 0) := by rw [← e40]; rfl
      have t44 : Int32.toInt (R39 0 0) = Int32.toInt (R22 0 0) := by rw [← e40]; rfl
      have t45 : Int32.toInt (R39 1 0) = Int32.toInt (R22 1 0) := by rw [← e40]; rfl
      rw [e40] at hIR39
      obtain ⟨⟨i46, i47⟩, ⟨i48, i49⟩, ⟨i50, i51⟩, ⟨i52, i53⟩, ⟨i54, i55⟩, hIR39_b14, hIR39_p15⟩ := id hIR39
      refine zi_aload_n (pc := 91) F dX5_play_91 0 rfl ?_
      refine zi_get (pc := 92) (C := RX5) (T := TX5) (N := 27) (v := .ref (G.2.2 6 8)) F (hw_X5_play_X5) 0 rfl rfl 15 (by decide) (List.mem_of_getElem? (i := 7) rfl) rfl rfl dX5_play_92 ?_
      refine zi_aload_n (pc := 95) F dX5_play_95 0 rfl ?_
      refine zi_get (pc := 96) (C := RX5) (T := TX5) (N := 27) (v := .int (R39 12 0)) F (hw_X5_play_X5) 0 rfl rfl 12 (by decide) (List.mem_of_getElem? (i := 5) rfl) rfl rfl dX5_play_96 ?_
      refine zi_aload_n (pc := 99) F dX5_play_99 0 rfl ?_
      refine zi_get (pc := 100) (C := RX5) (T := TX5) (N := 27) (v := .int (R39 1 0)) F (hw_X5_play_X5) 0 rfl rfl 1 (by decide) (List.mem_of_getElem? (i := 3) rfl) rfl rfl dX5_play_100 ?_
      refine zi_iast (pc := 103) (ws' := zWR G (zsF R39 15 (upd (R39 15) (R39 12 0).toNatClampNeg (R39 1 0)))) F 8 0 rfl rfl (zin (a := (R39 12 0)) (by omega) (by omega)) rfl dX5_play_103 ?_
      refine zi_aload_n (pc := 104) F dX5_play_104 0 rfl ?_
      refine zi_dup (pc := 105) F dX5_play_105 rfl ?_
      refine zi_get (pc := 106) (C := RX5) (T := TX5) (N := 27) (v := .int (R39 11 0)) F (hw_X5_play_X5) 0 rfl rfl 11 (by decide) (List.mem_of_getElem? (i := 8) rfl) rfl rfl dX5_play_106 ?_
      refine zi_iconst (pc := 109) (v := 1) F dX5_play_109 rfl ?_
      refine zi_iadd (pc := 110) F dX5_play_110 ?_
      refine zi_put (pc := 111) (C := RX5) (T := TX5) (N := 27) (ty := .int) (ws' := zWR G (zsF (zsI R39 11 ((R39 11 0) + 1)) 15 (upd (R39 15) (R39 12 0).toNatClampNeg (R39 1 0)))) F (hw_X5_play_X5) tyX5 tyX5_ok nmX5 0 rfl rfl 11 (by decide) (List.mem_of_getElem? (i := 8) rfl) rfl rfl rfl rfl rfl (Nat.le_of_ble_eq_true rfl) rfl dX5_play_111 ?_
      have hIR56 : zIR (zsF (zsI R39 11 ((R39 11 0) + 1)) 15 (upd (R39 15) (R39 12 0).toNatClampNeg (R39 1 0))) := ⟨⟨by (show (0:Int) ≤ Int32.toInt (R39 6 0)); omega, by (show Int32.toInt (R39 6 0) ≤ (10:Int)); omega⟩, ⟨by (show (0:Int) ≤ Int32.toInt (R39 12 0)); omega, by (show Int32.toInt (R39 12 0) ≤ (12:Int)); omega⟩, ⟨by (show (0:Int) ≤ Int32.toInt (R39 23 0)); omega, by (show Int32.toInt (R39 23 0) ≤ (40:Int)); omega⟩, ⟨by (show (0:Int) ≤ Int32.toInt (R39 0 0)); omega, by (show Int32.toInt (R39 0 0) ≤ (2:Int)); omega⟩, ⟨by (show (0:Int) ≤ Int32.toInt (R39 1 0)); omega, by (show Int32.toInt (R39 1 0) ≤ (2:Int)); omega⟩, hIR39_b14, (zip_upd hIR39_p15 ⟨by omega, by omega⟩)⟩
      refine zi_nameW (w := fun Z9 => zWR G Z9) (S := (zsF (zsI R39 11 ((R39 11 0) + 1)) 15 (upd (R39 15) (R39 12 0).toNatClampNeg (R39 1 0)))) (fun R56 e57 => ?_)
      have hE := zbnd_cut hE e57
      have t58 : Int32.toInt (R56 6 0) = Int32.toInt (R39 6 0) := by rw [← e57]; rfl
      have t59 : Int32.toInt (R56 12 0) = Int32.toInt (R39 12 0) := by rw [← e57]; rfl
      have t60 : Int32.toInt (R56 23 0) = Int32.toInt (R39 23 0) := by rw [← e57]; rfl
      have t61 : Int32.toInt (R56 0 0) = Int32.toInt (R39 0 0) := by rw [← e57]; rfl
      have t62 : Int32.toInt (R56 1 0) = Int32.toInt (R39 1 0) := by rw [← e57]; rfl
      rw [e57] at hIR56
      obtain ⟨⟨i63, i64⟩, ⟨i65, i66⟩, ⟨i67, i68⟩, ⟨i69, i70⟩, ⟨i71, i72⟩, hIR56_b14, hIR56_p15⟩ := id hIR56
      refine zi_aload_n (pc := 114) F dX5_play_114 0 rfl ?_
      refine zi_get (pc := 115) (C := RX5) (T := TX5) (N := 27) (v := .ref (G.2.2 6 9)) F (hw_X5_play_X5) 0 rfl rfl 16 (by decide) (List.mem_of_getElem? (i := 9) rfl) rfl rfl dX5_play_115 ?_
      refine zi_aload_n (pc := 118) F dX5_play_118 0 rfl ?_
      refine zi_get (pc := 119) (C := RX5) (T := TX5) (N := 27) (v := .int (R56 12 0)) F (hw_X5_play_X5) 0 rfl rfl 12 (by decide) (List.mem_of_getElem? (i := 5) rfl) rfl rfl dX5_play_119 ?_
      refine zi_aload_n (pc := 122) F dX5_play_122 0 rfl ?_
      refine zi_get (pc := 123) (C := RX5) (T := TX5) (N := 27) (v := .int (R56 11 0)) F (hw_X5_play_X5) 0 rfl rfl 11 (by decide) (List.mem_of_getElem? (i := 8) rfl) rfl rfl dX5_play_123 ?_
      refine zi_iast (pc := 126) (ws' := zWR G (zsF R56 16 (upd (R56 16) (R56 12 0).toNatClampNeg (R56 11 0)))) F 9 0 rfl rfl (zin (a := (R56 12 0)) (by omega) (by omega)) rfl dX5_play_126 ?_
      refine zi_aload_n (pc := 127) F dX5_play_127 0 rfl ?_
      refine zi_get (pc := 128) (C := RX5) (T := TX5) (N := 27) (v := .ref (G.2.2 6 10)) F (hw_X5_play_X5) 0 rfl rfl 17 (by decide) (List.mem_of_getElem? (i := 10) rfl) rfl rfl dX5_play_128 ?_
      refine zi_aload_n (pc := 131) F dX5_play_131 0 rfl ?_
      refine zi_get (pc := 132) (C := RX5) (T := TX5) (N := 27) (v := .int (R56 12 0)) F (hw_X5_play_X5) 0 rfl rfl 12 (by decide) (List.mem_of_getElem? (i := 5) rfl) rfl rfl dX5_play_132 ?_
      have hIR73 : zIR (zsF R56 16 (upd (R56 16) (R56 12 0).toNatClampNeg (R56 11 0))) := hIR56
      refine zi_nameW (w := fun Z9 => zWR G Z9) (S := (zsF R56 16 (upd (R56 16) (R56 12 0).toNatClampNeg (R56 11 0)))) (fun R73 e74 => ?_)
      have hE := zbnd_cut hE e74
      have t75 : Int32.toInt (R73 6 0) = Int32.toInt (R56 6 0) := by rw [← e74]; rfl
      have t76 : Int32.toInt (R73 12 0) = Int32.toInt (R56 12 0) := by rw [← e74]; rfl
      have t77 : Int32.toInt (R73 23 0) = Int32.toInt (R56 23 0) := by rw [← e74]; rfl
      have t78 : Int32.toInt (R73 0 0) = Int32.toInt (R56 0 0) := by rw [← e74]; rfl
      have t79 : Int32.toInt (R73 1 0) = Int32.toInt (R56 1 0) := by rw [← e74]; rfl
      rw [e74] at hIR73
      obtain ⟨⟨i80, i81⟩, ⟨i82, i83⟩, ⟨i84, i85⟩, ⟨i86, i87⟩, ⟨i88, i89⟩, hIR73_b14, hIR73_p15⟩ := id hIR73
      obtain ⟨w101, e102⟩ : ∃ z, mX5_play_S135 card target R73 = z := ⟨_, rfl⟩
      have hE := zbnd_cut hE e102
      have hK103 : zW p l e rmX5_play s m args below meth c 0 0 Q G.1 A 3 (zWR G R73) [(0, .ref (G.2.2 6 0)), (1, .int card), (2, .int target)] 179 [.int w101, .int (R56 12 0), .ref (G.2.2 6 10)] → zW p l e rmX5_play s m args below meth c 0 0 Q G.1 A 3 (zWR G R73) [(0, .ref (G.2.2 6 0)), (1, .int card), (2, .int target)] 135 [.int (R56 12 0), .ref (G.2.2 6 10)] := by
        intro hK
        have hE := e102
        unfold mX5_play_S135 at hE
        refine zi_iload_n (pc := 135) F dX5_play_135 1 rfl ?_
        refine zi_bipush (pc := 136) (v := 7) F dX5_play_136 rfl ?_
        refine zi_icmp_eq (pc := 138) (tgt := 147) F dX5_play_138 (by decide) (fun c104 => ?_) (fun c104 => ?_)
        · have hE := zite_t hE c104
          have t105 := congrArg Int32.toInt c104
          refine zi_aload_n (pc := 147) F dX5_play_147 0 rfl ?_
          refine zi_get (pc := 148) (C := RX5) (T := TX5) (N := 27) (v := .ref (G.2.2 6 4)) F (hw_X5_play_X5) 0 rfl rfl 9 (by decide) (List.mem_of_getElem? (i := 11) rfl) rfl rfl dX5_play_148 ?_
          refine zi_iload_n (pc := 151) F dX5_play_151 2 rfl ?_
          refine zi_iald (pc := 152) (v := (R73 9 target.toNatClampNeg)) F 4 0 rfl rfl (zin (a := target) (by omega) (by omega)) rfl dX5_play_152 ?_
          refine zi_goto (pc := 153) (tgt := 179) F dX5_play_153 (by decide) ?_
          subst hE
          exact zi_sub [0, 1, 2] rfl hK
        · have hE := zite_f hE c104
          have t106 := zt_ne c104
          refine zi_iload_n (pc := 141) F dX5_play_141 1 rfl ?_
          refine zi_bipush (pc := 142) (v := 12) F dX5_play_142 rfl ?_
          refine zi_icmp_ne (pc := 144) (tgt := 156) F dX5_play_144 (by decide) (fun c107 => ?_) (fun c107 => ?_)
          · have hE := zite_f hE c107
            have t108 := zt_ne c107
            refine zi_iload_n (pc := 156) F dX5_play_156 1 rfl ?_
            refine zi_bipush (pc := 157) (v := 13) F dX5_play_157 rfl ?_
            refine zi_icmp_ne (pc := 159) (tgt := 178) F dX5_play_159 (by decide) (fun c109 => ?_) (fun c109 => ?_)
            · have hE := zite_f hE c109
              have t110 := zt_ne c109
              refine zi_iconst (pc := 178) (v := 0) F dX5_play_178 rfl ?_
              subst hE
              exact zi_sub [0, 1, 2] rfl hK
            · have hE := zite_t hE c109
              have t111 := congrArg Int32.toInt c109
              refine zi_aload_n (pc := 162) F dX5_play_162 0 rfl ?_
              refine zi_get (pc := 163) (C := RX5) (T := TX5) (N := 27) (v := .ref (G.2.2 6 9)) F (hw_X5_play_X5) 0 rfl rfl 16 (by decide) (List.mem_of_getElem? (i := 9) rfl) rfl rfl dX5_play_163 ?_
              refine zi_aload_n (pc := 166) F dX5_play_166 0 rfl ?_
              refine zi_get (pc := 167) (C := RX5) (T := TX5) (N := 27) (v := .int (R73 12 0)) F (hw_X5_play_X5) 0 rfl rfl 12 (by decide) (List.mem_of_getElem? (i := 5) rfl) rfl rfl dX5_play_167 ?_
              refine zi_iconst (pc := 170) (v := 1) F dX5_play_170 rfl ?_
              refine zi_isub (pc := 171) F dX5_play_171 ?_
              refine zi_iload_n (pc := 172) F dX5_play_172 2 rfl ?_
              refine zi_isub (pc := 173) F dX5_play_173 ?_
              try have t112 := zt_sub (a := (R73 12 0)) (b := 1) (by omega) (by omega)
              try have t113 := zt_sub (a := ((R73 12 0) - 1)) (b := target) (by omega) (by omega)
              refine zi_iald (pc := 174) (v := (R73 16 (((R73 12 0) - 1) - target).toNatClampNeg)) F 9 0 rfl rfl (zin (a := (((R73 12 0) - 1) - target)) (by omega) (by omega)) rfl dX5_play_174 ?_
              refine zi_goto (pc := 175) (tgt := 179) F dX5_play_175 (by decide) ?_
              subst hE
              exact zi_sub [0, 1, 2] rfl hK
          · have hE := zite_t hE c107
            have t114 := congrArg Int32.toInt c107
            refine zi_aload_n (pc := 147) F dX5_play_147 0 rfl ?_
            refine zi_get (pc := 148) (C := RX5) (T := TX5) (N := 27) (v := .ref (G.2.2 6 4)) F (hw_X5_play_X5) 0 rfl rfl 9 (by decide) (List.mem_of_getElem? (i := 11) rfl) rfl rfl dX5_play_148 ?_
            refine zi_iload_n (pc := 151) F dX5_play_151 2 rfl ?_
            refine zi_iald (pc := 152) (v := (R73 9 target.toNatClampNeg)) F 4 0 rfl rfl (zin (a := target) (by omega) (by omega)) rfl dX5_play_152 ?_
            refine zi_goto (pc := 153) (tgt := 179) F dX5_play_153 (by decide) ?_
            subst hE
            exact zi_sub [0, 1, 2] rfl hK
      refine hK103 ?_
      refine zi_iast (pc := 179) (ws' := zWR G (zsF R73 17 (upd (R73 17) (R56 12 0).toNatClampNeg w101))) F 10 0 rfl rfl (zin (a := (R56 12 0)) (by omega) (by omega)) rfl dX5_play_179 ?_
      refine zi_aload_n (pc := 180) F dX5_play_180 0 rfl ?_
      refine zi_dup (pc := 181) F dX5_play_181 rfl ?_
      refine zi_get (pc := 182) (C := RX5) (T := TX5) (N := 27) (v := .int (R73 12 0)) F (hw_X5_play_X5) 0 rfl rfl 12 (by decide) (List.mem_of_getElem? (i := 5) rfl) rfl rfl dX5_play_182 ?_
      refine zi_iconst (pc := 185) (v := 1) F dX5_play_185 rfl ?_
      refine zi_iadd (pc := 186) F dX5_play_186 ?_
      refine zi_put (pc := 187) (C := RX5) (T := TX5) (N := 27) (ty := .int) (ws' := zWR G (zsF (zsI R73 12 ((R73 12 0) + 1)) 17 (upd (R73 17) (R56 12 0).toNatClampNeg w101))) F (hw_X5_play_X5) tyX5 tyX5_ok nmX5 0 rfl rfl 12 (by decide) (List.mem_of_getElem? (i := 5) rfl) rfl rfl rfl rfl rfl (Nat.le_of_ble_eq_true rfl) rfl dX5_play_187 ?_
      refine zi_aload_n (pc := 190) F dX5_play_190 0 rfl ?_
      refine zi_aload_n (pc := 191) F dX5_play_191 0 rfl ?_
      refine zi_get (pc := 192) (C := RX5) (T := TX5) (N := 27) (v := .int (R73 1 0)) F (hw_X5_play_X5) 0 rfl rfl 1 (by decide) (List.mem_of_getElem? (i := 3) rfl) rfl rfl dX5_play_192 ?_
      refine zi_iconst (pc := 195) (v := 1) F dX5_play_195 rfl ?_
      refine zi_iadd (pc := 196) F dX5_play_196 ?_
      refine zi_iconst (pc := 197) (v := 3) F dX5_play_197 rfl ?_
      refine zi_irem (pc := 198) F dX5_play_198 (by decide) ?_
      refine zi_put (pc := 199) (C := RX5) (T := TX5) (N := 27) (ty := .int) (ws' := zWR G (zsF (zsI (zsI R73 1 (((R73 1 0) + 1) - ((R73 1 0) + 1) / 3 * 3)) 12 ((R73 12 0) + 1)) 17 (upd (R73 17) (R56 12 0).toNatClampNeg w101))) F (hw_X5_play_X5) tyX5 tyX5_ok nmX5 0 rfl rfl 1 (by decide) (List.mem_of_getElem? (i := 3) rfl) rfl rfl rfl rfl rfl (Nat.le_of_ble_eq_true rfl) rfl dX5_play_199 ?_
      refine zi_aload_n (pc := 202) F dX5_play_202 0 rfl ?_
      refine zi_iconst (pc := 203) (v := 0) F dX5_play_203 rfl ?_
      refine zi_put (pc := 204) (C := RX5) (T := TX5) (N := 27) (ty := .int) (ws' := zWR G (zsF (zsI (zsI (zsI R73 1 (((R73 1 0) + 1) - ((R73 1 0) + 1) / 3 * 3)) 2 0) 12 ((R73 12 0) + 1)) 17 (upd (R73 17) (R56 12 0).toNatClampNeg w101))) F (hw_X5_play_X5) tyX5 tyX5_ok nmX5 0 rfl rfl 2 (by decide) (List.mem_of_getElem? (i := 12) rfl) rfl rfl rfl rfl rfl (Nat.le_of_ble_eq_true rfl) rfl dX5_play_204 ?_
      refine zi_aload_n (pc := 207) F dX5_play_207 0 rfl ?_
      refine zi_iconst (pc := 208) (v := 0) F dX5_play_208 rfl ?_
      refine zi_put (pc := 209) (C := RX5) (T := TX5) (N := 27) (ty := .int) (ws' := zWR G (zsI (zsF (zsI (zsI (zsI R73 1 (((R73 1 0) + 1) - ((R73 1 0) + 1) / 3 * 3)) 2 0) 12 ((R73 12 0) + 1)) 17 (upd (R73 17) (R56 12 0).toNatClampNeg w101)) 23 0)) F (hw_X5_play_X5) tyX5 tyX5_ok nmX5 0 rfl rfl 23 (by decide) (List.mem_of_getElem? (i := 13) rfl) rfl rfl rfl rfl rfl (Nat.le_of_ble_eq_true rfl) rfl dX5_play_209 ?_
      refine zi_aload_n (pc := 212) F dX5_play_212 0 rfl ?_
      refine zi_get (pc := 213) (C := RX5) (T := TX5) (N := 27) (v := .int ((R73 12 0) + 1)) F (hw_X5_play_X5) 0 rfl rfl 12 (by decide) (List.mem_of_getElem? (i := 5) rfl) rfl rfl dX5_play_213 ?_
      subst hE
      exact hret _ _ dX5_play_216
    · have hE := zite_f hE c16
      have t115 := zt_nle c16
      refine zi_iconst (pc := 38) (v := 2) F dX5_play_38 rfl ?_
      refine zi_goto (pc := 39) (tgt := 43) F dX5_play_39 (by decide) ?_
      refine zi_put (pc := 43) (C := RX5) (T := TX5) (N := 27) (ty := .int) (ws' := zWR G (zsI R 26 2)) F (hw_X5_play_X5) tyX5 tyX5_ok nmX5 0 rfl rfl 26 (by decide) (List.mem_of_getElem? (i := 1) rfl) rfl rfl rfl rfl rfl (Nat.le_of_ble_eq_true rfl) rfl dX5_play_43 ?_
      refine zi_aload_n (pc := 46) F dX5_play_46 0 rfl ?_
      refine zi_get (pc := 47) (C := RX5) (T := TX5) (N := 27) (v := .int 2) F (hw_X5_play_X5) 0 rfl rfl 26 (by decide) (List.mem_of_getElem? (i := 1) rfl) rfl rfl dX5_play_47 ?_
      refine zi_if_le (pc := 50) (tgt := 55) F dX5_play_50 (by decide) (fun c116 => absurd c116 (by decide)) (fun _ => ?_)
      refine zi_iconst (pc := 53) (v := 0) F dX5_play_53 rfl ?_
      subst hE
      exact hret _ _ dX5_play_54
/-! X5_obstacle -/
def mX5_obstacle (card : Int32) (target : Int32) (R : zS_t) : Int32 × zS_t := zbnd (mX5_isIn card 0 13) (fun r1 => if r1 = 0 then (0, (zsI R 26 1)) else (zbnd (mX5_obstacleOf card target (zsI R 26 0)) (fun r11 => (r11, (zsI R 26 0)))))
set_option maxHeartbeats 4000000 in
set_option maxRecDepth 100000 in
theorem pp_X5_obstacle (card : Int32) (target : Int32) (R : zS_t) (hIR : zIR R) : (zIR ((mX5_obstacle card target R).2)) := by
  obtain ⟨X, hE⟩ : ∃ z, mX5_obstacle card target R = z := ⟨_, rfl⟩
  rw [hE]
  have k_0 : Int32.toInt 0 = 0 := by decide
  have k_1 : Int32.toInt 1 = 1 := by decide
  have k_13 : Int32.toInt 13 = 13 := by decide
  obtain ⟨⟨i16, i17⟩, ⟨i18, i19⟩, ⟨i20, i21⟩, ⟨i22, i23⟩, ⟨i24, i25⟩, hIR_b14, hIR_p15⟩ := id hIR
  unfold mX5_obstacle at hE
  have pp4 := pp_X5_isIn card 0 13  
  obtain ⟨r1, e2⟩ : ∃ z, mX5_isIn card 0 13 = z := ⟨_, rfl⟩
  have hE := zbnd_cut hE e2
  rw [e2] at pp4
  obtain ⟨hbr1, q5⟩ := pp4
  by_cases c6 : r1 = 0
  · have hE := zite_t hE c6
    have t7 := congrArg Int32.toInt c6
    subst hE
    exact hIR
  · have hE := zite_f hE c6
    have t9 := zt_ne c6
    have pp14 := pp_X5_obstacleOf card target (zsI R 26 0) (hIR)
    obtain ⟨r11, e12⟩ : ∃ z, mX5_obstacleOf card target (zsI R 26 0) = z := ⟨_, rfl⟩
    have hE := zbnd_cut hE e12
    rw [e12] at pp14
    have q15 := pp14
    have q15 : 0 < Int32.toInt r11 ∨ (((¬ Int32.toInt card = 7 ∧ ¬ Int32.toInt card = 12) ∨ (0 ≤ Int32.toInt target ∧ Int32.toInt target < Int32.toInt (R 6 0))) ∧ (¬ Int32.toInt card = 13 ∨ (0 ≤ Int32.toInt target ∧ Int32.toInt target < Int32.toInt (R 12 0))) ∧ Int32.toInt (R 12 0) < 12) := q15
    subst hE
    exact hIR
theorem hw_X5_obstacle_X5 : ∀ w ∈ wsX50, w ∈ wsX5_obstacle := fun w h => List.mem_cons_of_mem _ (List.mem_append_right _ (h))
abbrev rmX5_obstacle : Room := { frames := 2, cells := 0, slots := 0, locals := 46 }
theorem hd_X5_obstacle : yX5_obstacle.cls = RX5 ∧ yX5_obstacle.cls ≠ "java/lang/invoke/MethodHandle" ∧ yX5_obstacle.cls ≠ "java/lang/invoke/VarHandle" ∧ (parseMethodDescriptor yX5_obstacle.desc).map (fun d => d.parameters.length) = some 2 := by decide +kernel
set_option maxHeartbeats 4000000 in
set_option maxRecDepth 100000 in
theorem c_X5_obstacle (l : Launch) (G : zG_t) (card : Int32) (target : Int32) (R : zS_t) (hIR : zIR R) : zCI l G.1 (zty G) yX5_obstacle wsX5_obstacle rmX5_obstacle [.ref (G.2.2 6 0), .int card, .int target] (zWR G R) ((mX5_obstacle card target R).1) (zWR G ((mX5_obstacle card target R).2)) := by
  obtain ⟨X, hE⟩ : ∃ z, mX5_obstacle card target R = z := ⟨_, rfl⟩
  rw [hE]
  refine zb_I (cc := cX5_obstacle) (maxL := 3) (by decide) rfl (Nat.le_of_ble_eq_true rfl) ?_
  intro p e s m args below meth c Q A F hret
  show zW p l e rmX5_obstacle s m args below meth c 0 0 Q G.1 A 3 (zWR G R) [(0, .ref (G.2.2 6 0)), (1, .int card), (2, .int target)] 0 []
  have k_0 : Int32.toInt 0 = 0 := by decide
  have k_1 : Int32.toInt 1 = 1 := by decide
  have k_13 : Int32.toInt 13 = 13 := by decide
  obtain ⟨⟨i26, i27⟩, ⟨i28, i29⟩, ⟨i30, i31⟩, ⟨i32, i33⟩, ⟨i34, i35⟩, hIR_b14, hIR_p15⟩ := id hIR
  unfold mX5_obstacle at hE
  refine zi_aload_n (pc := 0) F dX5_obstacle_0 0 rfl ?_
  refine zi_iload_n (pc := 1) F dX5_obstacle_1 1 rfl ?_
  refine zi_iconst (pc := 2) (v := 0) F dX5_obstacle_2 rfl ?_
  refine zi_bipush (pc := 3) (v := 13) F dX5_obstacle_3 rfl ?_
  have hM3 := c_X5_isIn l G card 0 13  
  have pp4 := pp_X5_isIn card 0 13  
  obtain ⟨r1, e2⟩ : ∃ z, mX5_isIn card 0 13 = z := ⟨_, rfl⟩
  have hE := zbnd_cut hE e2
  rw [e2] at hM3
  rw [e2] at pp4
  obtain ⟨hbr1, q5⟩ := pp4
  refine zi_callSI (pc := 5) (rest := [.ref (G.2.2 6 0)]) (ws' := zWR G R) F hM3 (va_cwS 3 F.1.2.2.2.2 gX5_obstacle_X5_isIn rfl rfl rfl hd_X5_isIn.2 ⟨Nat.le_of_ble_eq_true rfl, Nat.le_of_ble_eq_true rfl⟩) [] (zWR G R) rfl rfl rfl rfl (Nat.le_of_ble_eq_true rfl) dX5_obstacle_5 ⟨Nat.zero_le _, Nat.zero_le _⟩ ?_
  refine zi_if_eq (pc := 8) (tgt := 15) F dX5_obstacle_8 (by decide) (fun c6 => ?_) (fun c6 => ?_)
  · have hE := zite_t hE c6
    have t7 := congrArg Int32.toInt c6
    refine zi_iconst (pc := 15) (v := 1) F dX5_obstacle_15 rfl ?_
    refine zi_put (pc := 16) (C := RX5) (T := TX5) (N := 27) (ty := .int) (ws' := zWR G (zsI R 26 1)) F (hw_X5_obstacle_X5) tyX5 tyX5_ok nmX5 0 rfl rfl 26 (by decide) (List.mem_of_getElem? (i := 1) rfl) rfl rfl rfl rfl rfl (Nat.le_of_ble_eq_true rfl) rfl dX5_obstacle_16 ?_
    refine zi_aload_n (pc := 19) F dX5_obstacle_19 0 rfl ?_
    refine zi_get (pc := 20) (C := RX5) (T := TX5) (N := 27) (v := .int 1) F (hw_X5_obstacle_X5) 0 rfl rfl 26 (by decide) (List.mem_of_getElem? (i := 1) rfl) rfl rfl dX5_obstacle_20 ?_
    refine zi_if_le (pc := 23) (tgt := 30) F dX5_obstacle_23 (by decide) (fun c8 => absurd c8 (by decide)) (fun _ => ?_)
    refine zi_iconst (pc := 26) (v := 0) F dX5_obstacle_26 rfl ?_
    refine zi_goto (pc := 27) (tgt := 36) F dX5_obstacle_27 (by decide) ?_
    subst hE
    exact hret _ _ dX5_obstacle_36
  · have hE := zite_f hE c6
    have t9 := zt_ne c6
    refine zi_iconst (pc := 11) (v := 0) F dX5_obstacle_11 rfl ?_
    refine zi_goto (pc := 12) (tgt := 16) F dX5_obstacle_12 (by decide) ?_
    refine zi_put (pc := 16) (C := RX5) (T := TX5) (N := 27) (ty := .int) (ws' := zWR G (zsI R 26 0)) F (hw_X5_obstacle_X5) tyX5 tyX5_ok nmX5 0 rfl rfl 26 (by decide) (List.mem_of_getElem? (i := 1) rfl) rfl rfl rfl rfl rfl (Nat.le_of_ble_eq_true rfl) rfl dX5_obstacle_16 ?_
    refine zi_aload_n (pc := 19) F dX5_obstacle_19 0 rfl ?_
    refine zi_get (pc := 20) (C := RX5) (T := TX5) (N := 27) (v := .int 0) F (hw_X5_obstacle_X5) 0 rfl rfl 26 (by decide) (List.mem_of_getElem? (i := 1) rfl) rfl rfl dX5_obstacle_20 ?_
    refine zi_if_le (pc := 23) (tgt := 30) F dX5_obstacle_23 (by decide) (fun _ => ?_) (fun c10 => absurd c10 (by decide))
    refine zi_aload_n (pc := 30) F dX5_obstacle_30 0 rfl ?_
    refine zi_iload_n (pc := 31) F dX5_obstacle_31 1 rfl ?_
    refine zi_iload_n (pc := 32) F dX5_obstacle_32 2 rfl ?_
    have hM13 := c_X5_obstacleOf l G card target (zsI R 26 0) (hIR)
    have pp14 := pp_X5_obstacleOf card target (zsI R 26 0) (hIR)
    obtain ⟨r11, e12⟩ : ∃ z, mX5_obstacleOf card target (zsI R 26 0) = z := ⟨_, rfl⟩
    have hE := zbnd_cut hE e12
    rw [e12] at hM13
    rw [e12] at pp14
    have q15 := pp14
    have q15 : 0 < Int32.toInt r11 ∨ (((¬ Int32.toInt card = 7 ∧ ¬ Int32.toInt card = 12) ∨ (0 ≤ Int32.toInt target ∧ Int32.toInt target < Int32.toInt (R 6 0))) ∧ (¬ Int32.toInt card = 13 ∨ (0 ≤ Int32.toInt target ∧ Int32.toInt target < Int32.toInt (R 12 0))) ∧ Int32.toInt (R 12 0) < 12) := q15
    refine zi_callVI (pc := 33) (rest := []) (ws' := zWR G (zsI R 26 0)) F hM13 (cwV 2 F.1.2.2.2.2 gX5_obstacle_X5_obstacleOf rfl rfl rfl hd_X5_obstacleOf ⟨Nat.le_of_ble_eq_true rfl, Nat.le_of_ble_eq_true rfl⟩) 0 rfl rfl _ _ (zw_nil _) (zw_nil _).symm rfl rfl (Nat.le_of_ble_eq_true rfl) dX5_obstacle_33 ⟨Nat.zero_le _, Nat.zero_le _⟩ ?_
    subst hE
    exact hret _ _ dX5_obstacle_36
/-! X5_pass -/
def mX5_pass  (R : zS_t) : Int32 × zS_t := if 3 ≤ ((R 2 0) + 1) then (if (R 12 0) ≤ 0 then (zbnd (mX5_begins (zsI (zsI R 2 0) 26 0)) (fun R6 => (2, R6))) else (zbnd (mX5_resolves (zsI (zsI R 2 0) 26 0)) (fun R21 => (1, R21)))) else (0, (zsI (zsI (zsI R 1 (((R 1 0) + 1) - ((R 1 0) + 1) / 3 * 3)) 2 ((R 2 0) + 1)) 26 0))
set_option maxHeartbeats 4000000 in
set_option maxRecDepth 100000 in
theorem pp_X5_pass  (R : zS_t) (hIR : zIR R) : (zIR ((mX5_pass R).2)) := by
  obtain ⟨X, hE⟩ : ∃ z, mX5_pass R = z := ⟨_, rfl⟩
  rw [hE]
  have k_0 : Int32.toInt 0 = 0 := by decide
  have k_1 : Int32.toInt 1 = 1 := by decide
  have k_2 : Int32.toInt 2 = 2 := by decide
  have k_3 : Int32.toInt 3 = 3 := by decide
  obtain ⟨⟨i39, i40⟩, ⟨i41, i42⟩, ⟨i43, i44⟩, ⟨i45, i46⟩, ⟨i47, i48⟩, hIR_b14, hIR_p15⟩ := id hIR
  unfold mX5_pass at hE
  by_cases c1 : 3 ≤ ((R 2 0) + 1)
  · have hE := zite_t hE c1
    try have t2 := zt_add (a := (R 2 0)) (b := 1) (by omega) (by omega)
    have t3 := zt_le c1
    by_cases c4 : (R 12 0) ≤ 0
    · have hE := zite_t hE c4
      have t5 := zt_le c4
      have pp9 := pp_X5_begins  (zsI (zsI R 2 0) 26 0) (hIR)
      obtain ⟨R6, e7⟩ : ∃ z, mX5_begins (zsI (zsI R 2 0) 26 0) = z := ⟨_, rfl⟩
      have hE := zbnd_cut hE e7
      rw [e7] at pp9
      have hIR6 := pp9
      obtain ⟨⟨i10, i11⟩, ⟨i12, i13⟩, ⟨i14, i15⟩, ⟨i16, i17⟩, ⟨i18, i19⟩, hIR6_b14, hIR6_p15⟩ := id hIR6
      subst hE
      exact hIR6
    · have hE := zite_f hE c4
      have t20 := zt_nle c4
      have pp24 := pp_X5_resolves  (zsI (zsI R 2 0) 26 0) (hIR) (by first | omega | (show 0 < Int32.toInt (R 12 0); omega))
      obtain ⟨R21, e22⟩ : ∃ z, mX5_resolves (zsI (zsI R 2 0) 26 0) = z := ⟨_, rfl⟩
      have hE := zbnd_cut hE e22
      rw [e22] at pp24
      have hIR21 := pp24
      obtain ⟨⟨i25, i26⟩, ⟨i27, i28⟩, ⟨i29, i30⟩, ⟨i31, i32⟩, ⟨i33, i34⟩, hIR21_b14, hIR21_p15⟩ := id hIR21
      subst hE
      exact hIR21
  · have hE := zite_f hE c1
    try have t35 := zt_add (a := (R 2 0)) (b := 1) (by omega) (by omega)
    have t36 := zt_nle c1
    subst hE
    try have t37 := zt_add (a := (R 1 0)) (b := 1) (by omega) (by omega)
    try have t38 := zt_rem (a := ((R 1 0) + 1)) (b := 3) (c := 3) rfl (by omega) (by omega)
    exact ⟨⟨by (show (0:Int) ≤ Int32.toInt (R 6 0)); omega, by (show Int32.toInt (R 6 0) ≤ (10:Int)); omega⟩, ⟨by (show (0:Int) ≤ Int32.toInt (R 12 0)); omega, by (show Int32.toInt (R 12 0) ≤ (12:Int)); omega⟩, ⟨by (show (0:Int) ≤ Int32.toInt (R 23 0)); omega, by (show Int32.toInt (R 23 0) ≤ (40:Int)); omega⟩, ⟨by (show (0:Int) ≤ Int32.toInt (R 0 0)); omega, by (show Int32.toInt (R 0 0) ≤ (2:Int)); omega⟩, ⟨by (show (0:Int) ≤ Int32.toInt (((R 1 0) + 1) - ((R 1 0) + 1) / 3 * 3)); omega, by (show Int32.toInt (((R 1 0) + 1) - ((R 1 0) + 1) / 3 * 3) ≤ (2:Int)); omega⟩, hIR_b14, hIR_p15⟩
theorem hw_X5_pass_X5 : ∀ w ∈ wsX50, w ∈ wsX5_pass := fun w h => List.mem_cons_of_mem _ (List.mem_append_right _ (h))
abbrev rmX5_pass : Room := { frames := 7, cells := 0, slots := 0, locals := 166 }
theorem hd_X5_pass : yX5_pass.cls = RX5 ∧ yX5_pass.cls ≠ "java/lang/invoke/MethodHandle" ∧ yX5_pass.cls ≠ "java/lang/invoke/VarHandle" ∧ (parseMethodDescriptor yX5_pass.desc).map (fun d => d.parameters.length) = some 0 := by decide +kernel
set_option maxHeartbeats 4000000 in
set_option maxRecDepth 100000 in
theorem c_X5_pass (l : Launch) (G : zG_t)  (R : zS_t) (hIR : zIR R) : zCI l G.1 (zty G) yX5_pass wsX5_pass rmX5_pass [.ref (G.2.2 6 0)] (zWR G R) ((mX5_pass R).1) (zWR G ((mX5_pass R).2)) := by
  obtain ⟨X, hE⟩ : ∃ z, mX5_pass R = z := ⟨_, rfl⟩
  rw [hE]
  refine zb_I (cc := cX5_pass) (maxL := 1) (by decide) rfl (Nat.le_of_ble_eq_true rfl) ?_
  intro p e s m args below meth c Q A F hret
  show zW p l e rmX5_pass s m args below meth c 0 0 Q G.1 A 1 (zWR G R) [(0, .ref (G.2.2 6 0))] 0 []
  have k_0 : Int32.toInt 0 = 0 := by decide
  have k_1 : Int32.toInt 1 = 1 := by decide
  have k_2 : Int32.toInt 2 = 2 := by decide
  have k_3 : Int32.toInt 3 = 3 := by decide
  obtain ⟨⟨i49, i50⟩, ⟨i51, i52⟩, ⟨i53, i54⟩, ⟨i55, i56⟩, ⟨i57, i58⟩, hIR_b14, hIR_p15⟩ := id hIR
  unfold mX5_pass at hE
  refine zi_aload_n (pc := 0) F dX5_pass_0 0 rfl ?_
  refine zi_iconst (pc := 1) (v := 0) F dX5_pass_1 rfl ?_
  refine zi_put (pc := 2) (C := RX5) (T := TX5) (N := 27) (ty := .int) (ws' := zWR G (zsI R 26 0)) F (hw_X5_pass_X5) tyX5 tyX5_ok nmX5 0 rfl rfl 26 (by decide) (List.mem_of_getElem? (i := 1) rfl) rfl rfl rfl rfl rfl (Nat.le_of_ble_eq_true rfl) rfl dX5_pass_2 ?_
  refine zi_aload_n (pc := 5) F dX5_pass_5 0 rfl ?_
  refine zi_dup (pc := 6) F dX5_pass_6 rfl ?_
  refine zi_get (pc := 7) (C := RX5) (T := TX5) (N := 27) (v := .int (R 2 0)) F (hw_X5_pass_X5) 0 rfl rfl 2 (by decide) (List.mem_of_getElem? (i := 2) rfl) rfl rfl dX5_pass_7 ?_
  refine zi_iconst (pc := 10) (v := 1) F dX5_pass_10 rfl ?_
  refine zi_iadd (pc := 11) F dX5_pass_11 ?_
  refine zi_put (pc := 12) (C := RX5) (T := TX5) (N := 27) (ty := .int) (ws' := zWR G (zsI (zsI R 2 ((R 2 0) + 1)) 26 0)) F (hw_X5_pass_X5) tyX5 tyX5_ok nmX5 0 rfl rfl 2 (by decide) (List.mem_of_getElem? (i := 2) rfl) rfl rfl rfl rfl rfl (Nat.le_of_ble_eq_true rfl) rfl dX5_pass_12 ?_
  refine zi_aload_n (pc := 15) F dX5_pass_15 0 rfl ?_
  refine zi_get (pc := 16) (C := RX5) (T := TX5) (N := 27) (v := .int ((R 2 0) + 1)) F (hw_X5_pass_X5) 0 rfl rfl 2 (by decide) (List.mem_of_getElem? (i := 2) rfl) rfl rfl dX5_pass_16 ?_
  refine zi_iconst (pc := 19) (v := 3) F dX5_pass_19 rfl ?_
  refine zi_icmp_ge (pc := 20) (tgt := 37) F dX5_pass_20 (by decide) (fun c1 => ?_) (fun c1 => ?_)
  · have hE := zite_t hE c1
    try have t2 := zt_add (a := (R 2 0)) (b := 1) (by omega) (by omega)
    have t3 := zt_le c1
    refine zi_aload_n (pc := 37) F dX5_pass_37 0 rfl ?_
    refine zi_iconst (pc := 38) (v := 0) F dX5_pass_38 rfl ?_
    refine zi_put (pc := 39) (C := RX5) (T := TX5) (N := 27) (ty := .int) (ws' := zWR G (zsI (zsI R 2 0) 26 0)) F (hw_X5_pass_X5) tyX5 tyX5_ok nmX5 0 rfl rfl 2 (by decide) (List.mem_of_getElem? (i := 2) rfl) rfl rfl rfl rfl rfl (Nat.le_of_ble_eq_true rfl) rfl dX5_pass_39 ?_
    refine zi_aload_n (pc := 42) F dX5_pass_42 0 rfl ?_
    refine zi_get (pc := 43) (C := RX5) (T := TX5) (N := 27) (v := .int (R 12 0)) F (hw_X5_pass_X5) 0 rfl rfl 12 (by decide) (List.mem_of_getElem? (i := 4) rfl) rfl rfl dX5_pass_43 ?_
    refine zi_if_le (pc := 46) (tgt := 55) F dX5_pass_46 (by decide) (fun c4 => ?_) (fun c4 => ?_)
    · have hE := zite_t hE c4
      have t5 := zt_le c4
      refine zi_aload_n (pc := 55) F dX5_pass_55 0 rfl ?_
      have hM8 := c_X5_begins l G  (zsI (zsI R 2 0) 26 0) (hIR)
      have pp9 := pp_X5_begins  (zsI (zsI R 2 0) 26 0) (hIR)
      obtain ⟨R6, e7⟩ : ∃ z, mX5_begins (zsI (zsI R 2 0) 26 0) = z := ⟨_, rfl⟩
      have hE := zbnd_cut hE e7
      rw [e7] at hM8
      rw [e7] at pp9
      have hIR6 := pp9
      obtain ⟨⟨i10, i11⟩, ⟨i12, i13⟩, ⟨i14, i15⟩, ⟨i16, i17⟩, ⟨i18, i19⟩, hIR6_b14, hIR6_p15⟩ := id hIR6
      refine zi_callVV (pc := 56) (rest := []) (ws' := zWR G R6) F hM8 (cwV 0 F.1.2.2.2.2 gX5_pass_X5_begins rfl rfl rfl hd_X5_begins ⟨Nat.le_of_ble_eq_true rfl, Nat.le_of_ble_eq_true rfl⟩) 0 rfl rfl _ _ (zw_nil _) (zw_nil _).symm rfl rfl (Nat.le_of_ble_eq_true rfl) dX5_pass_56 ⟨Nat.zero_le _, Nat.zero_le _⟩ ?_
      refine zi_iconst (pc := 59) (v := 2) F dX5_pass_59 rfl ?_
      subst hE
      exact hret _ _ dX5_pass_60
    · have hE := zite_f hE c4
      have t20 := zt_nle c4
      refine zi_aload_n (pc := 49) F dX5_pass_49 0 rfl ?_
      have hM23 := c_X5_resolves l G  (zsI (zsI R 2 0) 26 0) (hIR) (by first | omega | (show 0 < Int32.toInt (R 12 0); omega))
      have pp24 := pp_X5_resolves  (zsI (zsI R 2 0) 26 0) (hIR) (by first | omega | (show 0 < Int32.toInt (R 12 0); omega))
      obtain ⟨R21, e22⟩ : ∃ z, mX5_resolves (zsI (zsI R 2 0) 26 0) = z := ⟨_, rfl⟩
      have hE := zbnd_cut hE e22
      rw [e22] at hM23
      rw [e22] at pp24
      have hIR21 := pp24
      obtain ⟨⟨i25, i26⟩, ⟨i27, i28⟩, ⟨i29, i30⟩, ⟨i31, i32⟩, ⟨i33, i34⟩, hIR21_b14, hIR21_p15⟩ := id hIR21
      refine zi_callVV (pc := 50) (rest := []) (ws' := zWR G R21) F hM23 (cwV 0 F.1.2.2.2.2 gX5_pass_X5_resolves rfl rfl rfl hd_X5_resolves ⟨Nat.le_of_ble_eq_true rfl, Nat.le_of_ble_eq_true rfl⟩) 0 rfl rfl _ _ (zw_nil _) (zw_nil _).symm rfl rfl (Nat.le_of_ble_eq_true rfl) dX5_pass_50 ⟨Nat.zero_le _, Nat.zero_le _⟩ ?_
      refine zi_iconst (pc := 53) (v := 1) F dX5_pass_53 rfl ?_
      subst hE
      exact hret _ _ dX5_pass_54
  · have hE := zite_f hE c1
    try have t35 := zt_add (a := (R 2 0)) (b := 1) (by omega) (by omega)
    have t36 := zt_nle c1
    refine zi_aload_n (pc := 23) F dX5_pass_23 0 rfl ?_
    refine zi_aload_n (pc := 24) F dX5_pass_24 0 rfl ?_
    refine zi_get (pc := 25) (C := RX5) (T := TX5) (N := 27) (v := .int (R 1 0)) F (hw_X5_pass_X5) 0 rfl rfl 1 (by decide) (List.mem_of_getElem? (i := 3) rfl) rfl rfl dX5_pass_25 ?_
    refine zi_iconst (pc := 28) (v := 1) F dX5_pass_28 rfl ?_
    refine zi_iadd (pc := 29) F dX5_pass_29 ?_
    refine zi_iconst (pc := 30) (v := 3) F dX5_pass_30 rfl ?_
    refine zi_irem (pc := 31) F dX5_pass_31 (by decide) ?_
    refine zi_put (pc := 32) (C := RX5) (T := TX5) (N := 27) (ty := .int) (ws' := zWR G (zsI (zsI (zsI R 1 (((R 1 0) + 1) - ((R 1 0) + 1) / 3 * 3)) 2 ((R 2 0) + 1)) 26 0)) F (hw_X5_pass_X5) tyX5 tyX5_ok nmX5 0 rfl rfl 1 (by decide) (List.mem_of_getElem? (i := 3) rfl) rfl rfl rfl rfl rfl (Nat.le_of_ble_eq_true rfl) rfl dX5_pass_32 ?_
    refine zi_iconst (pc := 35) (v := 0) F dX5_pass_35 rfl ?_
    subst hE
    exact hret _ _ dX5_pass_36
/-! X5_settle -/
def mX5_settle_L21 (entries : Int32) : Nat → Int32 → zS_t → Int32 × zS_t
  | 0, k2_53, R54 => (k2_53, R54)
  | n55 + 1, k2_53, R54 => if (R54 26 0) = 0 then (if entries ≤ k2_53 then (k2_53, R54) else (if (R54 12 0) ≤ 0 then (k2_53, R54) else (zbnd (mX5_resolves R54) (fun R92 => zbnd ((k2_53 + 1)) (fun y106 => mX5_settle_L21 entries n55 y106 R92))))) else (k2_53, R54)
def mX5_settle (entries : Int32) (R : zS_t) : Int32 × zS_t := zbnd (mX5_isIn entries 1 60) (fun r1 => if r1 = 0 then (zbnd ((zsI R 26 1)) (fun R8 => zbnd2 (mX5_settle_L21 entries 61 0 R8) (fun k2_110 R111 => (k2_110, R111)))) else (zbnd ((zsI R 26 0)) (fun R128 => zbnd2 (mX5_settle_L21 entries 61 0 R128) (fun k2_230 R231 => (k2_230, R231)))))
set_option maxHeartbeats 4000000 in
set_option maxRecDepth 100000 in
theorem pp_X5_settle (entries : Int32) (R : zS_t) (hIR : zIR R) : (zIR ((mX5_settle entries R).2)) := by
  obtain ⟨X, hE⟩ : ∃ z, mX5_settle entries R = z := ⟨_, rfl⟩
  rw [hE]
  have k_0 : Int32.toInt 0 = 0 := by decide
  have k_1 : Int32.toInt 1 = 1 := by decide
  have k_60 : Int32.toInt 60 = 60 := by decide
  obtain ⟨⟨i247, i248⟩, ⟨i249, i250⟩, ⟨i251, i252⟩, ⟨i253, i254⟩, ⟨i255, i256⟩, hIR_b14, hIR_p15⟩ := id hIR
  unfold mX5_settle at hE
  have pp4 := pp_X5_isIn entries 1 60  
  obtain ⟨r1, e2⟩ : ∃ z, mX5_isIn entries 1 60 = z := ⟨_, rfl⟩
  have hE := zbnd_cut hE e2
  rw [e2] at pp4
  obtain ⟨hbr1, q5⟩ := pp4
  by_cases c6 : r1 = 0
  · have hE := zite_t hE c6
    have t7 := congrArg Int32.toInt c6
    have hIR8 : zIR (zsI R 26 1) := hIR
    obtain ⟨R8, e9⟩ : ∃ z, (zsI R 26 1) = z := ⟨_, rfl⟩
    have hE := zbnd_cut hE e9
    have t10 : Int32.toInt (R8 6 0) = Int32.toInt (R 6 0) := by rw [← e9]; rfl
    have t11 : Int32.toInt (R8 12 0) = Int32.toInt (R 12 0) := by rw [← e9]; rfl
    have t12 : Int32.toInt (R8 23 0) = Int32.toInt (R 23 0) := by rw [← e9]; rfl
    have t13 : Int32.toInt (R8 0 0) = Int32.toInt (R 0 0) := by rw [← e9]; rfl
    have t14 : Int32.toInt (R8 1 0) = Int32.toInt (R 1 0) := by rw [← e9]; rfl
    have t15 : Int32.toInt (R8 26 0) = Int32.toInt 1 := by rw [← e9]; rfl
    rw [e9] at hIR8
    obtain ⟨⟨i16, i17⟩, ⟨i18, i19⟩, ⟨i20, i21⟩, ⟨i22, i23⟩, ⟨i24, i25⟩, hIR8_b14, hIR8_p15⟩ := id hIR8
    have hL21 : ∀ (n55 : Nat) (k2_53 : Int32) (R54 : zS_t), (0 ≤ Int32.toInt k2_53) ∧ (Int32.toInt k2_53 ≤ 60) ∧ (¬ Int32.toInt (R54 26 0) = 0 ∨ Int32.toInt entries ≤ 60) ∧ (zIR R54) → 61 - Int32.toInt k2_53 ≤ (n55 : Int) → ∀ Y56, mX5_settle_L21 entries n55 k2_53 R54 = Y56 → (0 ≤ Int32.toInt Y56.1) ∧ (Int32.toInt Y56.1 ≤ 60) ∧ (¬ Int32.toInt ((Y56.2) 26 0) = 0 ∨ Int32.toInt entries ≤ 60) ∧ (zIR (Y56.2)) := by
      intro n55
      induction n55 with
      | zero =>
        intro k2_53 R54 hI hM9
        obtain ⟨i57, i58, i59, hIR54⟩ := id hI
        obtain ⟨⟨i60, i61⟩, ⟨i62, i63⟩, ⟨i64, i65⟩, ⟨i66, i67⟩, ⟨i68, i69⟩, hIR54_b14, hIR54_p15⟩ := id hIR54
        exact absurd hM9 (by omega)
      | succ n55 ih =>
        intro k2_53 R54 hI hM9 Y56 hE
        obtain ⟨i70, i71, i72, hIR54⟩ := id hI
        obtain ⟨⟨i73, i74⟩, ⟨i75, i76⟩, ⟨i77, i78⟩, ⟨i79, i80⟩, ⟨i81, i82⟩, hIR54_b14, hIR54_p15⟩ := id hIR54
        rw [mX5_settle_L21.eq_2] at hE
        by_cases c83 : (R54 26 0) = 0
        · have hE := zite_t hE c83
          have t84 := congrArg Int32.toInt c83
          by_cases c85 : entries ≤ k2_53
          · have hE := zite_t hE c85
            have t86 := zt_le c85
            subst hE
            exact ⟨by (show 0 ≤ Int32.toInt k2_53; omega), by (show Int32.toInt k2_53 ≤ 60; omega), by (show ¬ Int32.toInt (R54 26 0) = 0 ∨ Int32.toInt entries ≤ 60; omega), hIR54⟩
          · have hE := zite_f hE c85
            have t87 := zt_nle c85
            by_cases c88 : (R54 12 0) ≤ 0
            · have hE := zite_t hE c88
              have t89 := zt_le c88
              subst hE
              exact ⟨by (show 0 ≤ Int32.toInt k2_53; omega), by (show Int32.toInt k2_53 ≤ 60; omega), by (show ¬ Int32.toInt (R54 26 0) = 0 ∨ Int32.toInt entries ≤ 60; omega), hIR54⟩
            · have hE := zite_f hE c88
              have t90 := zt_nle c88
              have pp94 := pp_X5_resolves  R54 (hIR54) (by first | omega | (show 0 < Int32.toInt (R54 12 0); omega))
              obtain ⟨R91, e92⟩ : ∃ z, mX5_resolves R54 = z := ⟨_, rfl⟩
              have hE := zbnd_cut hE e92
              rw [e92] at pp94
              have hIR91 := pp94
              obtain ⟨⟨i95, i96⟩, ⟨i97, i98⟩, ⟨i99, i100⟩, ⟨i101, i102⟩, ⟨i103, i104⟩, hIR91_b14, hIR91_p15⟩ := id hIR91
              try have t107 := zt_add (a := k2_53) (b := 1) (by omega) (by omega)
              obtain ⟨y105, e106⟩ : ∃ z : Int32, (k2_53 + 1) = z := ⟨_, rfl⟩
              have hE := zbnd_cut hE e106
              have t108 := congrArg Int32.toInt e106
              exact ih y105 R91 (⟨by (show 0 ≤ Int32.toInt y105; omega), by (show Int32.toInt y105 ≤ 60; omega), by (show ¬ Int32.toInt (R91 26 0) = 0 ∨ Int32.toInt entries ≤ 60; omega), hIR91⟩) (by omega) _ hE
        · have hE := zite_f hE c83
          have t109 := zt_ne c83
          subst hE
          exact ⟨by (show 0 ≤ Int32.toInt k2_53; omega), by (show Int32.toInt k2_53 ≤ 60; omega), by (show ¬ Int32.toInt (R54 26 0) = 0 ∨ Int32.toInt entries ≤ 60; omega), hIR54⟩
    obtain ⟨⟨k2_110, R111⟩, e112⟩ : ∃ z, mX5_settle_L21 entries 61 0 R8 = z := ⟨_, rfl⟩
    have hE := zbnd2_cut hE e112
    have hI113 := hL21 61 0 R8 (⟨by (show 0 ≤ Int32.toInt 0; omega), by (show Int32.toInt 0 ≤ 60; omega), by (show ¬ Int32.toInt (R8 26 0) = 0 ∨ Int32.toInt entries ≤ 60; omega), hIR8⟩) (by omega) _ e112
    have hI113 : (0 ≤ Int32.toInt k2_110) ∧ (Int32.toInt k2_110 ≤ 60) ∧ (¬ Int32.toInt (R111 26 0) = 0 ∨ Int32.toInt entries ≤ 60) ∧ (zIR R111) := hI113
    obtain ⟨i114, i115, i116, hIR111⟩ := id hI113
    obtain ⟨⟨i117, i118⟩, ⟨i119, i120⟩, ⟨i121, i122⟩, ⟨i123, i124⟩, ⟨i125, i126⟩, hIR111_b14, hIR111_p15⟩ := id hIR111
    subst hE
    exact hIR111
  · have hE := zite_f hE c6
    have t127 := zt_ne c6
    have hIR128 : zIR (zsI R 26 0) := hIR
    obtain ⟨R128, e129⟩ : ∃ z, (zsI R 26 0) = z := ⟨_, rfl⟩
    have hE := zbnd_cut hE e129
    have t130 : Int32.toInt (R128 6 0) = Int32.toInt (R 6 0) := by rw [← e129]; rfl
    have t131 : Int32.toInt (R128 12 0) = Int32.toInt (R 12 0) := by rw [← e129]; rfl
    have t132 : Int32.toInt (R128 23 0) = Int32.toInt (R 23 0) := by rw [← e129]; rfl
    have t133 : Int32.toInt (R128 0 0) = Int32.toInt (R 0 0) := by rw [← e129]; rfl
    have t134 : Int32.toInt (R128 1 0) = Int32.toInt (R 1 0) := by rw [← e129]; rfl
    have t135 : Int32.toInt (R128 26 0) = Int32.toInt 0 := by rw [← e129]; rfl
    rw [e129] at hIR128
    obtain ⟨⟨i136, i137⟩, ⟨i138, i139⟩, ⟨i140, i141⟩, ⟨i142, i143⟩, ⟨i144, i145⟩, hIR128_b14, hIR128_p15⟩ := id hIR128
    have hL21 : ∀ (n175 : Nat) (k2_173 : Int32) (R174 : zS_t), (0 ≤ Int32.toInt k2_173) ∧ (Int32.toInt k2_173 ≤ 60) ∧ (¬ Int32.toInt (R174 26 0) = 0 ∨ Int32.toInt entries ≤ 60) ∧ (zIR R174) → 61 - Int32.toInt k2_173 ≤ (n175 : Int) → ∀ Y176, mX5_settle_L21 entries n175 k2_173 R174 = Y176 → (0 ≤ Int32.toInt Y176.1) ∧ (Int32.toInt Y176.1 ≤ 60) ∧ (¬ Int32.toInt ((Y176.2) 26 0) = 0 ∨ Int32.toInt entries ≤ 60) ∧ (zIR (Y176.2)) := by
      intro n175
      induction n175 with
      | zero =>
        intro k2_173 R174 hI hM9
        obtain ⟨i177, i178, i179, hIR174⟩ := id hI
        obtain ⟨⟨i180, i181⟩, ⟨i182, i183⟩, ⟨i184, i185⟩, ⟨i186, i187⟩, ⟨i188, i189⟩, hIR174_b14, hIR174_p15⟩ := id hIR174
        exact absurd hM9 (by omega)
      | succ n175 ih =>
        intro k2_173 R174 hI hM9 Y176 hE
        obtain ⟨i190, i191, i192, hIR174⟩ := id hI
        obtain ⟨⟨i193, i194⟩, ⟨i195, i196⟩, ⟨i197, i198⟩, ⟨i199, i200⟩, ⟨i201, i202⟩, hIR174_b14, hIR174_p15⟩ := id hIR174
        rw [mX5_settle_L21.eq_2] at hE
        by_cases c203 : (R174 26 0) = 0
        · have hE := zite_t hE c203
          have t204 := congrArg Int32.toInt c203
          by_cases c205 : entries ≤ k2_173
          · have hE := zite_t hE c205
            have t206 := zt_le c205
            subst hE
            exact ⟨by (show 0 ≤ Int32.toInt k2_173; omega), by (show Int32.toInt k2_173 ≤ 60; omega), by (show ¬ Int32.toInt (R174 26 0) = 0 ∨ Int32.toInt entries ≤ 60; omega), hIR174⟩
          · have hE := zite_f hE c205
            have t207 := zt_nle c205
            by_cases c208 : (R174 12 0) ≤ 0
            · have hE := zite_t hE c208
              have t209 := zt_le c208
              subst hE
              exact ⟨by (show 0 ≤ Int32.toInt k2_173; omega), by (show Int32.toInt k2_173 ≤ 60; omega), by (show ¬ Int32.toInt (R174 26 0) = 0 ∨ Int32.toInt entries ≤ 60; omega), hIR174⟩
            · have hE := zite_f hE c208
              have t210 := zt_nle c208
              have pp214 := pp_X5_resolves  R174 (hIR174) (by first | omega | (show 0 < Int32.toInt (R174 12 0); omega))
              obtain ⟨R211, e212⟩ : ∃ z, mX5_resolves R174 = z := ⟨_, rfl⟩
              have hE := zbnd_cut hE e212
              rw [e212] at pp214
              have hIR211 := pp214
              obtain ⟨⟨i215, i216⟩, ⟨i217, i218⟩, ⟨i219, i220⟩, ⟨i221, i222⟩, ⟨i223, i224⟩, hIR211_b14, hIR211_p15⟩ := id hIR211
              try have t227 := zt_add (a := k2_173) (b := 1) (by omega) (by omega)
              obtain ⟨y225, e226⟩ : ∃ z : Int32, (k2_173 + 1) = z := ⟨_, rfl⟩
              have hE := zbnd_cut hE e226
              have t228 := congrArg Int32.toInt e226
              exact ih y225 R211 (⟨by (show 0 ≤ Int32.toInt y225; omega), by (show Int32.toInt y225 ≤ 60; omega), by (show ¬ Int32.toInt (R211 26 0) = 0 ∨ Int32.toInt entries ≤ 60; omega), hIR211⟩) (by omega) _ hE
        · have hE := zite_f hE c203
          have t229 := zt_ne c203
          subst hE
          exact ⟨by (show 0 ≤ Int32.toInt k2_173; omega), by (show Int32.toInt k2_173 ≤ 60; omega), by (show ¬ Int32.toInt (R174 26 0) = 0 ∨ Int32.toInt entries ≤ 60; omega), hIR174⟩
    obtain ⟨⟨k2_230, R231⟩, e232⟩ : ∃ z, mX5_settle_L21 entries 61 0 R128 = z := ⟨_, rfl⟩
    have hE := zbnd2_cut hE e232
    have hI233 := hL21 61 0 R128 (⟨by (show 0 ≤ Int32.toInt 0; omega), by (show Int32.toInt 0 ≤ 60; omega), by (show ¬ Int32.toInt (R128 26 0) = 0 ∨ Int32.toInt entries ≤ 60; omega), hIR128⟩) (by omega) _ e232
    have hI233 : (0 ≤ Int32.toInt k2_230) ∧ (Int32.toInt k2_230 ≤ 60) ∧ (¬ Int32.toInt (R231 26 0) = 0 ∨ Int32.toInt entries ≤ 60) ∧ (zIR R231) := hI233
    obtain ⟨i234, i235, i236, hIR231⟩ := id hI233
    obtain ⟨⟨i237, i238⟩, ⟨i239, i240⟩, ⟨i241, i242⟩, ⟨i243, i244⟩, ⟨i245, i246⟩, hIR231_b14, hIR231_p15⟩ := id hIR231
    subst hE
    exact hIR231
theorem hw_X5_settle_X5 : ∀ w ∈ wsX50, w ∈ wsX5_settle := fun w h => List.mem_cons_of_mem _ (List.mem_append_right _ (h))
abbrev rmX5_settle : Room := { frames := 7, cells := 0, slots := 0, locals := 166 }
theorem hd_X5_settle : yX5_settle.cls = RX5 ∧ yX5_settle.cls ≠ "java/lang/invoke/MethodHandle" ∧ yX5_settle.cls ≠ "java/lang/invoke/VarHandle" ∧ (parseMethodDescriptor yX5_settle.desc).map (fun d => d.parameters.length) = some 1 := by decide +kernel
set_option maxHeartbeats 4000000 in
set_option maxRecDepth 100000 in
theorem c_X5_settle (l : Launch) (G : zG_t) (entries : Int32) (R : zS_t) (hIR : zIR R) : zCI l G.1 (zty G) yX5_settle wsX5_settle rmX5_settle [.ref (G.2.2 6 0), .int entries] (zWR G R) ((mX5_settle entries R).1) (zWR G ((mX5_settle entries R).2)) := by
  obtain ⟨X, hE⟩ : ∃ z, mX5_settle entries R = z := ⟨_, rfl⟩
  rw [hE]
  refine zb_I (cc := cX5_settle) (maxL := 3) (by decide) rfl (Nat.le_of_ble_eq_true rfl) ?_
  intro p e s m args below meth c Q A F hret
  show zW p l e rmX5_settle s m args below meth c 0 0 Q G.1 A 3 (zWR G R) [(0, .ref (G.2.2 6 0)), (1, .int entries)] 0 []
  have k_0 : Int32.toInt 0 = 0 := by decide
  have k_1 : Int32.toInt 1 = 1 := by decide
  have k_60 : Int32.toInt 60 = 60 := by decide
  obtain ⟨⟨i257, i258⟩, ⟨i259, i260⟩, ⟨i261, i262⟩, ⟨i263, i264⟩, ⟨i265, i266⟩, hIR_b14, hIR_p15⟩ := id hIR
  unfold mX5_settle at hE
  refine zi_aload_n (pc := 0) F dX5_settle_0 0 rfl ?_
  refine zi_iload_n (pc := 1) F dX5_settle_1 1 rfl ?_
  refine zi_iconst (pc := 2) (v := 1) F dX5_settle_2 rfl ?_
  refine zi_bipush (pc := 3) (v := 60) F dX5_settle_3 rfl ?_
  have hM3 := c_X5_isIn l G entries 1 60  
  have pp4 := pp_X5_isIn entries 1 60  
  obtain ⟨r1, e2⟩ : ∃ z, mX5_isIn entries 1 60 = z := ⟨_, rfl⟩
  have hE := zbnd_cut hE e2
  rw [e2] at hM3
  rw [e2] at pp4
  obtain ⟨hbr1, q5⟩ := pp4
  refine zi_callSI (pc := 5) (rest := [.ref (G.2.2 6 0)]) (ws' := zWR G R) F hM3 (va_cwS 3 F.1.2.2.2.2 gX5_settle_X5_isIn rfl rfl rfl hd_X5_isIn.2 ⟨Nat.le_of_ble_eq_true rfl, Nat.le_of_ble_eq_true rfl⟩) [] (zWR G R) rfl rfl rfl rfl (Nat.le_of_ble_eq_true rfl) dX5_settle_5 ⟨Nat.zero_le _, Nat.zero_le _⟩ ?_
  refine zi_if_eq (pc := 8) (tgt := 15) F dX5_settle_8 (by decide) (fun c6 => ?_) (fun c6 => ?_)
  · have hE := zite_t hE c6
    have t7 := congrArg Int32.toInt c6
    refine zi_iconst (pc := 15) (v := 1) F dX5_settle_15 rfl ?_
    refine zi_put (pc := 16) (C := RX5) (T := TX5) (N := 27) (ty := .int) (ws' := zWR G (zsI R 26 1)) F (hw_X5_settle_X5) tyX5 tyX5_ok nmX5 0 rfl rfl 26 (by decide) (List.mem_of_getElem? (i := 1) rfl) rfl rfl rfl rfl rfl (Nat.le_of_ble_eq_true rfl) rfl dX5_settle_16 ?_
    refine zi_iconst (pc := 19) (v := 0) F dX5_settle_19 rfl ?_
    refine zi_istore_n (pc := 20) (lv' := [(0, .ref (G.2.2 6 0)), (1, .int entries), (2, .int 0)]) F dX5_settle_20 (by decide) rfl ?_
    have hIR8 : zIR (zsI R 26 1) := hIR
    refine zi_nameW (w := fun Z9 => zWR G Z9) (S := (zsI R 26 1)) (fun R8 e9 => ?_)
    have hE := zbnd_cut hE e9
    have t10 : Int32.toInt (R8 6 0) = Int32.toInt (R 6 0) := by rw [← e9]; rfl
    have t11 : Int32.toInt (R8 12 0) = Int32.toInt (R 12 0) := by rw [← e9]; rfl
    have t12 : Int32.toInt (R8 23 0) = Int32.toInt (R 23 0) := by rw [← e9]; rfl
    have t13 : Int32.toInt (R8 0 0) = Int32.toInt (R 0 0) := by rw [← e9]; rfl
    have t14 : Int32.toInt (R8 1 0) = Int32.toInt (R 1 0) := by rw [← e9]; rfl
    have t15 : Int32.toInt (R8 26 0) = Int32.toInt 1 := by rw [← e9]; rfl
    rw [e9] at hIR8
    obtain ⟨⟨i16, i17⟩, ⟨i18, i19⟩, ⟨i20, i21⟩, ⟨i22, i23⟩, ⟨i24, i25⟩, hIR8_b14, hIR8_p15⟩ := id hIR8
    have hL21 : ∀ (n55 : Nat) (k2_53 : Int32) (R54 : zS_t), (0 ≤ Int32.toInt k2_53) ∧ (Int32.toInt k2_53 ≤ 60) ∧ (¬ Int32.toInt (R54 26 0) = 0 ∨ Int32.toInt entries ≤ 60) ∧ (zIR R54) → 61 - Int32.toInt k2_53 ≤ (n55 : Int) → ∀ Y56, mX5_settle_L21 entries n55 k2_53 R54 = Y56 → (((0 ≤ Int32.toInt Y56.1) ∧ (Int32.toInt Y56.1 ≤ 60) ∧ (¬ Int32.toInt ((Y56.2) 26 0) = 0 ∨ Int32.toInt entries ≤ 60) ∧ (zIR (Y56.2))) → zW p l e rmX5_settle s m args below meth c 0 0 Q G.1 A 3 (zWR G (Y56.2)) [(0, .ref (G.2.2 6 0)), (1, .int entries), (2, .int Y56.1)] 50 []) → zW p l e rmX5_settle s m args below meth c 0 0 Q G.1 A 3 (zWR G R54) [(0, .ref (G.2.2 6 0)), (1, .int entries), (2, .int k2_53)] 21 [] := by
      intro n55
      induction n55 with
      | zero =>
        intro k2_53 R54 hI hM9
        obtain ⟨i57, i58, i59, hIR54⟩ := id hI
        obtain ⟨⟨i60, i61⟩, ⟨i62, i63⟩, ⟨i64, i65⟩, ⟨i66, i67⟩, ⟨i68, i69⟩, hIR54_b14, hIR54_p15⟩ := id hIR54
        exact absurd hM9 (by omega)
      | succ n55 ih =>
        intro k2_53 R54 hI hM9 Y56 hE hK
        obtain ⟨i70, i71, i72, hIR54⟩ := id hI
        obtain ⟨⟨i73, i74⟩, ⟨i75, i76⟩, ⟨i77, i78⟩, ⟨i79, i80⟩, ⟨i81, i82⟩, hIR54_b14, hIR54_p15⟩ := id hIR54
        rw [mX5_settle_L21.eq_2] at hE
        refine zi_aload_n (pc := 21) F dX5_settle_21 0 rfl ?_
        refine zi_get (pc := 22) (C := RX5) (T := TX5) (N := 27) (v := .int (R54 26 0)) F (hw_X5_settle_X5) 0 rfl rfl 26 (by decide) (List.mem_of_getElem? (i := 1) rfl) rfl rfl dX5_settle_22 ?_
        refine zi_if_ne (pc := 25) (tgt := 50) F dX5_settle_25 (by decide) (fun c83 => ?_) (fun c83 => ?_)
        · have hE := zite_f hE c83
          have t84 := zt_ne c83
          subst hE
          refine zi_sub [0, 1, 2] rfl ?_
          exact hK (⟨by (show 0 ≤ Int32.toInt k2_53; omega), by (show Int32.toInt k2_53 ≤ 60; omega), by (show ¬ Int32.toInt (R54 26 0) = 0 ∨ Int32.toInt entries ≤ 60; omega), hIR54⟩)
        · have hE := zite_t hE c83
          have t85 := congrArg Int32.toInt c83
          refine zi_iload_n (pc := 28) F dX5_settle_28 2 rfl ?_
          refine zi_iload_n (pc := 29) F dX5_settle_29 1 rfl ?_
          refine zi_icmp_ge (pc := 30) (tgt := 50) F dX5_settle_30 (by decide) (fun c86 => ?_) (fun c86 => ?_)
          · have hE := zite_t hE c86
            have t87 := zt_le c86
            subst hE
            refine zi_sub [0, 1, 2] rfl ?_
            exact hK (⟨by (show 0 ≤ Int32.toInt k2_53; omega), by (show Int32.toInt k2_53 ≤ 60; omega), by (show ¬ Int32.toInt (R54 26 0) = 0 ∨ Int32.toInt entries ≤ 60; omega), hIR54⟩)
          · have hE := zite_f hE c86
            have t88 := zt_nle c86
            refine zi_aload_n (pc := 33) F dX5_settle_33 0 rfl ?_
            refine zi_get (pc := 34) (C := RX5) (T := TX5) (N := 27) (v := .int (R54 12 0)) F (hw_X5_settle_X5) 0 rfl rfl 12 (by decide) (List.mem_of_getElem? (i := 2) rfl) rfl rfl dX5_settle_34 ?_
            refine zi_if_le (pc := 37) (tgt := 50) F dX5_settle_37 (by decide) (fun c89 => ?_) (fun c89 => ?_)
            · have hE := zite_t hE c89
              have t90 := zt_le c89
              subst hE
              refine zi_sub [0, 1, 2] rfl ?_
              exact hK (⟨by (show 0 ≤ Int32.toInt k2_53; omega), by (show Int32.toInt k2_53 ≤ 60; omega), by (show ¬ Int32.toInt (R54 26 0) = 0 ∨ Int32.toInt entries ≤ 60; omega), hIR54⟩)
            · have hE := zite_f hE c89
              have t91 := zt_nle c89
              refine zi_aload_n (pc := 40) F dX5_settle_40 0 rfl ?_
              have hM94 := c_X5_resolves l G  R54 (hIR54) (by first | omega | (show 0 < Int32.toInt (R54 12 0); omega))
              have pp95 := pp_X5_resolves  R54 (hIR54) (by first | omega | (show 0 < Int32.toInt (R54 12 0); omega))
              obtain ⟨R92, e93⟩ : ∃ z, mX5_resolves R54 = z := ⟨_, rfl⟩
              have hE := zbnd_cut hE e93
              rw [e93] at hM94
              rw [e93] at pp95
              have hIR92 := pp95
              obtain ⟨⟨i96, i97⟩, ⟨i98, i99⟩, ⟨i100, i101⟩, ⟨i102, i103⟩, ⟨i104, i105⟩, hIR92_b14, hIR92_p15⟩ := id hIR92
              refine zi_callVV (pc := 41) (rest := []) (ws' := zWR G R92) F hM94 (cwV 0 F.1.2.2.2.2 gX5_settle_X5_resolves rfl rfl rfl hd_X5_resolves ⟨Nat.le_of_ble_eq_true rfl, Nat.le_of_ble_eq_true rfl⟩) 0 rfl rfl _ _ (zw_nil _) (zw_nil _).symm rfl rfl (Nat.le_of_ble_eq_true rfl) dX5_settle_41 ⟨Nat.zero_le _, Nat.zero_le _⟩ ?_
              try have t108 := zt_add (a := k2_53) (b := 1) (by omega) (by omega)
              obtain ⟨y106, e107⟩ : ∃ z : Int32, (k2_53 + 1) = z := ⟨_, rfl⟩
              have hE := zbnd_cut hE e107
              have t109 := congrArg Int32.toInt e107
              refine zi_iinc (pc := 44) (lv' := [(0, .ref (G.2.2 6 0)), (1, .int entries), (2, .int y106)]) F dX5_settle_44 2 rfl e107 (by decide) rfl ?_
              refine zi_goto (pc := 47) (tgt := 21) F dX5_settle_47 (by decide) ?_
              refine zi_sub [0, 1, 2] rfl ?_
              exact ih y106 R92 (⟨by (show 0 ≤ Int32.toInt y106; omega), by (show Int32.toInt y106 ≤ 60; omega), by (show ¬ Int32.toInt (R92 26 0) = 0 ∨ Int32.toInt entries ≤ 60; omega), hIR92⟩) (by omega) _ hE hK
    obtain ⟨⟨k2_110, R111⟩, e112⟩ : ∃ z, mX5_settle_L21 entries 61 0 R8 = z := ⟨_, rfl⟩
    have hE := zbnd2_cut hE e112
    refine hL21 61 0 R8 (⟨by (show 0 ≤ Int32.toInt 0; omega), by (show Int32.toInt 0 ≤ 60; omega), by (show ¬ Int32.toInt (R8 26 0) = 0 ∨ Int32.toInt entries ≤ 60; omega), hIR8⟩) (by omega) _ e112 (fun hI113 => ?_)
    have hI113 : (0 ≤ Int32.toInt k2_110) ∧ (Int32.toInt k2_110 ≤ 60) ∧ (¬ Int32.toInt (R111 26 0) = 0 ∨ Int32.toInt entries ≤ 60) ∧ (zIR R111) := hI113
    obtain ⟨i114, i115, i116, hIR111⟩ := id hI113
    obtain ⟨⟨i117, i118⟩, ⟨i119, i120⟩, ⟨i121, i122⟩, ⟨i123, i124⟩, ⟨i125, i126⟩, hIR111_b14, hIR111_p15⟩ := id hIR111
    show zW p l e rmX5_settle s m args below meth c 0 0 Q G.1 A 3 (zWR G R111) [(0, .ref (G.2.2 6 0)), (1, .int entries), (2, .int k2_110)] 50 []
    refine zi_iload_n (pc := 50) F dX5_settle_50 2 rfl ?_
    subst hE
    exact hret _ _ dX5_settle_51
  · have hE := zite_f hE c6
    have t127 := zt_ne c6
    refine zi_iconst (pc := 11) (v := 0) F dX5_settle_11 rfl ?_
    refine zi_goto (pc := 12) (tgt := 16) F dX5_settle_12 (by decide) ?_
    refine zi_put (pc := 16) (C := RX5) (T := TX5) (N := 27) (ty := .int) (ws' := zWR G (zsI R 26 0)) F (hw_X5_settle_X5) tyX5 tyX5_ok nmX5 0 rfl rfl 26 (by decide) (List.mem_of_getElem? (i := 1) rfl) rfl rfl rfl rfl rfl (Nat.le_of_ble_eq_true rfl) rfl dX5_settle_16 ?_
    refine zi_iconst (pc := 19) (v := 0) F dX5_settle_19 rfl ?_
    refine zi_istore_n (pc := 20) (lv' := [(0, .ref (G.2.2 6 0)), (1, .int entries), (2, .int 0)]) F dX5_settle_20 (by decide) rfl ?_
    have hIR128 : zIR (zsI R 26 0) := hIR
    refine zi_nameW (w := fun Z9 => zWR G Z9) (S := (zsI R 26 0)) (fun R128 e129 => ?_)
    have hE := zbnd_cut hE e129
    have t130 : Int32.toInt (R128 6 0) = Int32.toInt (R 6 0) := by rw [← e129]; rfl
    have t131 : Int32.toInt (R128 12 0) = Int32.toInt (R 12 0) := by rw [← e129]; rfl
    have t132 : Int32.toInt (R128 23 0) = Int32.toInt (R 23 0) := by rw [← e129]; rfl
    have t133 : Int32.toInt (R128 0 0) = Int32.toInt (R 0 0) := by rw [← e129]; rfl
    have t134 : Int32.toInt (R128 1 0) = Int32.toInt (R 1 0) := by rw [← e129]; rfl
    have t135 : Int32.toInt (R128 26 0) = Int32.toInt 0 := by rw [← e129]; rfl
    rw [e129] at hIR128
    obtain ⟨⟨i136, i137⟩, ⟨i138, i139⟩, ⟨i140, i141⟩, ⟨i142, i143⟩, ⟨i144, i145⟩, hIR128_b14, hIR128_p15⟩ := id hIR128
    have hL21 : ∀ (n175 : Nat) (k2_173 : Int32) (R174 : zS_t), (0 ≤ Int32.toInt k2_173) ∧ (Int32.toInt k2_173 ≤ 60) ∧ (¬ Int32.toInt (R174 26 0) = 0 ∨ Int32.toInt entries ≤ 60) ∧ (zIR R174) → 61 - Int32.toInt k2_173 ≤ (n175 : Int) → ∀ Y176, mX5_settle_L21 entries n175 k2_173 R174 = Y176 → (((0 ≤ Int32.toInt Y176.1) ∧ (Int32.toInt Y176.1 ≤ 60) ∧ (¬ Int32.toInt ((Y176.2) 26 0) = 0 ∨ Int32.toInt entries ≤ 60) ∧ (zIR (Y176.2))) → zW p l e rmX5_settle s m args below meth c 0 0 Q G.1 A 3 (zWR G (Y176.2)) [(0, .ref (G.2.2 6 0)), (1, .int entries), (2, .int Y176.1)] 50 []) → zW p l e rmX5_settle s m args below meth c 0 0 Q G.1 A 3 (zWR G R174) [(0, .ref (G.2.2 6 0)), (1, .int entries), (2, .int k2_173)] 21 [] := by
      intro n175
      induction n175 with
      | zero =>
        intro k2_173 R174 hI hM9
        obtain ⟨i177, i178, i179, hIR174⟩ := id hI
        obtain ⟨⟨i180, i181⟩, ⟨i182, i183⟩, ⟨i184, i185⟩, ⟨i186, i187⟩, ⟨i188, i189⟩, hIR174_b14, hIR174_p15⟩ := id hIR174
        exact absurd hM9 (by omega)
      | succ n175 ih =>
        intro k2_173 R174 hI hM9 Y176 hE hK
        obtain ⟨i190, i191, i192, hIR174⟩ := id hI
        obtain ⟨⟨i193, i194⟩, ⟨i195, i196⟩, ⟨i197, i198⟩, ⟨i199, i200⟩, ⟨i201, i202⟩, hIR174_b14, hIR174_p15⟩ := id hIR174
        rw [mX5_settle_L21.eq_2] at hE
        refine zi_aload_n (pc := 21) F dX5_settle_21 0 rfl ?_
        refine zi_get (pc := 22) (C := RX5) (T := TX5) (N := 27) (v := .int (R174 26 0)) F (hw_X5_settle_X5) 0 rfl rfl 26 (by decide) (List.mem_of_getElem? (i := 1) rfl) rfl rfl dX5_settle_22 ?_
        refine zi_if_ne (pc := 25) (tgt := 50) F dX5_settle_25 (by decide) (fun c203 => ?_) (fun c203 => ?_)
        · have hE := zite_f hE c203
          have t204 := zt_ne c203
          subst hE
          refine zi_sub [0, 1, 2] rfl ?_
          exact hK (⟨by (show 0 ≤ Int32.toInt k2_173; omega), by (show Int32.toInt k2_173 ≤ 60; omega), by (show ¬ Int32.toInt (R174 26 0) = 0 ∨ Int32.toInt entries ≤ 60; omega), hIR174⟩)
        · have hE := zite_t hE c203
          have t205 := congrArg Int32.toInt c203
          refine zi_iload_n (pc := 28) F dX5_settle_28 2 rfl ?_
          refine zi_iload_n (pc := 29) F dX5_settle_29 1 rfl ?_
          refine zi_icmp_ge (pc := 30) (tgt := 50) F dX5_settle_30 (by decide) (fun c206 => ?_) (fun c206 => ?_)
          · have hE := zite_t hE c206
            have t207 := zt_le c206
            subst hE
            refine zi_sub [0, 1, 2] rfl ?_
            exact hK (⟨by (show 0 ≤ Int32.toInt k2_173; omega), by (show Int32.toInt k2_173 ≤ 60; omega), by (show ¬ Int32.toInt (R174 26 0) = 0 ∨ Int32.toInt entries ≤ 60; omega), hIR174⟩)
          · have hE := zite_f hE c206
            have t208 := zt_nle c206
            refine zi_aload_n (pc := 33) F dX5_settle_33 0 rfl ?_
            refine zi_get (pc := 34) (C := RX5) (T := TX5) (N := 27) (v := .int (R174 12 0)) F (hw_X5_settle_X5) 0 rfl rfl 12 (by decide) (List.mem_of_getElem? (i := 2) rfl) rfl rfl dX5_settle_34 ?_
            refine zi_if_le (pc := 37) (tgt := 50) F dX5_settle_37 (by decide) (fun c209 => ?_) (fun c209 => ?_)
            · have hE := zite_t hE c209
              have t210 := zt_le c209
              subst hE
              refine zi_sub [0, 1, 2] rfl ?_
              exact hK (⟨by (show 0 ≤ Int32.toInt k2_173; omega), by (show Int32.toInt k2_173 ≤ 60; omega), by (show ¬ Int32.toInt (R174 26 0) = 0 ∨ Int32.toInt entries ≤ 60; omega), hIR174⟩)
            · have hE := zite_f hE c209
              have t211 := zt_nle c209
              refine zi_aload_n (pc := 40) F dX5_settle_40 0 rfl ?_
              have hM214 := c_X5_resolves l G  R174 (hIR174) (by first | omega | (show 0 < Int32.toInt (R174 12 0); omega))
              have pp215 := pp_X5_resolves  R174 (hIR174) (by first | omega | (show 0 < Int32.toInt (R174 12 0); omega))
              obtain ⟨R212, e213⟩ : ∃ z, mX5_resolves R174 = z := ⟨_, rfl⟩
              have hE := zbnd_cut hE e213
              rw [e213] at hM214
              rw [e213] at pp215
              have hIR212 := pp215
              obtain ⟨⟨i216, i217⟩, ⟨i218, i219⟩, ⟨i220, i221⟩, ⟨i222, i223⟩, ⟨i224, i225⟩, hIR212_b14, hIR212_p15⟩ := id hIR212
              refine zi_callVV (pc := 41) (rest := []) (ws' := zWR G R212) F hM214 (cwV 0 F.1.2.2.2.2 gX5_settle_X5_resolves rfl rfl rfl hd_X5_resolves ⟨Nat.le_of_ble_eq_true rfl, Nat.le_of_ble_eq_true rfl⟩) 0 rfl rfl _ _ (zw_nil _) (zw_nil _).symm rfl rfl (Nat.le_of_ble_eq_true rfl) dX5_settle_41 ⟨Nat.zero_le _, Nat.zero_le _⟩ ?_
              try have t228 := zt_add (a := k2_173) (b := 1) (by omega) (by omega)
              obtain ⟨y226, e227⟩ : ∃ z : Int32, (k2_173 + 1) = z := ⟨_, rfl⟩
              have hE := zbnd_cut hE e227
              have t229 := congrArg Int32.toInt e227
              refine zi_iinc (pc := 44) (lv' := [(0, .ref (G.2.2 6 0)), (1, .int entries), (2, .int y226)]) F dX5_settle_44 2 rfl e227 (by decide) rfl ?_
              refine zi_goto (pc := 47) (tgt := 21) F dX5_settle_47 (by decide) ?_
              refine zi_sub [0, 1, 2] rfl ?_
              exact ih y226 R212 (⟨by (show 0 ≤ Int32.toInt y226; omega), by (show Int32.toInt y226 ≤ 60; omega), by (show ¬ Int32.toInt (R212 26 0) = 0 ∨ Int32.toInt entries ≤ 60; omega), hIR212⟩) (by omega) _ hE hK
    obtain ⟨⟨k2_230, R231⟩, e232⟩ : ∃ z, mX5_settle_L21 entries 61 0 R128 = z := ⟨_, rfl⟩
    have hE := zbnd2_cut hE e232
    refine hL21 61 0 R128 (⟨by (show 0 ≤ Int32.toInt 0; omega), by (show Int32.toInt 0 ≤ 60; omega), by (show ¬ Int32.toInt (R128 26 0) = 0 ∨ Int32.toInt entries ≤ 60; omega), hIR128⟩) (by omega) _ e232 (fun hI233 => ?_)
    have hI233 : (0 ≤ Int32.toInt k2_230) ∧ (Int32.toInt k2_230 ≤ 60) ∧ (¬ Int32.toInt (R231 26 0) = 0 ∨ Int32.toInt entries ≤ 60) ∧ (zIR R231) := hI233
    obtain ⟨i234, i235, i236, hIR231⟩ := id hI233
    obtain ⟨⟨i237, i238⟩, ⟨i239, i240⟩, ⟨i241, i242⟩, ⟨i243, i244⟩, ⟨i245, i246⟩, hIR231_b14, hIR231_p15⟩ := id hIR231
    show zW p l e rmX5_settle s m args below meth c 0 0 Q G.1 A 3 (zWR G R231) [(0, .ref (G.2.2 6 0)), (1, .int entries), (2, .int k2_230)] 50 []
    refine zi_iload_n (pc := 50) F dX5_settle_50 2 rfl ?_
    subst hE
    exact hret _ _ dX5_settle_51
/-! X5_turn -/
def mX5_turn  (R : zS_t) : Int32 × zS_t := ((R 0 0), (zsI R 26 0))
set_option maxHeartbeats 4000000 in
set_option maxRecDepth 100000 in
theorem pp_X5_turn  (R : zS_t) (hIR : zIR R) : (zIR ((mX5_turn R).2)) := by
  obtain ⟨X, hE⟩ : ∃ z, mX5_turn R = z := ⟨_, rfl⟩
  rw [hE]
  have k_0 : Int32.toInt 0 = 0 := by decide
  have k_1 : Int32.toInt 1 = 1 := by decide
  obtain ⟨⟨i1, i2⟩, ⟨i3, i4⟩, ⟨i5, i6⟩, ⟨i7, i8⟩, ⟨i9, i10⟩, hIR_b14, hIR_p15⟩ := id hIR
  unfold mX5_turn at hE
  subst hE
  exact hIR
theorem hw_X5_turn_X5 : ∀ w ∈ wsX50, w ∈ wsX5_turn := fun w h => List.mem_cons_of_mem _ (List.mem_append_right _ (h))
abbrev rmX5_turn : Room := { frames := 0, cells := 0, slots := 0, locals := 0 }
theorem hd_X5_turn : yX5_turn.cls = RX5 ∧ yX5_turn.cls ≠ "java/lang/invoke/MethodHandle" ∧ yX5_turn.cls ≠ "java/lang/invoke/VarHandle" ∧ (parseMethodDescriptor yX5_turn.desc).map (fun d => d.parameters.length) = some 0 := by decide +kernel
set_option maxHeartbeats 4000000 in
set_option maxRecDepth 100000 in
theorem c_X5_turn (l : Launch) (G : zG_t)  (R : zS_t) (hIR : zIR R) : zCI l G.1 (zty G) yX5_turn wsX5_turn rmX5_turn [.ref (G.2.2 6 0)] (zWR G R) ((mX5_turn R).1) (zWR G ((mX5_turn R).2)) := by
  obtain ⟨X, hE⟩ : ∃ z, mX5_turn R = z := ⟨_, rfl⟩
  rw [hE]
  refine zb_I (cc := cX5_turn) (maxL := 1) (by decide) rfl (Nat.le_of_ble_eq_true rfl) ?_
  intro p e s m args below meth c Q A F hret
  show zW p l e rmX5_turn s m args below meth c 0 0 Q G.1 A 1 (zWR G R) [(0, .ref (G.2.2 6 0))] 0 []
  have k_0 : Int32.toInt 0 = 0 := by decide
  have k_1 : Int32.toInt 1 = 1 := by decide
  obtain ⟨⟨i11, i12⟩, ⟨i13, i14⟩, ⟨i15, i16⟩, ⟨i17, i18⟩, ⟨i19, i20⟩, hIR_b14, hIR_p15⟩ := id hIR
  unfold mX5_turn at hE
  refine zi_aload_n (pc := 0) F dX5_turn_0 0 rfl ?_
  refine zi_iconst (pc := 1) (v := 0) F dX5_turn_1 rfl ?_
  refine zi_put (pc := 2) (C := RX5) (T := TX5) (N := 27) (ty := .int) (ws' := zWR G (zsI R 26 0)) F (hw_X5_turn_X5) tyX5 tyX5_ok nmX5 0 rfl rfl 26 (by decide) (List.mem_of_getElem? (i := 1) rfl) rfl rfl rfl rfl rfl (Nat.le_of_ble_eq_true rfl) rfl dX5_turn_2 ?_
  refine zi_aload_n (pc := 5) F dX5_turn_5 0 rfl ?_
  refine zi_get (pc := 6) (C := RX5) (T := TX5) (N := 27) (v := .int (R 0 0)) F (hw_X5_turn_X5) 0 rfl rfl 0 (by decide) (List.mem_of_getElem? (i := 2) rfl) rfl rfl dX5_turn_6 ?_
  subst hE
  exact hret _ _ dX5_turn_9
/-! X5_acting -/
def mX5_acting  (R : zS_t) : Int32 × zS_t := ((R 1 0), (zsI R 26 0))
set_option maxHeartbeats 4000000 in
set_option maxRecDepth 100000 in
theorem pp_X5_acting  (R : zS_t) (hIR : zIR R) : (zIR ((mX5_acting R).2)) := by
  obtain ⟨X, hE⟩ : ∃ z, mX5_acting R = z := ⟨_, rfl⟩
  rw [hE]
  have k_0 : Int32.toInt 0 = 0 := by decide
  have k_1 : Int32.toInt 1 = 1 := by decide
  obtain ⟨⟨i1, i2⟩, ⟨i3, i4⟩, ⟨i5, i6⟩, ⟨i7, i8⟩, ⟨i9, i10⟩, hIR_b14, hIR_p15⟩ := id hIR
  unfold mX5_acting at hE
  subst hE
  exact hIR
theorem hw_X5_acting_X5 : ∀ w ∈ wsX50, w ∈ wsX5_acting := fun w h => List.mem_cons_of_mem _ (List.mem_append_right _ (h))
abbrev rmX5_acting : Room := { frames := 0, cells := 0, slots := 0, locals := 0 }
theorem hd_X5_acting : yX5_acting.cls = RX5 ∧ yX5_acting.cls ≠ "java/lang/invoke/MethodHandle" ∧ yX5_acting.cls ≠ "java/lang/invoke/VarHandle" ∧ (parseMethodDescriptor yX5_acting.desc).map (fun d => d.parameters.length) = some 0 := by decide +kernel
set_option maxHeartbeats 4000000 in
set_option maxRecDepth 100000 in
theorem c_X5_acting (l : Launch) (G : zG_t)  (R : zS_t) (hIR : zIR R) : zCI l G.1 (zty G) yX5_acting wsX5_acting rmX5_acting [.ref (G.2.2 6 0)] (zWR G R) ((mX5_acting R).1) (zWR G ((mX5_acting R).2)) := by
  obtain ⟨X, hE⟩ : ∃ z, mX5_acting R = z := ⟨_, rfl⟩
  rw [hE]
  refine zb_I (cc := cX5_acting) (maxL := 1) (by decide) rfl (Nat.le_of_ble_eq_true rfl) ?_
  intro p e s m args below meth c Q A F hret
  show zW p l e rmX5_acting s m args below meth c 0 0 Q G.1 A 1 (zWR G R) [(0, .ref (G.2.2 6 0))] 0 []
  have k_0 : Int32.toInt 0 = 0 := by decide
  have k_1 : Int32.toInt 1 = 1 := by decide
  obtain ⟨⟨i11, i12⟩, ⟨i13, i14⟩, ⟨i15, i16⟩, ⟨i17, i18⟩, ⟨i19, i20⟩, hIR_b14, hIR_p15⟩ := id hIR
  unfold mX5_acting at hE
  refine zi_aload_n (pc := 0) F dX5_acting_0 0 rfl ?_
  refine zi_iconst (pc := 1) (v := 0) F dX5_acting_1 rfl ?_
  refine zi_put (pc := 2) (C := RX5) (T := TX5) (N := 27) (ty := .int) (ws' := zWR G (zsI R 26 0)) F (hw_X5_acting_X5) tyX5 tyX5_ok nmX5 0 rfl rfl 26 (by decide) (List.mem_of_getElem? (i := 1) rfl) rfl rfl rfl rfl rfl (Nat.le_of_ble_eq_true rfl) rfl dX5_acting_2 ?_
  refine zi_aload_n (pc := 5) F dX5_acting_5 0 rfl ?_
  refine zi_get (pc := 6) (C := RX5) (T := TX5) (N := 27) (v := .int (R 1 0)) F (hw_X5_acting_X5) 0 rfl rfl 1 (by decide) (List.mem_of_getElem? (i := 2) rfl) rfl rfl dX5_acting_6 ?_
  subst hE
  exact hret _ _ dX5_acting_9
/-! X5_rounds -/
def mX5_rounds  (R : zS_t) : Int32 × zS_t := ((R 3 0), (zsI R 26 0))
set_option maxHeartbeats 4000000 in
set_option maxRecDepth 100000 in
theorem pp_X5_rounds  (R : zS_t) (hIR : zIR R) : (zIR ((mX5_rounds R).2)) := by
  obtain ⟨X, hE⟩ : ∃ z, mX5_rounds R = z := ⟨_, rfl⟩
  rw [hE]
  have k_0 : Int32.toInt 0 = 0 := by decide
  have k_1 : Int32.toInt 1 = 1 := by decide
  obtain ⟨⟨i1, i2⟩, ⟨i3, i4⟩, ⟨i5, i6⟩, ⟨i7, i8⟩, ⟨i9, i10⟩, hIR_b14, hIR_p15⟩ := id hIR
  unfold mX5_rounds at hE
  subst hE
  exact hIR
theorem hw_X5_rounds_X5 : ∀ w ∈ wsX50, w ∈ wsX5_rounds := fun w h => List.mem_cons_of_mem _ (List.mem_append_right _ (h))
abbrev rmX5_rounds : Room := { frames := 0, cells := 0, slots := 0, locals := 0 }
theorem hd_X5_rounds : yX5_rounds.cls = RX5 ∧ yX5_rounds.cls ≠ "java/lang/invoke/MethodHandle" ∧ yX5_rounds.cls ≠ "java/lang/invoke/VarHandle" ∧ (parseMethodDescriptor yX5_rounds.desc).map (fun d => d.parameters.length) = some 0 := by decide +kernel
set_option maxHeartbeats 4000000 in
set_option maxRecDepth 100000 in
theorem c_X5_rounds (l : Launch) (G : zG_t)  (R : zS_t) (hIR : zIR R) : zCI l G.1 (zty G) yX5_rounds wsX5_rounds rmX5_rounds [.ref (G.2.2 6 0)] (zWR G R) ((mX5_rounds R).1) (zWR G ((mX5_rounds R).2)) := by
  obtain ⟨X, hE⟩ : ∃ z, mX5_rounds R = z := ⟨_, rfl⟩
  rw [hE]
  refine zb_I (cc := cX5_rounds) (maxL := 1) (by decide) rfl (Nat.le_of_ble_eq_true rfl) ?_
  intro p e s m args below meth c Q A F hret
  show zW p l e rmX5_rounds s m args below meth c 0 0 Q G.1 A 1 (zWR G R) [(0, .ref (G.2.2 6 0))] 0 []
  have k_0 : Int32.toInt 0 = 0 := by decide
  have k_1 : Int32.toInt 1 = 1 := by decide
  obtain ⟨⟨i11, i12⟩, ⟨i13, i14⟩, ⟨i15, i16⟩, ⟨i17, i18⟩, ⟨i19, i20⟩, hIR_b14, hIR_p15⟩ := id hIR
  unfold mX5_rounds at hE
  refine zi_aload_n (pc := 0) F dX5_rounds_0 0 rfl ?_
  refine zi_iconst (pc := 1) (v := 0) F dX5_rounds_1 rfl ?_
  refine zi_put (pc := 2) (C := RX5) (T := TX5) (N := 27) (ty := .int) (ws' := zWR G (zsI R 26 0)) F (hw_X5_rounds_X5) tyX5 tyX5_ok nmX5 0 rfl rfl 26 (by decide) (List.mem_of_getElem? (i := 1) rfl) rfl rfl rfl rfl rfl (Nat.le_of_ble_eq_true rfl) rfl dX5_rounds_2 ?_
  refine zi_aload_n (pc := 5) F dX5_rounds_5 0 rfl ?_
  refine zi_get (pc := 6) (C := RX5) (T := TX5) (N := 27) (v := .int (R 3 0)) F (hw_X5_rounds_X5) 0 rfl rfl 3 (by decide) (List.mem_of_getElem? (i := 2) rfl) rfl rfl dX5_rounds_6 ?_
  subst hE
  exact hret _ _ dX5_rounds_9
/-! X5_loops -/
def mX5_loops  (R : zS_t) : Int32 × zS_t := ((R 4 0), (zsI R 26 0))
set_option maxHeartbeats 4000000 in
set_option maxRecDepth 100000 in
theorem pp_X5_loops  (R : zS_t) (hIR : zIR R) : (zIR ((mX5_loops R).2)) := by
  obtain ⟨X, hE⟩ : ∃ z, mX5_loops R = z := ⟨_, rfl⟩
  rw [hE]
  have k_0 : Int32.toInt 0 = 0 := by decide
  have k_1 : Int32.toInt 1 = 1 := by decide
  obtain ⟨⟨i1, i2⟩, ⟨i3, i4⟩, ⟨i5, i6⟩, ⟨i7, i8⟩, ⟨i9, i10⟩, hIR_b14, hIR_p15⟩ := id hIR
  unfold mX5_loops at hE
  subst hE
  exact hIR
theorem hw_X5_loops_X5 : ∀ w ∈ wsX50, w ∈ wsX5_loops := fun w h => List.mem_cons_of_mem _ (List.mem_append_right _ (h))
abbrev rmX5_loops : Room := { frames := 0, cells := 0, slots := 0, locals := 0 }
theorem hd_X5_loops : yX5_loops.cls = RX5 ∧ yX5_loops.cls ≠ "java/lang/invoke/MethodHandle" ∧ yX5_loops.cls ≠ "java/lang/invoke/VarHandle" ∧ (parseMethodDescriptor yX5_loops.desc).map (fun d => d.parameters.length) = some 0 := by decide +kernel
set_option maxHeartbeats 4000000 in
set_option maxRecDepth 100000 in
theorem c_X5_loops (l : Launch) (G : zG_t)  (R : zS_t) (hIR : zIR R) : zCI l G.1 (zty G) yX5_loops wsX5_loops rmX5_loops [.ref (G.2.2 6 0)] (zWR G R) ((mX5_loops R).1) (zWR G ((mX5_loops R).2)) := by
  obtain ⟨X, hE⟩ : ∃ z, mX5_loops R = z := ⟨_, rfl⟩
  rw [hE]
  refine zb_I (cc := cX5_loops) (maxL := 1) (by decide) rfl (Nat.le_of_ble_eq_true rfl) ?_
  intro p e s m args below meth c Q A F hret
  show zW p l e rmX5_loops s m args below meth c 0 0 Q G.1 A 1 (zWR G R) [(0, .ref (G.2.2 6 0))] 0 []
  have k_0 : Int32.toInt 0 = 0 := by decide
  have k_1 : Int32.toInt 1 = 1 := by decide
  obtain ⟨⟨i11, i12⟩, ⟨i13, i14⟩, ⟨i15, i16⟩, ⟨i17, i18⟩, ⟨i19, i20⟩, hIR_b14, hIR_p15⟩ := id hIR
  unfold mX5_loops at hE
  refine zi_aload_n (pc := 0) F dX5_loops_0 0 rfl ?_
  refine zi_iconst (pc := 1) (v := 0) F dX5_loops_1 rfl ?_
  refine zi_put (pc := 2) (C := RX5) (T := TX5) (N := 27) (ty := .int) (ws' := zWR G (zsI R 26 0)) F (hw_X5_loops_X5) tyX5 tyX5_ok nmX5 0 rfl rfl 26 (by decide) (List.mem_of_getElem? (i := 1) rfl) rfl rfl rfl rfl rfl (Nat.le_of_ble_eq_true rfl) rfl dX5_loops_2 ?_
  refine zi_aload_n (pc := 5) F dX5_loops_5 0 rfl ?_
  refine zi_get (pc := 6) (C := RX5) (T := TX5) (N := 27) (v := .int (R 4 0)) F (hw_X5_loops_X5) 0 rfl rfl 4 (by decide) (List.mem_of_getElem? (i := 2) rfl) rfl rfl dX5_loops_6 ?_
  subst hE
  exact hret _ _ dX5_loops_9
/-! X5_coins -/
def mX5_coins (player : Int32) (R : zS_t) : Int32 × zS_t := zbnd (mX5_isIn player 0 2) (fun r1 => if r1 = 0 then (0, (zsI R 26 1)) else ((R 5 player.toNatClampNeg), (zsI R 26 0)))
set_option maxHeartbeats 4000000 in
set_option maxRecDepth 100000 in
theorem pp_X5_coins (player : Int32) (R : zS_t) (hIR : zIR R) : (zIR ((mX5_coins player R).2)) := by
  obtain ⟨X, hE⟩ : ∃ z, mX5_coins player R = z := ⟨_, rfl⟩
  rw [hE]
  have k_0 : Int32.toInt 0 = 0 := by decide
  have k_1 : Int32.toInt 1 = 1 := by decide
  have k_2 : Int32.toInt 2 = 2 := by decide
  obtain ⟨⟨i11, i12⟩, ⟨i13, i14⟩, ⟨i15, i16⟩, ⟨i17, i18⟩, ⟨i19, i20⟩, hIR_b14, hIR_p15⟩ := id hIR
  unfold mX5_coins at hE
  have pp4 := pp_X5_isIn player 0 2  
  obtain ⟨r1, e2⟩ : ∃ z, mX5_isIn player 0 2 = z := ⟨_, rfl⟩
  have hE := zbnd_cut hE e2
  rw [e2] at pp4
  obtain ⟨hbr1, q5⟩ := pp4
  by_cases c6 : r1 = 0
  · have hE := zite_t hE c6
    have t7 := congrArg Int32.toInt c6
    subst hE
    exact hIR
  · have hE := zite_f hE c6
    have t9 := zt_ne c6
    subst hE
    exact hIR
theorem hw_X5_coins_X5 : ∀ w ∈ wsX50, w ∈ wsX5_coins := fun w h => List.mem_cons_of_mem _ (List.mem_append_right _ (h))
abbrev rmX5_coins : Room := { frames := 1, cells := 0, slots := 0, locals := 22 }
theorem hd_X5_coins : yX5_coins.cls = RX5 ∧ yX5_coins.cls ≠ "java/lang/invoke/MethodHandle" ∧ yX5_coins.cls ≠ "java/lang/invoke/VarHandle" ∧ (parseMethodDescriptor yX5_coins.desc).map (fun d => d.parameters.length) = some 1 := by decide +kernel
set_option maxHeartbeats 4000000 in
set_option maxRecDepth 100000 in
theorem c_X5_coins (l : Launch) (G : zG_t) (player : Int32) (R : zS_t) (hIR : zIR R) : zCI l G.1 (zty G) yX5_coins wsX5_coins rmX5_coins [.ref (G.2.2 6 0), .int player] (zWR G R) ((mX5_coins player R).1) (zWR G ((mX5_coins player R).2)) := by
  obtain ⟨X, hE⟩ : ∃ z, mX5_coins player R = z := ⟨_, rfl⟩
  rw [hE]
  refine zb_I (cc := cX5_coins) (maxL := 2) (by decide) rfl (Nat.le_of_ble_eq_true rfl) ?_
  intro p e s m args below meth c Q A F hret
  show zW p l e rmX5_coins s m args below meth c 0 0 Q G.1 A 2 (zWR G R) [(0, .ref (G.2.2 6 0)), (1, .int player)] 0 []
  have k_0 : Int32.toInt 0 = 0 := by decide
  have k_1 : Int32.toInt 1 = 1 := by decide
  have k_2 : Int32.toInt 2 = 2 := by decide
  obtain ⟨⟨i21, i22⟩, ⟨i23, i24⟩, ⟨i25, i26⟩, ⟨i27, i28⟩, ⟨i29, i30⟩, hIR_b14, hIR_p15⟩ := id hIR
  unfold mX5_coins at hE
  refine zi_aload_n (pc := 0) F dX5_coins_0 0 rfl ?_
  refine zi_iload_n (pc := 1) F dX5_coins_1 1 rfl ?_
  refine zi_iconst (pc := 2) (v := 0) F dX5_coins_2 rfl ?_
  refine zi_iconst (pc := 3) (v := 2) F dX5_coins_3 rfl ?_
  have hM3 := c_X5_isIn l G player 0 2  
  have pp4 := pp_X5_isIn player 0 2  
  obtain ⟨r1, e2⟩ : ∃ z, mX5_isIn player 0 2 = z := ⟨_, rfl⟩
  have hE := zbnd_cut hE e2
  rw [e2] at hM3
  rw [e2] at pp4
  obtain ⟨hbr1, q5⟩ := pp4
  refine zi_callSI (pc := 4) (rest := [.ref (G.2.2 6 0)]) (ws' := zWR G R) F hM3 (va_cwS 3 F.1.2.2.2.2 gX5_coins_X5_isIn rfl rfl rfl hd_X5_isIn.2 ⟨Nat.le_of_ble_eq_true rfl, Nat.le_of_ble_eq_true rfl⟩) [] (zWR G R) rfl rfl rfl rfl (Nat.le_of_ble_eq_true rfl) dX5_coins_4 ⟨Nat.zero_le _, Nat.zero_le _⟩ ?_
  refine zi_if_eq (pc := 7) (tgt := 14) F dX5_coins_7 (by decide) (fun c6 => ?_) (fun c6 => ?_)
  · have hE := zite_t hE c6
    have t7 := congrArg Int32.toInt c6
    refine zi_iconst (pc := 14) (v := 1) F dX5_coins_14 rfl ?_
    refine zi_put (pc := 15) (C := RX5) (T := TX5) (N := 27) (ty := .int) (ws' := zWR G (zsI R 26 1)) F (hw_X5_coins_X5) tyX5 tyX5_ok nmX5 0 rfl rfl 26 (by decide) (List.mem_of_getElem? (i := 1) rfl) rfl rfl rfl rfl rfl (Nat.le_of_ble_eq_true rfl) rfl dX5_coins_15 ?_
    refine zi_aload_n (pc := 18) F dX5_coins_18 0 rfl ?_
    refine zi_get (pc := 19) (C := RX5) (T := TX5) (N := 27) (v := .int 1) F (hw_X5_coins_X5) 0 rfl rfl 26 (by decide) (List.mem_of_getElem? (i := 1) rfl) rfl rfl dX5_coins_19 ?_
    refine zi_if_le (pc := 22) (tgt := 29) F dX5_coins_22 (by decide) (fun c8 => absurd c8 (by decide)) (fun _ => ?_)
    refine zi_iconst (pc := 25) (v := 0) F dX5_coins_25 rfl ?_
    refine zi_goto (pc := 26) (tgt := 35) F dX5_coins_26 (by decide) ?_
    subst hE
    exact hret _ _ dX5_coins_35
  · have hE := zite_f hE c6
    have t9 := zt_ne c6
    refine zi_iconst (pc := 10) (v := 0) F dX5_coins_10 rfl ?_
    refine zi_goto (pc := 11) (tgt := 15) F dX5_coins_11 (by decide) ?_
    refine zi_put (pc := 15) (C := RX5) (T := TX5) (N := 27) (ty := .int) (ws' := zWR G (zsI R 26 0)) F (hw_X5_coins_X5) tyX5 tyX5_ok nmX5 0 rfl rfl 26 (by decide) (List.mem_of_getElem? (i := 1) rfl) rfl rfl rfl rfl rfl (Nat.le_of_ble_eq_true rfl) rfl dX5_coins_15 ?_
    refine zi_aload_n (pc := 18) F dX5_coins_18 0 rfl ?_
    refine zi_get (pc := 19) (C := RX5) (T := TX5) (N := 27) (v := .int 0) F (hw_X5_coins_X5) 0 rfl rfl 26 (by decide) (List.mem_of_getElem? (i := 1) rfl) rfl rfl dX5_coins_19 ?_
    refine zi_if_le (pc := 22) (tgt := 29) F dX5_coins_22 (by decide) (fun _ => ?_) (fun c10 => absurd c10 (by decide))
    refine zi_aload_n (pc := 29) F dX5_coins_29 0 rfl ?_
    refine zi_get (pc := 30) (C := RX5) (T := TX5) (N := 27) (v := .ref (G.2.2 6 1)) F (hw_X5_coins_X5) 0 rfl rfl 5 (by decide) (List.mem_of_getElem? (i := 2) rfl) rfl rfl dX5_coins_30 ?_
    refine zi_iload_n (pc := 33) F dX5_coins_33 1 rfl ?_
    refine zi_iald (pc := 34) (v := (R 5 player.toNatClampNeg)) F 1 0 rfl rfl (zin (a := player) (by omega) (by omega)) rfl dX5_coins_34 ?_
    subst hE
    exact hret _ _ dX5_coins_35
/-! X5_things -/
def mX5_things  (R : zS_t) : Int32 × zS_t := ((R 6 0), (zsI R 26 0))
set_option maxHeartbeats 4000000 in
set_option maxRecDepth 100000 in
theorem pp_X5_things  (R : zS_t) (hIR : zIR R) : (zIR ((mX5_things R).2)) := by
  obtain ⟨X, hE⟩ : ∃ z, mX5_things R = z := ⟨_, rfl⟩
  rw [hE]
  have k_0 : Int32.toInt 0 = 0 := by decide
  have k_1 : Int32.toInt 1 = 1 := by decide
  obtain ⟨⟨i1, i2⟩, ⟨i3, i4⟩, ⟨i5, i6⟩, ⟨i7, i8⟩, ⟨i9, i10⟩, hIR_b14, hIR_p15⟩ := id hIR
  unfold mX5_things at hE
  subst hE
  exact hIR
theorem hw_X5_things_X5 : ∀ w ∈ wsX50, w ∈ wsX5_things := fun w h => List.mem_cons_of_mem _ (List.mem_append_right _ (h))
abbrev rmX5_things : Room := { frames := 0, cells := 0, slots := 0, locals := 0 }
theorem hd_X5_things : yX5_things.cls = RX5 ∧ yX5_things.cls ≠ "java/lang/invoke/MethodHandle" ∧ yX5_things.cls ≠ "java/lang/invoke/VarHandle" ∧ (parseMethodDescriptor yX5_things.desc).map (fun d => d.parameters.length) = some 0 := by decide +kernel
set_option maxHeartbeats 4000000 in
set_option maxRecDepth 100000 in
theorem c_X5_things (l : Launch) (G : zG_t)  (R : zS_t) (hIR : zIR R) : zCI l G.1 (zty G) yX5_things wsX5_things rmX5_things [.ref (G.2.2 6 0)] (zWR G R) ((mX5_things R).1) (zWR G ((mX5_things R).2)) := by
  obtain ⟨X, hE⟩ : ∃ z, mX5_things R = z := ⟨_, rfl⟩
  rw [hE]
  refine zb_I (cc := cX5_things) (maxL := 1) (by decide) rfl (Nat.le_of_ble_eq_true rfl) ?_
  intro p e s m args below meth c Q A F hret
  show zW p l e rmX5_things s m args below meth c 0 0 Q G.1 A 1 (zWR G R) [(0, .ref (G.2.2 6 0))] 0 []
  have k_0 : Int32.toInt 0 = 0 := by decide
  have k_1 : Int32.toInt 1 = 1 := by decide
  obtain ⟨⟨i11, i12⟩, ⟨i13, i14⟩, ⟨i15, i16⟩, ⟨i17, i18⟩, ⟨i19, i20⟩, hIR_b14, hIR_p15⟩ := id hIR
  unfold mX5_things at hE
  refine zi_aload_n (pc := 0) F dX5_things_0 0 rfl ?_
  refine zi_iconst (pc := 1) (v := 0) F dX5_things_1 rfl ?_
  refine zi_put (pc := 2) (C := RX5) (T := TX5) (N := 27) (ty := .int) (ws' := zWR G (zsI R 26 0)) F (hw_X5_things_X5) tyX5 tyX5_ok nmX5 0 rfl rfl 26 (by decide) (List.mem_of_getElem? (i := 1) rfl) rfl rfl rfl rfl rfl (Nat.le_of_ble_eq_true rfl) rfl dX5_things_2 ?_
  refine zi_aload_n (pc := 5) F dX5_things_5 0 rfl ?_
  refine zi_get (pc := 6) (C := RX5) (T := TX5) (N := 27) (v := .int (R 6 0)) F (hw_X5_things_X5) 0 rfl rfl 6 (by decide) (List.mem_of_getElem? (i := 2) rfl) rfl rfl dX5_things_6 ?_
  subst hE
  exact hret _ _ dX5_things_9
/-! X5_cardOf -/
def mX5_cardOf (place : Int32) (R : zS_t) : Int32 × zS_t := zbnd (mX5_isIn place 0 ((R 6 0) - 1)) (fun r1 => if r1 = 0 then (0, (zsI R 26 1)) else ((R 7 place.toNatClampNeg), (zsI R 26 0)))
set_option maxHeartbeats 4000000 in
set_option maxRecDepth 100000 in
theorem pp_X5_cardOf (place : Int32) (R : zS_t) (hIR : zIR R) : (zIR ((mX5_cardOf place R).2)) := by
  obtain ⟨X, hE⟩ : ∃ z, mX5_cardOf place R = z := ⟨_, rfl⟩
  rw [hE]
  have k_0 : Int32.toInt 0 = 0 := by decide
  have k_1 : Int32.toInt 1 = 1 := by decide
  obtain ⟨⟨i12, i13⟩, ⟨i14, i15⟩, ⟨i16, i17⟩, ⟨i18, i19⟩, ⟨i20, i21⟩, hIR_b14, hIR_p15⟩ := id hIR
  unfold mX5_cardOf at hE
  try have t2 := zt_sub (a := (R 6 0)) (b := 1) (by omega) (by omega)
  have pp5 := pp_X5_isIn place 0 ((R 6 0) - 1)  
  obtain ⟨r1, e3⟩ : ∃ z, mX5_isIn place 0 ((R 6 0) - 1) = z := ⟨_, rfl⟩
  have hE := zbnd_cut hE e3
  rw [e3] at pp5
  obtain ⟨hbr1, q6⟩ := pp5
  by_cases c7 : r1 = 0
  · have hE := zite_t hE c7
    have t8 := congrArg Int32.toInt c7
    subst hE
    exact hIR
  · have hE := zite_f hE c7
    have t10 := zt_ne c7
    subst hE
    exact hIR
theorem hw_X5_cardOf_X5 : ∀ w ∈ wsX50, w ∈ wsX5_cardOf := fun w h => List.mem_cons_of_mem _ (List.mem_append_right _ (h))
abbrev rmX5_cardOf : Room := { frames := 1, cells := 0, slots := 0, locals := 22 }
theorem hd_X5_cardOf : yX5_cardOf.cls = RX5 ∧ yX5_cardOf.cls ≠ "java/lang/invoke/MethodHandle" ∧ yX5_cardOf.cls ≠ "java/lang/invoke/VarHandle" ∧ (parseMethodDescriptor yX5_cardOf.desc).map (fun d => d.parameters.length) = some 1 := by decide +kernel
set_option maxHeartbeats 4000000 in
set_option maxRecDepth 100000 in
theorem c_X5_cardOf (l : Launch) (G : zG_t) (place : Int32) (R : zS_t) (hIR : zIR R) : zCI l G.1 (zty G) yX5_cardOf wsX5_cardOf rmX5_cardOf [.ref (G.2.2 6 0), .int place] (zWR G R) ((mX5_cardOf place R).1) (zWR G ((mX5_cardOf place R).2)) := by
  obtain ⟨X, hE⟩ : ∃ z, mX5_cardOf place R = z := ⟨_, rfl⟩
  rw [hE]
  refine zb_I (cc := cX5_cardOf) (maxL := 2) (by decide) rfl (Nat.le_of_ble_eq_true rfl) ?_
  intro p e s m args below meth c Q A F hret
  show zW p l e rmX5_cardOf s m args below meth c 0 0 Q G.1 A 2 (zWR G R) [(0, .ref (G.2.2 6 0)), (1, .int place)] 0 []
  have k_0 : Int32.toInt 0 = 0 := by decide
  have k_1 : Int32.toInt 1 = 1 := by decide
  obtain ⟨⟨i22, i23⟩, ⟨i24, i25⟩, ⟨i26, i27⟩, ⟨i28, i29⟩, ⟨i30, i31⟩, hIR_b14, hIR_p15⟩ := id hIR
  unfold mX5_cardOf at hE
  refine zi_aload_n (pc := 0) F dX5_cardOf_0 0 rfl ?_
  refine zi_iload_n (pc := 1) F dX5_cardOf_1 1 rfl ?_
  refine zi_iconst (pc := 2) (v := 0) F dX5_cardOf_2 rfl ?_
  refine zi_aload_n (pc := 3) F dX5_cardOf_3 0 rfl ?_
  refine zi_get (pc := 4) (C := RX5) (T := TX5) (N := 27) (v := .int (R 6 0)) F (hw_X5_cardOf_X5) 0 rfl rfl 6 (by decide) (List.mem_of_getElem? (i := 1) rfl) rfl rfl dX5_cardOf_4 ?_
  refine zi_iconst (pc := 7) (v := 1) F dX5_cardOf_7 rfl ?_
  refine zi_isub (pc := 8) F dX5_cardOf_8 ?_
  try have t2 := zt_sub (a := (R 6 0)) (b := 1) (by omega) (by omega)
  have hM4 := c_X5_isIn l G place 0 ((R 6 0) - 1)  
  have pp5 := pp_X5_isIn place 0 ((R 6 0) - 1)  
  obtain ⟨r1, e3⟩ : ∃ z, mX5_isIn place 0 ((R 6 0) - 1) = z := ⟨_, rfl⟩
  have hE := zbnd_cut hE e3
  rw [e3] at hM4
  rw [e3] at pp5
  obtain ⟨hbr1, q6⟩ := pp5
  refine zi_callSI (pc := 9) (rest := [.ref (G.2.2 6 0)]) (ws' := zWR G R) F hM4 (va_cwS 3 F.1.2.2.2.2 gX5_cardOf_X5_isIn rfl rfl rfl hd_X5_isIn.2 ⟨Nat.le_of_ble_eq_true rfl, Nat.le_of_ble_eq_true rfl⟩) [] (zWR G R) rfl rfl rfl rfl (Nat.le_of_ble_eq_true rfl) dX5_cardOf_9 ⟨Nat.zero_le _, Nat.zero_le _⟩ ?_
  refine zi_if_eq (pc := 12) (tgt := 19) F dX5_cardOf_12 (by decide) (fun c7 => ?_) (fun c7 => ?_)
  · have hE := zite_t hE c7
    have t8 := congrArg Int32.toInt c7
    refine zi_iconst (pc := 19) (v := 1) F dX5_cardOf_19 rfl ?_
    refine zi_put (pc := 20) (C := RX5) (T := TX5) (N := 27) (ty := .int) (ws' := zWR G (zsI R 26 1)) F (hw_X5_cardOf_X5) tyX5 tyX5_ok nmX5 0 rfl rfl 26 (by decide) (List.mem_of_getElem? (i := 2) rfl) rfl rfl rfl rfl rfl (Nat.le_of_ble_eq_true rfl) rfl dX5_cardOf_20 ?_
    refine zi_aload_n (pc := 23) F dX5_cardOf_23 0 rfl ?_
    refine zi_get (pc := 24) (C := RX5) (T := TX5) (N := 27) (v := .int 1) F (hw_X5_cardOf_X5) 0 rfl rfl 26 (by decide) (List.mem_of_getElem? (i := 2) rfl) rfl rfl dX5_cardOf_24 ?_
    refine zi_if_le (pc := 27) (tgt := 34) F dX5_cardOf_27 (by decide) (fun c9 => absurd c9 (by decide)) (fun _ => ?_)
    refine zi_iconst (pc := 30) (v := 0) F dX5_cardOf_30 rfl ?_
    refine zi_goto (pc := 31) (tgt := 40) F dX5_cardOf_31 (by decide) ?_
    subst hE
    exact hret _ _ dX5_cardOf_40
  · have hE := zite_f hE c7
    have t10 := zt_ne c7
    refine zi_iconst (pc := 15) (v := 0) F dX5_cardOf_15 rfl ?_
    refine zi_goto (pc := 16) (tgt := 20) F dX5_cardOf_16 (by decide) ?_
    refine zi_put (pc := 20) (C := RX5) (T := TX5) (N := 27) (ty := .int) (ws' := zWR G (zsI R 26 0)) F (hw_X5_cardOf_X5) tyX5 tyX5_ok nmX5 0 rfl rfl 26 (by decide) (List.mem_of_getElem? (i := 2) rfl) rfl rfl rfl rfl rfl (Nat.le_of_ble_eq_true rfl) rfl dX5_cardOf_20 ?_
    refine zi_aload_n (pc := 23) F dX5_cardOf_23 0 rfl ?_
    refine zi_get (pc := 24) (C := RX5) (T := TX5) (N := 27) (v := .int 0) F (hw_X5_cardOf_X5) 0 rfl rfl 26 (by decide) (List.mem_of_getElem? (i := 2) rfl) rfl rfl dX5_cardOf_24 ?_
    refine zi_if_le (pc := 27) (tgt := 34) F dX5_cardOf_27 (by decide) (fun _ => ?_) (fun c11 => absurd c11 (by decide))
    refine zi_aload_n (pc := 34) F dX5_cardOf_34 0 rfl ?_
    refine zi_get (pc := 35) (C := RX5) (T := TX5) (N := 27) (v := .ref (G.2.2 6 2)) F (hw_X5_cardOf_X5) 0 rfl rfl 7 (by decide) (List.mem_of_getElem? (i := 3) rfl) rfl rfl dX5_cardOf_35 ?_
    refine zi_iload_n (pc := 38) F dX5_cardOf_38 1 rfl ?_
    refine zi_iald (pc := 39) (v := (R 7 place.toNatClampNeg)) F 2 0 rfl rfl (zin (a := place) (by omega) (by omega)) rfl dX5_cardOf_39 ?_
    subst hE
    exact hret _ _ dX5_cardOf_40
/-! X5_isLaid -/
def mX5_isLaid (place : Int32) (layer : Int32) (R : zS_t) : Int32 × zS_t := zbnd (mX5_isIn place 0 ((R 6 0) - 1)) (fun r1 => if r1 = 0 then (0, (zsI R 26 1)) else (zbnd (mX5_isIn layer 0 5) (fun r9 => if r9 = 0 then (0, (zsI R 26 2)) else (zbnd (mX5_lays layer (zsI R 26 0)) (fun R20 => if (R20 26 0) = 0 then (1, R20) else (0, R20))))))
set_option maxHeartbeats 4000000 in
set_option maxRecDepth 100000 in
theorem pp_X5_isLaid (place : Int32) (layer : Int32) (R : zS_t) (hIR : zIR R) : ((mX5_isLaid place layer R).1 = 0 ∨ (mX5_isLaid place layer R).1 = 1) ∧ (zIR ((mX5_isLaid place layer R).2)) ∧ (Int32.toInt ((mX5_isLaid place layer R).1) = 0 ∨ (0 ≤ Int32.toInt place ∧ Int32.toInt place < Int32.toInt (R 6 0))) := by
  obtain ⟨X, hE⟩ : ∃ z, mX5_isLaid place layer R = z := ⟨_, rfl⟩
  rw [hE]
  have k_0 : Int32.toInt 0 = 0 := by decide
  have k_1 : Int32.toInt 1 = 1 := by decide
  have k_2 : Int32.toInt 2 = 2 := by decide
  have k_5 : Int32.toInt 5 = 5 := by decide
  obtain ⟨⟨i41, i42⟩, ⟨i43, i44⟩, ⟨i45, i46⟩, ⟨i47, i48⟩, ⟨i49, i50⟩, hIR_b14, hIR_p15⟩ := id hIR
  unfold mX5_isLaid at hE
  try have t2 := zt_sub (a := (R 6 0)) (b := 1) (by omega) (by omega)
  have pp5 := pp_X5_isIn place 0 ((R 6 0) - 1)  
  obtain ⟨r1, e3⟩ : ∃ z, mX5_isIn place 0 ((R 6 0) - 1) = z := ⟨_, rfl⟩
  have hE := zbnd_cut hE e3
  rw [e3] at pp5
  obtain ⟨hbr1, q6⟩ := pp5
  by_cases c7 : r1 = 0
  · have hE := zite_t hE c7
    have t8 := congrArg Int32.toInt c7
    subst hE
    exact ⟨Or.inl rfl, hIR, (by first | omega | (show Int32.toInt 0 = 0 ∨ (0 ≤ Int32.toInt place ∧ Int32.toInt place < Int32.toInt (R 6 0)); omega) | (show Int32.toInt 0 = 0 ∨ (0 ≤ Int32.toInt place ∧ Int32.toInt place < Int32.toInt (R 6 0)); simp))⟩
  · have hE := zite_f hE c7
    have t11 := zt_ne c7
    have pp15 := pp_X5_isIn layer 0 5  
    obtain ⟨r12, e13⟩ : ∃ z, mX5_isIn layer 0 5 = z := ⟨_, rfl⟩
    have hE := zbnd_cut hE e13
    rw [e13] at pp15
    obtain ⟨hbr12, q16⟩ := pp15
    by_cases c17 : r12 = 0
    · have hE := zite_t hE c17
      have t18 := congrArg Int32.toInt c17
      subst hE
      exact ⟨Or.inl rfl, hIR, (by first | omega | (show Int32.toInt 0 = 0 ∨ (0 ≤ Int32.toInt place ∧ Int32.toInt place < Int32.toInt (R 6 0)); omega) | (show Int32.toInt 0 = 0 ∨ (0 ≤ Int32.toInt place ∧ Int32.toInt place < Int32.toInt (R 6 0)); simp))⟩
    · have hE := zite_f hE c17
      have t21 := zt_ne c17
      have pp26 := pp_X5_lays layer (zsI R 26 0) (hIR) (by first | omega | (show Int32.toInt layer ≤ 5; omega))
      obtain ⟨R23, e24⟩ : ∃ z, mX5_lays layer (zsI R 26 0) = z := ⟨_, rfl⟩
      have hE := zbnd_cut hE e24
      rw [e24] at pp26
      obtain ⟨hIR23, q27⟩ := pp26
      have q27 : Int32.toInt (R23 6 0) = Int32.toInt (R 6 0) := q27
      obtain ⟨⟨i28, i29⟩, ⟨i30, i31⟩, ⟨i32, i33⟩, ⟨i34, i35⟩, ⟨i36, i37⟩, hIR23_b14, hIR23_p15⟩ := id hIR23
      by_cases c38 : (R23 26 0) = 0
      · have hE := zite_t hE c38
        have t39 := congrArg Int32.toInt c38
        subst hE
        exact ⟨Or.inr rfl, hIR23, (by first | omega | (show Int32.toInt 1 = 0 ∨ (0 ≤ Int32.toInt place ∧ Int32.toInt place < Int32.toInt (R 6 0)); omega) | (show Int32.toInt 1 = 0 ∨ (0 ≤ Int32.toInt place ∧ Int32.toInt place < Int32.toInt (R 6 0)); simp))⟩
      · have hE := zite_f hE c38
        have t40 := zt_ne c38
        subst hE
        exact ⟨Or.inl rfl, hIR23, (by first | omega | (show Int32.toInt 0 = 0 ∨ (0 ≤ Int32.toInt place ∧ Int32.toInt place < Int32.toInt (R 6 0)); omega) | (show Int32.toInt 0 = 0 ∨ (0 ≤ Int32.toInt place ∧ Int32.toInt place < Int32.toInt (R 6 0)); simp))⟩
theorem hw_X5_isLaid_X5 : ∀ w ∈ wsX50, w ∈ wsX5_isLaid := fun w h => List.mem_cons_of_mem _ (List.mem_append_right _ (h))
abbrev rmX5_isLaid : Room := { frames := 3, cells := 0, slots := 0, locals := 72 }
theorem hd_X5_isLaid : yX5_isLaid.cls = RX5 ∧ yX5_isLaid.cls ≠ "java/lang/invoke/MethodHandle" ∧ yX5_isLaid.cls ≠ "java/lang/invoke/VarHandle" ∧ (parseMethodDescriptor yX5_isLaid.desc).map (fun d => d.parameters.length) = some 2 := by decide +kernel
set_option maxHeartbeats 4000000 in
set_option maxRecDepth 100000 in
theorem c_X5_isLaid (l : Launch) (G : zG_t) (place : Int32) (layer : Int32) (R : zS_t) (hIR : zIR R) : zCI l G.1 (zty G) yX5_isLaid wsX5_isLaid rmX5_isLaid [.ref (G.2.2 6 0), .int place, .int layer] (zWR G R) ((mX5_isLaid place layer R).1) (zWR G ((mX5_isLaid place layer R).2)) := by
  obtain ⟨X, hE⟩ : ∃ z, mX5_isLaid place layer R = z := ⟨_, rfl⟩
  rw [hE]
  refine zb_Z (cc := cX5_isLaid) (maxL := 3) (by decide) rfl (Nat.le_of_ble_eq_true rfl) ?_
  intro p e s m args below meth c Q A F hret
  show zW p l e rmX5_isLaid s m args below meth c 0 0 Q G.1 A 3 (zWR G R) [(0, .ref (G.2.2 6 0)), (1, .int place), (2, .int layer)] 0 []
  have k_0 : Int32.toInt 0 = 0 := by decide
  have k_1 : Int32.toInt 1 = 1 := by decide
  have k_2 : Int32.toInt 2 = 2 := by decide
  have k_5 : Int32.toInt 5 = 5 := by decide
  obtain ⟨⟨i51, i52⟩, ⟨i53, i54⟩, ⟨i55, i56⟩, ⟨i57, i58⟩, ⟨i59, i60⟩, hIR_b14, hIR_p15⟩ := id hIR
  unfold mX5_isLaid at hE
  refine zi_aload_n (pc := 0) F dX5_isLaid_0 0 rfl ?_
  refine zi_iload_n (pc := 1) F dX5_isLaid_1 1 rfl ?_
  refine zi_iconst (pc := 2) (v := 0) F dX5_isLaid_2 rfl ?_
  refine zi_aload_n (pc := 3) F dX5_isLaid_3 0 rfl ?_
  refine zi_get (pc := 4) (C := RX5) (T := TX5) (N := 27) (v := .int (R 6 0)) F (hw_X5_isLaid_X5) 0 rfl rfl 6 (by decide) (List.mem_of_getElem? (i := 1) rfl) rfl rfl dX5_isLaid_4 ?_
  refine zi_iconst (pc := 7) (v := 1) F dX5_isLaid_7 rfl ?_
  refine zi_isub (pc := 8) F dX5_isLaid_8 ?_
  try have t2 := zt_sub (a := (R 6 0)) (b := 1) (by omega) (by omega)
  have hM4 := c_X5_isIn l G place 0 ((R 6 0) - 1)  
  have pp5 := pp_X5_isIn place 0 ((R 6 0) - 1)  
  obtain ⟨r1, e3⟩ : ∃ z, mX5_isIn place 0 ((R 6 0) - 1) = z := ⟨_, rfl⟩
  have hE := zbnd_cut hE e3
  rw [e3] at hM4
  rw [e3] at pp5
  obtain ⟨hbr1, q6⟩ := pp5
  refine zi_callSI (pc := 9) (rest := [.ref (G.2.2 6 0)]) (ws' := zWR G R) F hM4 (va_cwS 3 F.1.2.2.2.2 gX5_isLaid_X5_isIn rfl rfl rfl hd_X5_isIn.2 ⟨Nat.le_of_ble_eq_true rfl, Nat.le_of_ble_eq_true rfl⟩) [] (zWR G R) rfl rfl rfl rfl (Nat.le_of_ble_eq_true rfl) dX5_isLaid_9 ⟨Nat.zero_le _, Nat.zero_le _⟩ ?_
  refine zi_if_ne (pc := 12) (tgt := 19) F dX5_isLaid_12 (by decide) (fun c7 => ?_) (fun c7 => ?_)
  · have hE := zite_f hE c7
    have t8 := zt_ne c7
    refine zi_iload_n (pc := 19) F dX5_isLaid_19 2 rfl ?_
    refine zi_iconst (pc := 20) (v := 0) F dX5_isLaid_20 rfl ?_
    refine zi_iconst (pc := 21) (v := 5) F dX5_isLaid_21 rfl ?_
    have hM11 := c_X5_isIn l G layer 0 5  
    have pp12 := pp_X5_isIn layer 0 5  
    obtain ⟨r9, e10⟩ : ∃ z, mX5_isIn layer 0 5 = z := ⟨_, rfl⟩
    have hE := zbnd_cut hE e10
    rw [e10] at hM11
    rw [e10] at pp12
    obtain ⟨hbr9, q13⟩ := pp12
    refine zi_callSI (pc := 22) (rest := [.ref (G.2.2 6 0)]) (ws' := zWR G R) F hM11 (va_cwS 3 F.1.2.2.2.2 gX5_isLaid_X5_isIn rfl rfl rfl hd_X5_isIn.2 ⟨Nat.le_of_ble_eq_true rfl, Nat.le_of_ble_eq_true rfl⟩) [] (zWR G R) rfl rfl rfl rfl (Nat.le_of_ble_eq_true rfl) dX5_isLaid_22 ⟨Nat.zero_le _, Nat.zero_le _⟩ ?_
    refine zi_if_eq (pc := 25) (tgt := 32) F dX5_isLaid_25 (by decide) (fun c14 => ?_) (fun c14 => ?_)
    · have hE := zite_t hE c14
      have t15 := congrArg Int32.toInt c14
      refine zi_iconst (pc := 32) (v := 2) F dX5_isLaid_32 rfl ?_
      refine zi_put (pc := 33) (C := RX5) (T := TX5) (N := 27) (ty := .int) (ws' := zWR G (zsI R 26 2)) F (hw_X5_isLaid_X5) tyX5 tyX5_ok nmX5 0 rfl rfl 26 (by decide) (List.mem_of_getElem? (i := 2) rfl) rfl rfl rfl rfl rfl (Nat.le_of_ble_eq_true rfl) rfl dX5_isLaid_33 ?_
      refine zi_aload_n (pc := 36) F dX5_isLaid_36 0 rfl ?_
      refine zi_get (pc := 37) (C := RX5) (T := TX5) (N := 27) (v := .int 2) F (hw_X5_isLaid_X5) 0 rfl rfl 26 (by decide) (List.mem_of_getElem? (i := 2) rfl) rfl rfl dX5_isLaid_37 ?_
      refine zi_if_ne (pc := 40) (tgt := 48) F dX5_isLaid_40 (by decide) (fun _ => ?_) (fun c16 => absurd c16 (by decide))
      refine zi_aload_n (pc := 48) F dX5_isLaid_48 0 rfl ?_
      refine zi_get (pc := 49) (C := RX5) (T := TX5) (N := 27) (v := .int 2) F (hw_X5_isLaid_X5) 0 rfl rfl 26 (by decide) (List.mem_of_getElem? (i := 2) rfl) rfl rfl dX5_isLaid_49 ?_
      refine zi_if_ne (pc := 52) (tgt := 59) F dX5_isLaid_52 (by decide) (fun _ => ?_) (fun c17 => absurd c17 (by decide))
      refine zi_iconst (pc := 59) (v := 0) F dX5_isLaid_59 rfl ?_
      subst hE
      exact hret _ _ dX5_isLaid_60 (znb (Or.inl rfl))
    · have hE := zite_f hE c14
      have t18 := zt_ne c14
      refine zi_iconst (pc := 28) (v := 0) F dX5_isLaid_28 rfl ?_
      refine zi_goto (pc := 29) (tgt := 33) F dX5_isLaid_29 (by decide) ?_
      refine zi_put (pc := 33) (C := RX5) (T := TX5) (N := 27) (ty := .int) (ws' := zWR G (zsI R 26 0)) F (hw_X5_isLaid_X5) tyX5 tyX5_ok nmX5 0 rfl rfl 26 (by decide) (List.mem_of_getElem? (i := 2) rfl) rfl rfl rfl rfl rfl (Nat.le_of_ble_eq_true rfl) rfl dX5_isLaid_33 ?_
      refine zi_aload_n (pc := 36) F dX5_isLaid_36 0 rfl ?_
      refine zi_get (pc := 37) (C := RX5) (T := TX5) (N := 27) (v := .int 0) F (hw_X5_isLaid_X5) 0 rfl rfl 26 (by decide) (List.mem_of_getElem? (i := 2) rfl) rfl rfl dX5_isLaid_37 ?_
      refine zi_if_ne (pc := 40) (tgt := 48) F dX5_isLaid_40 (by decide) (fun c19 => absurd c19 (by decide)) (fun _ => ?_)
      refine zi_aload_n (pc := 43) F dX5_isLaid_43 0 rfl ?_
      refine zi_iload_n (pc := 44) F dX5_isLaid_44 2 rfl ?_
      have hM22 := c_X5_lays l G layer (zsI R 26 0) (hIR) (by first | omega | (show Int32.toInt layer ≤ 5; omega))
      have pp23 := pp_X5_lays layer (zsI R 26 0) (hIR) (by first | omega | (show Int32.toInt layer ≤ 5; omega))
      obtain ⟨R20, e21⟩ : ∃ z, mX5_lays layer (zsI R 26 0) = z := ⟨_, rfl⟩
      have hE := zbnd_cut hE e21
      rw [e21] at hM22
      rw [e21] at pp23
      obtain ⟨hIR20, q24⟩ := pp23
      have q24 : Int32.toInt (R20 6 0) = Int32.toInt (R 6 0) := q24
      obtain ⟨⟨i25, i26⟩, ⟨i27, i28⟩, ⟨i29, i30⟩, ⟨i31, i32⟩, ⟨i33, i34⟩, hIR20_b14, hIR20_p15⟩ := id hIR20
      refine zi_callVV (pc := 45) (rest := []) (ws' := zWR G R20) F hM22 (cwV 1 F.1.2.2.2.2 gX5_isLaid_X5_lays rfl rfl rfl hd_X5_lays ⟨Nat.le_of_ble_eq_true rfl, Nat.le_of_ble_eq_true rfl⟩) 0 rfl rfl _ _ (zw_nil _) (zw_nil _).symm rfl rfl (Nat.le_of_ble_eq_true rfl) dX5_isLaid_45 ⟨Nat.zero_le _, Nat.zero_le _⟩ ?_
      refine zi_aload_n (pc := 48) F dX5_isLaid_48 0 rfl ?_
      refine zi_get (pc := 49) (C := RX5) (T := TX5) (N := 27) (v := .int (R20 26 0)) F (hw_X5_isLaid_X5) 0 rfl rfl 26 (by decide) (List.mem_of_getElem? (i := 2) rfl) rfl rfl dX5_isLaid_49 ?_
      refine zi_if_ne (pc := 52) (tgt := 59) F dX5_isLaid_52 (by decide) (fun c35 => ?_) (fun c35 => ?_)
      · have hE := zite_f hE c35
        have t36 := zt_ne c35
        refine zi_iconst (pc := 59) (v := 0) F dX5_isLaid_59 rfl ?_
        subst hE
        exact hret _ _ dX5_isLaid_60 (znb (Or.inl rfl))
      · have hE := zite_t hE c35
        have t37 := congrArg Int32.toInt c35
        refine zi_iconst (pc := 55) (v := 1) F dX5_isLaid_55 rfl ?_
        refine zi_goto (pc := 56) (tgt := 60) F dX5_isLaid_56 (by decide) ?_
        subst hE
        exact hret _ _ dX5_isLaid_60 (znb (Or.inr rfl))
  · have hE := zite_t hE c7
    have t38 := congrArg Int32.toInt c7
    refine zi_iconst (pc := 15) (v := 1) F dX5_isLaid_15 rfl ?_
    refine zi_goto (pc := 16) (tgt := 33) F dX5_isLaid_16 (by decide) ?_
    refine zi_put (pc := 33) (C := RX5) (T := TX5) (N := 27) (ty := .int) (ws' := zWR G (zsI R 26 1)) F (hw_X5_isLaid_X5) tyX5 tyX5_ok nmX5 0 rfl rfl 26 (by decide) (List.mem_of_getElem? (i := 2) rfl) rfl rfl rfl rfl rfl (Nat.le_of_ble_eq_true rfl) rfl dX5_isLaid_33 ?_
    refine zi_aload_n (pc := 36) F dX5_isLaid_36 0 rfl ?_
    refine zi_get (pc := 37) (C := RX5) (T := TX5) (N := 27) (v := .int 1) F (hw_X5_isLaid_X5) 0 rfl rfl 26 (by decide) (List.mem_of_getElem? (i := 2) rfl) rfl rfl dX5_isLaid_37 ?_
    refine zi_if_ne (pc := 40) (tgt := 48) F dX5_isLaid_40 (by decide) (fun _ => ?_) (fun c39 => absurd c39 (by decide))
    refine zi_aload_n (pc := 48) F dX5_isLaid_48 0 rfl ?_
    refine zi_get (pc := 49) (C := RX5) (T := TX5) (N := 27) (v := .int 1) F (hw_X5_isLaid_X5) 0 rfl rfl 26 (by decide) (List.mem_of_getElem? (i := 2) rfl) rfl rfl dX5_isLaid_49 ?_
    refine zi_if_ne (pc := 52) (tgt := 59) F dX5_isLaid_52 (by decide) (fun _ => ?_) (fun c40 => absurd c40 (by decide))
    refine zi_iconst (pc := 59) (v := 0) F dX5_isLaid_59 rfl ?_
    subst hE
    exact hret _ _ dX5_isLaid_60 (znb (Or.inl rfl))
/-! X5_controllerOf -/
def mX5_controllerOf (place : Int32) (layer : Int32) (R : zS_t) : Int32 × zS_t := zbnd2 (mX5_isLaid place layer R) (fun r1 R2 => if r1 = 0 then (0, R2) else ((R2 18 place.toNatClampNeg), R2))
set_option maxHeartbeats 4000000 in
set_option maxRecDepth 100000 in
theorem pp_X5_controllerOf (place : Int32) (layer : Int32) (R : zS_t) (hIR : zIR R) : (zIR ((mX5_controllerOf place layer R).2)) := by
  obtain ⟨X, hE⟩ : ∃ z, mX5_controllerOf place layer R = z := ⟨_, rfl⟩
  rw [hE]
  have k_0 : Int32.toInt 0 = 0 := by decide
  have k_1 : Int32.toInt 1 = 1 := by decide
  obtain ⟨⟨i20, i21⟩, ⟨i22, i23⟩, ⟨i24, i25⟩, ⟨i26, i27⟩, ⟨i28, i29⟩, hIR_b14, hIR_p15⟩ := id hIR
  unfold mX5_controllerOf at hE
  have pp5 := pp_X5_isLaid place layer R (hIR)
  obtain ⟨⟨r1, R2⟩, e3⟩ : ∃ z, mX5_isLaid place layer R = z := ⟨_, rfl⟩
  have hE := zbnd2_cut hE e3
  rw [e3] at pp5
  obtain ⟨hbr1, hIR2, q6⟩ := pp5
  have hIR2 : zIR R2 := hIR2
  have q6 : Int32.toInt r1 = 0 ∨ (0 ≤ Int32.toInt place ∧ Int32.toInt place < Int32.toInt (R 6 0)) := q6
  obtain ⟨⟨i7, i8⟩, ⟨i9, i10⟩, ⟨i11, i12⟩, ⟨i13, i14⟩, ⟨i15, i16⟩, hIR2_b14, hIR2_p15⟩ := id hIR2
  by_cases c17 : r1 = 0
  · have hE := zite_t hE c17
    have t18 := congrArg Int32.toInt c17
    subst hE
    exact hIR2
  · have hE := zite_f hE c17
    have t19 := zt_ne c17
    subst hE
    exact hIR2
theorem hw_X5_controllerOf_X5 : ∀ w ∈ wsX50, w ∈ wsX5_controllerOf := fun w h => List.mem_cons_of_mem _ (List.mem_append_right _ (h))
abbrev rmX5_controllerOf : Room := { frames := 4, cells := 0, slots := 0, locals := 94 }
theorem hd_X5_controllerOf : yX5_controllerOf.cls = RX5 ∧ yX5_controllerOf.cls ≠ "java/lang/invoke/MethodHandle" ∧ yX5_controllerOf.cls ≠ "java/lang/invoke/VarHandle" ∧ (parseMethodDescriptor yX5_controllerOf.desc).map (fun d => d.parameters.length) = some 2 := by decide +kernel
set_option maxHeartbeats 4000000 in
set_option maxRecDepth 100000 in
theorem c_X5_controllerOf (l : Launch) (G : zG_t) (place : Int32) (layer : Int32) (R : zS_t) (hIR : zIR R) : zCI l G.1 (zty G) yX5_controllerOf wsX5_controllerOf rmX5_controllerOf [.ref (G.2.2 6 0), .int place, .int layer] (zWR G R) ((mX5_controllerOf place layer R).1) (zWR G ((mX5_controllerOf place layer R).2)) := by
  obtain ⟨X, hE⟩ : ∃ z, mX5_controllerOf place layer R = z := ⟨_, rfl⟩
  rw [hE]
  refine zb_I (cc := cX5_controllerOf) (maxL := 3) (by decide) rfl (Nat.le_of_ble_eq_true rfl) ?_
  intro p e s m args below meth c Q A F hret
  show zW p l e rmX5_controllerOf s m args below meth c 0 0 Q G.1 A 3 (zWR G R) [(0, .ref (G.2.2 6 0)), (1, .int place), (2, .int layer)] 0 []
  have k_0 : Int32.toInt 0 = 0 := by decide
  have k_1 : Int32.toInt 1 = 1 := by decide
  obtain ⟨⟨i30, i31⟩, ⟨i32, i33⟩, ⟨i34, i35⟩, ⟨i36, i37⟩, ⟨i38, i39⟩, hIR_b14, hIR_p15⟩ := id hIR
  unfold mX5_controllerOf at hE
  refine zi_aload_n (pc := 0) F dX5_controllerOf_0 0 rfl ?_
  refine zi_iload_n (pc := 1) F dX5_controllerOf_1 1 rfl ?_
  refine zi_iload_n (pc := 2) F dX5_controllerOf_2 2 rfl ?_
  have hM4 := c_X5_isLaid l G place layer R (hIR)
  have pp5 := pp_X5_isLaid place layer R (hIR)
  obtain ⟨⟨r1, R2⟩, e3⟩ : ∃ z, mX5_isLaid place layer R = z := ⟨_, rfl⟩
  have hE := zbnd2_cut hE e3
  rw [e3] at hM4
  rw [e3] at pp5
  obtain ⟨hbr1, hIR2, q6⟩ := pp5
  have hIR2 : zIR R2 := hIR2
  have q6 : Int32.toInt r1 = 0 ∨ (0 ≤ Int32.toInt place ∧ Int32.toInt place < Int32.toInt (R 6 0)) := q6
  obtain ⟨⟨i7, i8⟩, ⟨i9, i10⟩, ⟨i11, i12⟩, ⟨i13, i14⟩, ⟨i15, i16⟩, hIR2_b14, hIR2_p15⟩ := id hIR2
  refine zi_callVI (pc := 3) (rest := []) (ws' := zWR G R2) F hM4 (cwV 2 F.1.2.2.2.2 gX5_controllerOf_X5_isLaid rfl rfl rfl hd_X5_isLaid ⟨Nat.le_of_ble_eq_true rfl, Nat.le_of_ble_eq_true rfl⟩) 0 rfl rfl _ _ (zw_nil _) (zw_nil _).symm rfl rfl (Nat.le_of_ble_eq_true rfl) dX5_controllerOf_3 ⟨Nat.zero_le _, Nat.zero_le _⟩ ?_
  refine zi_if_eq (pc := 6) (tgt := 18) F dX5_controllerOf_6 (by decide) (fun c17 => ?_) (fun c17 => ?_)
  · have hE := zite_t hE c17
    have t18 := congrArg Int32.toInt c17
    refine zi_iconst (pc := 18) (v := 0) F dX5_controllerOf_18 rfl ?_
    subst hE
    exact hret _ _ dX5_controllerOf_19
  · have hE := zite_f hE c17
    have t19 := zt_ne c17
    refine zi_aload_n (pc := 9) F dX5_controllerOf_9 0 rfl ?_
    refine zi_get (pc := 10) (C := RX5) (T := TX5) (N := 27) (v := .ref (G.2.2 6 11)) F (hw_X5_controllerOf_X5) 0 rfl rfl 18 (by decide) (List.mem_of_getElem? (i := 1) rfl) rfl rfl dX5_controllerOf_10 ?_
    refine zi_iload_n (pc := 13) F dX5_controllerOf_13 1 rfl ?_
    refine zi_iald (pc := 14) (v := (R2 18 place.toNatClampNeg)) F 11 0 rfl rfl (zin (a := place) (by omega) (by omega)) rfl dX5_controllerOf_14 ?_
    refine zi_goto (pc := 15) (tgt := 19) F dX5_controllerOf_15 (by decide) ?_
    subst hE
    exact hret _ _ dX5_controllerOf_19
/-! X5_kindsOf -/
def mX5_kindsOf (place : Int32) (layer : Int32) (R : zS_t) : Int32 × zS_t := zbnd2 (mX5_isLaid place layer R) (fun r1 R2 => if r1 = 0 then (0, R2) else ((R2 19 place.toNatClampNeg), R2))
set_option maxHeartbeats 4000000 in
set_option maxRecDepth 100000 in
theorem pp_X5_kindsOf (place : Int32) (layer : Int32) (R : zS_t) (hIR : zIR R) : (zIR ((mX5_kindsOf place layer R).2)) := by
  obtain ⟨X, hE⟩ : ∃ z, mX5_kindsOf place layer R = z := ⟨_, rfl⟩
  rw [hE]
  have k_0 : Int32.toInt 0 = 0 := by decide
  have k_1 : Int32.toInt 1 = 1 := by decide
  obtain ⟨⟨i20, i21⟩, ⟨i22, i23⟩, ⟨i24, i25⟩, ⟨i26, i27⟩, ⟨i28, i29⟩, hIR_b14, hIR_p15⟩ := id hIR
  unfold mX5_kindsOf at hE
  have pp5 := pp_X5_isLaid place layer R (hIR)
  obtain ⟨⟨r1, R2⟩, e3⟩ : ∃ z, mX5_isLaid place layer R = z := ⟨_, rfl⟩
  have hE := zbnd2_cut hE e3
  rw [e3] at pp5
  obtain ⟨hbr1, hIR2, q6⟩ := pp5
  have hIR2 : zIR R2 := hIR2
  have q6 : Int32.toInt r1 = 0 ∨ (0 ≤ Int32.toInt place ∧ Int32.toInt place < Int32.toInt (R 6 0)) := q6
  obtain ⟨⟨i7, i8⟩, ⟨i9, i10⟩, ⟨i11, i12⟩, ⟨i13, i14⟩, ⟨i15, i16⟩, hIR2_b14, hIR2_p15⟩ := id hIR2
  by_cases c17 : r1 = 0
  · have hE := zite_t hE c17
    have t18 := congrArg Int32.toInt c17
    subst hE
    exact hIR2
  · have hE := zite_f hE c17
    have t19 := zt_ne c17
    subst hE
    exact hIR2
theorem hw_X5_kindsOf_X5 : ∀ w ∈ wsX50, w ∈ wsX5_kindsOf := fun w h => List.mem_cons_of_mem _ (List.mem_append_right _ (h))
abbrev rmX5_kindsOf : Room := { frames := 4, cells := 0, slots := 0, locals := 94 }
theorem hd_X5_kindsOf : yX5_kindsOf.cls = RX5 ∧ yX5_kindsOf.cls ≠ "java/lang/invoke/MethodHandle" ∧ yX5_kindsOf.cls ≠ "java/lang/invoke/VarHandle" ∧ (parseMethodDescriptor yX5_kindsOf.desc).map (fun d => d.parameters.length) = some 2 := by decide +kernel
set_option maxHeartbeats 4000000 in
set_option maxRecDepth 100000 in
theorem c_X5_kindsOf (l : Launch) (G : zG_t) (place : Int32) (layer : Int32) (R : zS_t) (hIR : zIR R) : zCI l G.1 (zty G) yX5_kindsOf wsX5_kindsOf rmX5_kindsOf [.ref (G.2.2 6 0), .int place, .int layer] (zWR G R) ((mX5_kindsOf place layer R).1) (zWR G ((mX5_kindsOf place layer R).2)) := by
  obtain ⟨X, hE⟩ : ∃ z, mX5_kindsOf place layer R = z := ⟨_, rfl⟩
  rw [hE]
  refine zb_I (cc := cX5_kindsOf) (maxL := 3) (by decide) rfl (Nat.le_of_ble_eq_true rfl) ?_
  intro p e s m args below meth c Q A F hret
  show zW p l e rmX5_kindsOf s m args below meth c 0 0 Q G.1 A 3 (zWR G R) [(0, .ref (G.2.2 6 0)), (1, .int place), (2, .int layer)] 0 []
  have k_0 : Int32.toInt 0 = 0 := by decide
  have k_1 : Int32.toInt 1 = 1 := by decide
  obtain ⟨⟨i30, i31⟩, ⟨i32, i33⟩, ⟨i34, i35⟩, ⟨i36, i37⟩, ⟨i38, i39⟩, hIR_b14, hIR_p15⟩ := id hIR
  unfold mX5_kindsOf at hE
  refine zi_aload_n (pc := 0) F dX5_kindsOf_0 0 rfl ?_
  refine zi_iload_n (pc := 1) F dX5_kindsOf_1 1 rfl ?_
  refine zi_iload_n (pc := 2) F dX5_kindsOf_2 2 rfl ?_
  have hM4 := c_X5_isLaid l G place layer R (hIR)
  have pp5 := pp_X5_isLaid place layer R (hIR)
  obtain ⟨⟨r1, R2⟩, e3⟩ : ∃ z, mX5_isLaid place layer R = z := ⟨_, rfl⟩
  have hE := zbnd2_cut hE e3
  rw [e3] at hM4
  rw [e3] at pp5
  obtain ⟨hbr1, hIR2, q6⟩ := pp5
  have hIR2 : zIR R2 := hIR2
  have q6 : Int32.toInt r1 = 0 ∨ (0 ≤ Int32.toInt place ∧ Int32.toInt place < Int32.toInt (R 6 0)) := q6
  obtain ⟨⟨i7, i8⟩, ⟨i9, i10⟩, ⟨i11, i12⟩, ⟨i13, i14⟩, ⟨i15, i16⟩, hIR2_b14, hIR2_p15⟩ := id hIR2
  refine zi_callVI (pc := 3) (rest := []) (ws' := zWR G R2) F hM4 (cwV 2 F.1.2.2.2.2 gX5_kindsOf_X5_isLaid rfl rfl rfl hd_X5_isLaid ⟨Nat.le_of_ble_eq_true rfl, Nat.le_of_ble_eq_true rfl⟩) 0 rfl rfl _ _ (zw_nil _) (zw_nil _).symm rfl rfl (Nat.le_of_ble_eq_true rfl) dX5_kindsOf_3 ⟨Nat.zero_le _, Nat.zero_le _⟩ ?_
  refine zi_if_eq (pc := 6) (tgt := 18) F dX5_kindsOf_6 (by decide) (fun c17 => ?_) (fun c17 => ?_)
  · have hE := zite_t hE c17
    have t18 := congrArg Int32.toInt c17
    refine zi_iconst (pc := 18) (v := 0) F dX5_kindsOf_18 rfl ?_
    subst hE
    exact hret _ _ dX5_kindsOf_19
  · have hE := zite_f hE c17
    have t19 := zt_ne c17
    refine zi_aload_n (pc := 9) F dX5_kindsOf_9 0 rfl ?_
    refine zi_get (pc := 10) (C := RX5) (T := TX5) (N := 27) (v := .ref (G.2.2 6 12)) F (hw_X5_kindsOf_X5) 0 rfl rfl 19 (by decide) (List.mem_of_getElem? (i := 1) rfl) rfl rfl dX5_kindsOf_10 ?_
    refine zi_iload_n (pc := 13) F dX5_kindsOf_13 1 rfl ?_
    refine zi_iald (pc := 14) (v := (R2 19 place.toNatClampNeg)) F 12 0 rfl rfl (zin (a := place) (by omega) (by omega)) rfl dX5_kindsOf_14 ?_
    refine zi_goto (pc := 15) (tgt := 19) F dX5_kindsOf_15 (by decide) ?_
    subst hE
    exact hret _ _ dX5_kindsOf_19
/-! X5_strengthOf -/
def mX5_strengthOf (place : Int32) (layer : Int32) (R : zS_t) : Int32 × zS_t := zbnd2 (mX5_isLaid place layer R) (fun r1 R2 => if r1 = 0 then (0, R2) else ((R2 20 place.toNatClampNeg), R2))
set_option maxHeartbeats 4000000 in
set_option maxRecDepth 100000 in
theorem pp_X5_strengthOf (place : Int32) (layer : Int32) (R : zS_t) (hIR : zIR R) : (zIR ((mX5_strengthOf place layer R).2)) := by
  obtain ⟨X, hE⟩ : ∃ z, mX5_strengthOf place layer R = z := ⟨_, rfl⟩
  rw [hE]
  have k_0 : Int32.toInt 0 = 0 := by decide
  have k_1 : Int32.toInt 1 = 1 := by decide
  obtain ⟨⟨i20, i21⟩, ⟨i22, i23⟩, ⟨i24, i25⟩, ⟨i26, i27⟩, ⟨i28, i29⟩, hIR_b14, hIR_p15⟩ := id hIR
  unfold mX5_strengthOf at hE
  have pp5 := pp_X5_isLaid place layer R (hIR)
  obtain ⟨⟨r1, R2⟩, e3⟩ : ∃ z, mX5_isLaid place layer R = z := ⟨_, rfl⟩
  have hE := zbnd2_cut hE e3
  rw [e3] at pp5
  obtain ⟨hbr1, hIR2, q6⟩ := pp5
  have hIR2 : zIR R2 := hIR2
  have q6 : Int32.toInt r1 = 0 ∨ (0 ≤ Int32.toInt place ∧ Int32.toInt place < Int32.toInt (R 6 0)) := q6
  obtain ⟨⟨i7, i8⟩, ⟨i9, i10⟩, ⟨i11, i12⟩, ⟨i13, i14⟩, ⟨i15, i16⟩, hIR2_b14, hIR2_p15⟩ := id hIR2
  by_cases c17 : r1 = 0
  · have hE := zite_t hE c17
    have t18 := congrArg Int32.toInt c17
    subst hE
    exact hIR2
  · have hE := zite_f hE c17
    have t19 := zt_ne c17
    subst hE
    exact hIR2
theorem hw_X5_strengthOf_X5 : ∀ w ∈ wsX50, w ∈ wsX5_strengthOf := fun w h => List.mem_cons_of_mem _ (List.mem_append_right _ (h))
abbrev rmX5_strengthOf : Room := { frames := 4, cells := 0, slots := 0, locals := 94 }
theorem hd_X5_strengthOf : yX5_strengthOf.cls = RX5 ∧ yX5_strengthOf.cls ≠ "java/lang/invoke/MethodHandle" ∧ yX5_strengthOf.cls ≠ "java/lang/invoke/VarHandle" ∧ (parseMethodDescriptor yX5_strengthOf.desc).map (fun d => d.parameters.length) = some 2 := by decide +kernel
set_option maxHeartbeats 4000000 in
set_option maxRecDepth 100000 in
theorem c_X5_strengthOf (l : Launch) (G : zG_t) (place : Int32) (layer : Int32) (R : zS_t) (hIR : zIR R) : zCI l G.1 (zty G) yX5_strengthOf wsX5_strengthOf rmX5_strengthOf [.ref (G.2.2 6 0), .int place, .int layer] (zWR G R) ((mX5_strengthOf place layer R).1) (zWR G ((mX5_strengthOf place layer R).2)) := by
  obtain ⟨X, hE⟩ : ∃ z, mX5_strengthOf place layer R = z := ⟨_, rfl⟩
  rw [hE]
  refine zb_I (cc := cX5_strengthOf) (maxL := 3) (by decide) rfl (Nat.le_of_ble_eq_true rfl) ?_
  intro p e s m args below meth c Q A F hret
  show zW p l e rmX5_strengthOf s m args below meth c 0 0 Q G.1 A 3 (zWR G R) [(0, .ref (G.2.2 6 0)), (1, .int place), (2, .int layer)] 0 []
  have k_0 : Int32.toInt 0 = 0 := by decide
  have k_1 : Int32.toInt 1 = 1 := by decide
  obtain ⟨⟨i30, i31⟩, ⟨i32, i33⟩, ⟨i34, i35⟩, ⟨i36, i37⟩, ⟨i38, i39⟩, hIR_b14, hIR_p15⟩ := id hIR
  unfold mX5_strengthOf at hE
  refine zi_aload_n (pc := 0) F dX5_strengthOf_0 0 rfl ?_
  refine zi_iload_n (pc := 1) F dX5_strengthOf_1 1 rfl ?_
  refine zi_iload_n (pc := 2) F dX5_strengthOf_2 2 rfl ?_
  have hM4 := c_X5_isLaid l G place layer R (hIR)
  have pp5 := pp_X5_isLaid place layer R (hIR)
  obtain ⟨⟨r1, R2⟩, e3⟩ : ∃ z, mX5_isLaid place layer R = z := ⟨_, rfl⟩
  have hE := zbnd2_cut hE e3
  rw [e3] at hM4
  rw [e3] at pp5
  obtain ⟨hbr1, hIR2, q6⟩ := pp5
  have hIR2 : zIR R2 := hIR2
  have q6 : Int32.toInt r1 = 0 ∨ (0 ≤ Int32.toInt place ∧ Int32.toInt place < Int32.toInt (R 6 0)) := q6
  obtain ⟨⟨i7, i8⟩, ⟨i9, i10⟩, ⟨i11, i12⟩, ⟨i13, i14⟩, ⟨i15, i16⟩, hIR2_b14, hIR2_p15⟩ := id hIR2
  refine zi_callVI (pc := 3) (rest := []) (ws' := zWR G R2) F hM4 (cwV 2 F.1.2.2.2.2 gX5_strengthOf_X5_isLaid rfl rfl rfl hd_X5_isLaid ⟨Nat.le_of_ble_eq_true rfl, Nat.le_of_ble_eq_true rfl⟩) 0 rfl rfl _ _ (zw_nil _) (zw_nil _).symm rfl rfl (Nat.le_of_ble_eq_true rfl) dX5_strengthOf_3 ⟨Nat.zero_le _, Nat.zero_le _⟩ ?_
  refine zi_if_eq (pc := 6) (tgt := 18) F dX5_strengthOf_6 (by decide) (fun c17 => ?_) (fun c17 => ?_)
  · have hE := zite_t hE c17
    have t18 := congrArg Int32.toInt c17
    refine zi_iconst (pc := 18) (v := 0) F dX5_strengthOf_18 rfl ?_
    subst hE
    exact hret _ _ dX5_strengthOf_19
  · have hE := zite_f hE c17
    have t19 := zt_ne c17
    refine zi_aload_n (pc := 9) F dX5_strengthOf_9 0 rfl ?_
    refine zi_get (pc := 10) (C := RX5) (T := TX5) (N := 27) (v := .ref (G.2.2 6 13)) F (hw_X5_strengthOf_X5) 0 rfl rfl 20 (by decide) (List.mem_of_getElem? (i := 1) rfl) rfl rfl dX5_strengthOf_10 ?_
    refine zi_iload_n (pc := 13) F dX5_strengthOf_13 1 rfl ?_
    refine zi_iald (pc := 14) (v := (R2 20 place.toNatClampNeg)) F 13 0 rfl rfl (zin (a := place) (by omega) (by omega)) rfl dX5_strengthOf_14 ?_
    refine zi_goto (pc := 15) (tgt := 19) F dX5_strengthOf_15 (by decide) ?_
    subst hE
    exact hret _ _ dX5_strengthOf_19
/-! X5_power -/
def mX5_power_L36 (player : Int32) (R11 : zS_t) : Nat → Int32 → Int32 → Int32 × Int32
  | 0, k2_59, k3_60 => (k2_59, k3_60)
  | n61 + 1, k2_59, k3_60 => if (R11 6 0) ≤ k3_60 then (k2_59, k3_60) else (if (R11 18 k3_60.toNatClampNeg) = player then (if ((R11 19 k3_60.toNatClampNeg) &&& 1) = 1 then (zbnd ((k2_59 + (R11 20 k3_60.toNatClampNeg))) (fun y92 => zbnd ((k3_60 + 1)) (fun y96 => mX5_power_L36 player R11 n61 y92 y96))) else (zbnd ((k2_59 + 0)) (fun y83 => zbnd ((k3_60 + 1)) (fun y87 => mX5_power_L36 player R11 n61 y83 y87)))) else (zbnd ((k2_59 + 0)) (fun y72 => zbnd ((k3_60 + 1)) (fun y76 => mX5_power_L36 player R11 n61 y72 y76))))
def mX5_power (player : Int32) (R : zS_t) : Int32 × zS_t := zbnd (mX5_isIn player 0 2) (fun r1 => if r1 = 0 then (0, (zsI R 26 1)) else (zbnd (mX5_lays 5 (zsI R 26 0)) (fun R11 => zbnd2 (mX5_power_L36 player R11 11 0 0) (fun k2_100 k3_101 => (k2_100, R11)))))
set_option maxHeartbeats 4000000 in
set_option maxRecDepth 100000 in
theorem pp_X5_power (player : Int32) (R : zS_t) (hIR : zIR R) : (zIR ((mX5_power player R).2)) := by
  obtain ⟨X, hE⟩ : ∃ z, mX5_power player R = z := ⟨_, rfl⟩
  rw [hE]
  have k_0 : Int32.toInt 0 = 0 := by decide
  have k_1 : Int32.toInt 1 = 1 := by decide
  have k_2 : Int32.toInt 2 = 2 := by decide
  have k_5 : Int32.toInt 5 = 5 := by decide
  obtain ⟨⟨i106, i107⟩, ⟨i108, i109⟩, ⟨i110, i111⟩, ⟨i112, i113⟩, ⟨i114, i115⟩, hIR_b14, hIR_p15⟩ := id hIR
  unfold mX5_power at hE
  have pp4 := pp_X5_isIn player 0 2  
  obtain ⟨r1, e2⟩ : ∃ z, mX5_isIn player 0 2 = z := ⟨_, rfl⟩
  have hE := zbnd_cut hE e2
  rw [e2] at pp4
  obtain ⟨hbr1, q5⟩ := pp4
  by_cases c6 : r1 = 0
  · have hE := zite_t hE c6
    have t7 := congrArg Int32.toInt c6
    subst hE
    exact hIR
  · have hE := zite_f hE c6
    have t9 := zt_ne c6
    have pp14 := pp_X5_lays 5 (zsI R 26 0) (hIR) (by first | omega | (show Int32.toInt 5 ≤ 5; omega))
    obtain ⟨R11, e12⟩ : ∃ z, mX5_lays 5 (zsI R 26 0) = z := ⟨_, rfl⟩
    have hE := zbnd_cut hE e12
    rw [e12] at pp14
    obtain ⟨hIR11, q15⟩ := pp14
    have q15 : Int32.toInt (R11 6 0) = Int32.toInt (R 6 0) := q15
    obtain ⟨⟨i16, i17⟩, ⟨i18, i19⟩, ⟨i20, i21⟩, ⟨i22, i23⟩, ⟨i24, i25⟩, hIR11_b14, hIR11_p15⟩ := id hIR11
    have hL36 : ∀ (n61 : Nat) (k2_59 : Int32) (k3_60 : Int32), (0 ≤ Int32.toInt k3_60) ∧ (Int32.toInt k3_60 ≤ 10) → 11 - Int32.toInt k3_60 ≤ (n61 : Int) → ∀ Y62, mX5_power_L36 player R11 n61 k2_59 k3_60 = Y62 → (0 ≤ Int32.toInt Y62.2) ∧ (Int32.toInt Y62.2 ≤ 10) := by
      intro n61
      induction n61 with
      | zero =>
        intro k2_59 k3_60 hI hM9
        obtain ⟨i63, i64⟩ := id hI
        exact absurd hM9 (by omega)
      | succ n61 ih =>
        intro k2_59 k3_60 hI hM9 Y62 hE
        obtain ⟨i65, i66⟩ := id hI
        rw [mX5_power_L36.eq_2] at hE
        by_cases c67 : (R11 6 0) ≤ k3_60
        · have hE := zite_t hE c67
          have t68 := zt_le c67
          subst hE
          exact ⟨by (show 0 ≤ Int32.toInt k3_60; omega), by (show Int32.toInt k3_60 ≤ 10; omega)⟩
        · have hE := zite_f hE c67
          have t69 := zt_nle c67
          by_cases c70 : (R11 18 k3_60.toNatClampNeg) = player
          · have hE := zite_t hE c70
            have t71 := congrArg Int32.toInt c70
            by_cases c72 : ((R11 19 k3_60.toNatClampNeg) &&& 1) = 1
            · have hE := zite_t hE c72
              have t73 := congrArg Int32.toInt c72
              try have t76 := zt_add (a := k2_59) (b := (R11 20 k3_60.toNatClampNeg)) (by omega) (by omega)
              obtain ⟨y74, e75⟩ : ∃ z : Int32, (k2_59 + (R11 20 k3_60.toNatClampNeg)) = z := ⟨_, rfl⟩
              have hE := zbnd_cut hE e75
              have t77 := congrArg Int32.toInt e75
              try have t80 := zt_add (a := k3_60) (b := 1) (by omega) (by omega)
              obtain ⟨y78, e79⟩ : ∃ z : Int32, (k3_60 + 1) = z := ⟨_, rfl⟩
              have hE := zbnd_cut hE e79
              have t81 := congrArg Int32.toInt e79
              exact ih y74 y78 (⟨by (show 0 ≤ Int32.toInt y78; omega), by (show Int32.toInt y78 ≤ 10; omega)⟩) (by omega) _ hE
            · have hE := zite_f hE c72
              have t82 := zt_ne c72
              try have t85 := zt_add (a := k2_59) (b := 0) (by omega) (by omega)
              obtain ⟨y83, e84⟩ : ∃ z : Int32, (k2_59 + 0) = z := ⟨_, rfl⟩
              have hE := zbnd_cut hE e84
              have t86 := congrArg Int32.toInt e84
              try have t89 := zt_add (a := k3_60) (b := 1) (by omega) (by omega)
              obtain ⟨y87, e88⟩ : ∃ z : Int32, (k3_60 + 1) = z := ⟨_, rfl⟩
              have hE := zbnd_cut hE e88
              have t90 := congrArg Int32.toInt e88
              exact ih y83 y87 (⟨by (show 0 ≤ Int32.toInt y87; omega), by (show Int32.toInt y87 ≤ 10; omega)⟩) (by omega) _ hE
          · have hE := zite_f hE c70
            have t91 := zt_ne c70
            try have t94 := zt_add (a := k2_59) (b := 0) (by omega) (by omega)
            obtain ⟨y92, e93⟩ : ∃ z : Int32, (k2_59 + 0) = z := ⟨_, rfl⟩
            have hE := zbnd_cut hE e93
            have t95 := congrArg Int32.toInt e93
            try have t98 := zt_add (a := k3_60) (b := 1) (by omega) (by omega)
            obtain ⟨y96, e97⟩ : ∃ z : Int32, (k3_60 + 1) = z := ⟨_, rfl⟩
            have hE := zbnd_cut hE e97
            have t99 := congrArg Int32.toInt e97
            exact ih y92 y96 (⟨by (show 0 ≤ Int32.toInt y96; omega), by (show Int32.toInt y96 ≤ 10; omega)⟩) (by omega) _ hE
    obtain ⟨⟨k2_100, k3_101⟩, e102⟩ : ∃ z, mX5_power_L36 player R11 11 0 0 = z := ⟨_, rfl⟩
    have hE := zbnd2_cut hE e102
    have hI103 := hL36 11 0 0 (⟨by (show 0 ≤ Int32.toInt 0; omega), by (show Int32.toInt 0 ≤ 10; omega)⟩) (by omega) _ e102
    have hI103 : (0 ≤ Int32.toInt k3_101) ∧ (Int32.toInt k3_101 ≤ 10) := hI103
    obtain ⟨i104, i105⟩ := id hI103
    subst hE
    exact hIR11
theorem hw_X5_power_X5 : ∀ w ∈ wsX50, w ∈ wsX5_power := fun w h => List.mem_cons_of_mem _ (List.mem_append_right _ (h))
abbrev rmX5_power : Room := { frames := 3, cells := 0, slots := 0, locals := 72 }
theorem hd_X5_power : yX5_power.cls = RX5 ∧ yX5_power.cls ≠ "java/lang/invoke/MethodHandle" ∧ yX5_power.cls ≠ "java/lang/invoke/VarHandle" ∧ (parseMethodDescriptor yX5_power.desc).map (fun d => d.parameters.length) = some 1 := by decide +kernel
set_option maxHeartbeats 4000000 in
set_option maxRecDepth 100000 in
theorem c_X5_power (l : Launch) (G : zG_t) (player : Int32) (R : zS_t) (hIR : zIR R) : zCI l G.1 (zty G) yX5_power wsX5_power rmX5_power [.ref (G.2.2 6 0), .int player] (zWR G R) ((mX5_power player R).1) (zWR G ((mX5_power player R).2)) := by
  obtain ⟨X, hE⟩ : ∃ z, mX5_power player R = z := ⟨_, rfl⟩
  rw [hE]
  refine zb_I (cc := cX5_power) (maxL := 4) (by decide) rfl (Nat.le_of_ble_eq_true rfl) ?_
  intro p e s m args below meth c Q A F hret
  show zW p l e rmX5_power s m args below meth c 0 0 Q G.1 A 4 (zWR G R) [(0, .ref (G.2.2 6 0)), (1, .int player)] 0 []
  have k_0 : Int32.toInt 0 = 0 := by decide
  have k_1 : Int32.toInt 1 = 1 := by decide
  have k_2 : Int32.toInt 2 = 2 := by decide
  have k_5 : Int32.toInt 5 = 5 := by decide
  obtain ⟨⟨i116, i117⟩, ⟨i118, i119⟩, ⟨i120, i121⟩, ⟨i122, i123⟩, ⟨i124, i125⟩, hIR_b14, hIR_p15⟩ := id hIR
  unfold mX5_power at hE
  refine zi_aload_n (pc := 0) F dX5_power_0 0 rfl ?_
  refine zi_iload_n (pc := 1) F dX5_power_1 1 rfl ?_
  refine zi_iconst (pc := 2) (v := 0) F dX5_power_2 rfl ?_
  refine zi_iconst (pc := 3) (v := 2) F dX5_power_3 rfl ?_
  have hM3 := c_X5_isIn l G player 0 2  
  have pp4 := pp_X5_isIn player 0 2  
  obtain ⟨r1, e2⟩ : ∃ z, mX5_isIn player 0 2 = z := ⟨_, rfl⟩
  have hE := zbnd_cut hE e2
  rw [e2] at hM3
  rw [e2] at pp4
  obtain ⟨hbr1, q5⟩ := pp4
  refine zi_callSI (pc := 4) (rest := [.ref (G.2.2 6 0)]) (ws' := zWR G R) F hM3 (va_cwS 3 F.1.2.2.2.2 gX5_power_X5_isIn rfl rfl rfl hd_X5_isIn.2 ⟨Nat.le_of_ble_eq_true rfl, Nat.le_of_ble_eq_true rfl⟩) [] (zWR G R) rfl rfl rfl rfl (Nat.le_of_ble_eq_true rfl) dX5_power_4 ⟨Nat.zero_le _, Nat.zero_le _⟩ ?_
  refine zi_if_eq (pc := 7) (tgt := 14) F dX5_power_7 (by decide) (fun c6 => ?_) (fun c6 => ?_)
  · have hE := zite_t hE c6
    have t7 := congrArg Int32.toInt c6
    refine zi_iconst (pc := 14) (v := 1) F dX5_power_14 rfl ?_
    refine zi_put (pc := 15) (C := RX5) (T := TX5) (N := 27) (ty := .int) (ws' := zWR G (zsI R 26 1)) F (hw_X5_power_X5) tyX5 tyX5_ok nmX5 0 rfl rfl 26 (by decide) (List.mem_of_getElem? (i := 1) rfl) rfl rfl rfl rfl rfl (Nat.le_of_ble_eq_true rfl) rfl dX5_power_15 ?_
    refine zi_aload_n (pc := 18) F dX5_power_18 0 rfl ?_
    refine zi_get (pc := 19) (C := RX5) (T := TX5) (N := 27) (v := .int 1) F (hw_X5_power_X5) 0 rfl rfl 26 (by decide) (List.mem_of_getElem? (i := 1) rfl) rfl rfl dX5_power_19 ?_
    refine zi_if_le (pc := 22) (tgt := 27) F dX5_power_22 (by decide) (fun c8 => absurd c8 (by decide)) (fun _ => ?_)
    refine zi_iconst (pc := 25) (v := 0) F dX5_power_25 rfl ?_
    subst hE
    exact hret _ _ dX5_power_26
  · have hE := zite_f hE c6
    have t9 := zt_ne c6
    refine zi_iconst (pc := 10) (v := 0) F dX5_power_10 rfl ?_
    refine zi_goto (pc := 11) (tgt := 15) F dX5_power_11 (by decide) ?_
    refine zi_put (pc := 15) (C := RX5) (T := TX5) (N := 27) (ty := .int) (ws' := zWR G (zsI R 26 0)) F (hw_X5_power_X5) tyX5 tyX5_ok nmX5 0 rfl rfl 26 (by decide) (List.mem_of_getElem? (i := 1) rfl) rfl rfl rfl rfl rfl (Nat.le_of_ble_eq_true rfl) rfl dX5_power_15 ?_
    refine zi_aload_n (pc := 18) F dX5_power_18 0 rfl ?_
    refine zi_get (pc := 19) (C := RX5) (T := TX5) (N := 27) (v := .int 0) F (hw_X5_power_X5) 0 rfl rfl 26 (by decide) (List.mem_of_getElem? (i := 1) rfl) rfl rfl dX5_power_19 ?_
    refine zi_if_le (pc := 22) (tgt := 27) F dX5_power_22 (by decide) (fun _ => ?_) (fun c10 => absurd c10 (by decide))
    refine zi_aload_n (pc := 27) F dX5_power_27 0 rfl ?_
    refine zi_iconst (pc := 28) (v := 5) F dX5_power_28 rfl ?_
    have hM13 := c_X5_lays l G 5 (zsI R 26 0) (hIR) (by first | omega | (show Int32.toInt 5 ≤ 5; omega))
    have pp14 := pp_X5_lays 5 (zsI R 26 0) (hIR) (by first | omega | (show Int32.toInt 5 ≤ 5; omega))
    obtain ⟨R11, e12⟩ : ∃ z, mX5_lays 5 (zsI R 26 0) = z := ⟨_, rfl⟩
    have hE := zbnd_cut hE e12
    rw [e12] at hM13
    rw [e12] at pp14
    obtain ⟨hIR11, q15⟩ := pp14
    have q15 : Int32.toInt (R11 6 0) = Int32.toInt (R 6 0) := q15
    obtain ⟨⟨i16, i17⟩, ⟨i18, i19⟩, ⟨i20, i21⟩, ⟨i22, i23⟩, ⟨i24, i25⟩, hIR11_b14, hIR11_p15⟩ := id hIR11
    refine zi_callVV (pc := 29) (rest := []) (ws' := zWR G R11) F hM13 (cwV 1 F.1.2.2.2.2 gX5_power_X5_lays rfl rfl rfl hd_X5_lays ⟨Nat.le_of_ble_eq_true rfl, Nat.le_of_ble_eq_true rfl⟩) 0 rfl rfl _ _ (zw_nil _) (zw_nil _).symm rfl rfl (Nat.le_of_ble_eq_true rfl) dX5_power_29 ⟨Nat.zero_le _, Nat.zero_le _⟩ ?_
    refine zi_iconst (pc := 32) (v := 0) F dX5_power_32 rfl ?_
    refine zi_istore_n (pc := 33) (lv' := [(0, .ref (G.2.2 6 0)), (1, .int player), (2, .int 0)]) F dX5_power_33 (by decide) rfl ?_
    refine zi_iconst (pc := 34) (v := 0) F dX5_power_34 rfl ?_
    refine zi_istore_n (pc := 35) (lv' := [(0, .ref (G.2.2 6 0)), (1, .int player), (2, .int 0), (3, .int 0)]) F dX5_power_35 (by decide) rfl ?_
    have hL36 : ∀ (n61 : Nat) (k2_59 : Int32) (k3_60 : Int32), (0 ≤ Int32.toInt k3_60) ∧ (Int32.toInt k3_60 ≤ 10) → 11 - Int32.toInt k3_60 ≤ (n61 : Int) → ∀ Y62, mX5_power_L36 player R11 n61 k2_59 k3_60 = Y62 → (((0 ≤ Int32.toInt Y62.2) ∧ (Int32.toInt Y62.2 ≤ 10)) → zW p l e rmX5_power s m args below meth c 0 0 Q G.1 A 4 (zWR G R11) [(0, .ref (G.2.2 6 0)), (1, .int player), (2, .int Y62.1), (3, .int Y62.2)] 85 []) → zW p l e rmX5_power s m args below meth c 0 0 Q G.1 A 4 (zWR G R11) [(0, .ref (G.2.2 6 0)), (1, .int player), (2, .int k2_59), (3, .int k3_60)] 36 [] := by
      intro n61
      induction n61 with
      | zero =>
        intro k2_59 k3_60 hI hM9
        obtain ⟨i63, i64⟩ := id hI
        exact absurd hM9 (by omega)
      | succ n61 ih =>
        intro k2_59 k3_60 hI hM9 Y62 hE hK
        obtain ⟨i65, i66⟩ := id hI
        rw [mX5_power_L36.eq_2] at hE
        refine zi_iload_n (pc := 36) F dX5_power_36 3 rfl ?_
        refine zi_aload_n (pc := 37) F dX5_power_37 0 rfl ?_
        refine zi_get (pc := 38) (C := RX5) (T := TX5) (N := 27) (v := .int (R11 6 0)) F (hw_X5_power_X5) 0 rfl rfl 6 (by decide) (List.mem_of_getElem? (i := 2) rfl) rfl rfl dX5_power_38 ?_
        refine zi_icmp_ge (pc := 41) (tgt := 85) F dX5_power_41 (by decide) (fun c67 => ?_) (fun c67 => ?_)
        · have hE := zite_t hE c67
          have t68 := zt_le c67
          subst hE
          refine zi_sub [0, 1, 2, 3] rfl ?_
          exact hK (⟨by (show 0 ≤ Int32.toInt k3_60; omega), by (show Int32.toInt k3_60 ≤ 10; omega)⟩)
        · have hE := zite_f hE c67
          have t69 := zt_nle c67
          refine zi_iload_n (pc := 44) F dX5_power_44 2 rfl ?_
          refine zi_aload_n (pc := 45) F dX5_power_45 0 rfl ?_
          refine zi_get (pc := 46) (C := RX5) (T := TX5) (N := 27) (v := .ref (G.2.2 6 11)) F (hw_X5_power_X5) 0 rfl rfl 18 (by decide) (List.mem_of_getElem? (i := 3) rfl) rfl rfl dX5_power_46 ?_
          refine zi_iload_n (pc := 49) F dX5_power_49 3 rfl ?_
          refine zi_iald (pc := 50) (v := (R11 18 k3_60.toNatClampNeg)) F 11 0 rfl rfl (zin (a := k3_60) (by omega) (by omega)) rfl dX5_power_50 ?_
          refine zi_iload_n (pc := 51) F dX5_power_51 1 rfl ?_
          refine zi_icmp_ne (pc := 52) (tgt := 76) F dX5_power_52 (by decide) (fun c70 => ?_) (fun c70 => ?_)
          · have hE := zite_f hE c70
            have t71 := zt_ne c70
            refine zi_iconst (pc := 76) (v := 0) F dX5_power_76 rfl ?_
            refine zi_iadd (pc := 77) F dX5_power_77 ?_
            try have t74 := zt_add (a := k2_59) (b := 0) (by omega) (by omega)
            refine zi_topi (fun y72 e73 => ?_)
            have hE := zbnd_cut hE e73
            have t75 := congrArg Int32.toInt e73
            refine zi_istore_n (pc := 78) (lv' := [(0, .ref (G.2.2 6 0)), (1, .int player), (2, .int y72), (3, .int k3_60)]) F dX5_power_78 (by decide) rfl ?_
            try have t78 := zt_add (a := k3_60) (b := 1) (by omega) (by omega)
            obtain ⟨y76, e77⟩ : ∃ z : Int32, (k3_60 + 1) = z := ⟨_, rfl⟩
            have hE := zbnd_cut hE e77
            have t79 := congrArg Int32.toInt e77
            refine zi_iinc (pc := 79) (lv' := [(0, .ref (G.2.2 6 0)), (1, .int player), (2, .int y72), (3, .int y76)]) F dX5_power_79 3 rfl e77 (by decide) rfl ?_
            refine zi_goto (pc := 82) (tgt := 36) F dX5_power_82 (by decide) ?_
            refine zi_sub [0, 1, 2, 3] rfl ?_
            exact ih y72 y76 (⟨by (show 0 ≤ Int32.toInt y76; omega), by (show Int32.toInt y76 ≤ 10; omega)⟩) (by omega) _ hE hK
          · have hE := zite_t hE c70
            have t80 := congrArg Int32.toInt c70
            refine zi_aload_n (pc := 55) F dX5_power_55 0 rfl ?_
            refine zi_get (pc := 56) (C := RX5) (T := TX5) (N := 27) (v := .ref (G.2.2 6 12)) F (hw_X5_power_X5) 0 rfl rfl 19 (by decide) (List.mem_of_getElem? (i := 4) rfl) rfl rfl dX5_power_56 ?_
            refine zi_iload_n (pc := 59) F dX5_power_59 3 rfl ?_
            refine zi_iald (pc := 60) (v := (R11 19 k3_60.toNatClampNeg)) F 12 0 rfl rfl (zin (a := k3_60) (by omega) (by omega)) rfl dX5_power_60 ?_
            refine zi_iconst (pc := 61) (v := 1) F dX5_power_61 rfl ?_
            refine zi_iand (pc := 62) F dX5_power_62 ?_
            refine zi_iconst (pc := 63) (v := 1) F dX5_power_63 rfl ?_
            refine zi_icmp_ne (pc := 64) (tgt := 76) F dX5_power_64 (by decide) (fun c81 => ?_) (fun c81 => ?_)
            · have hE := zite_f hE c81
              have t82 := zt_ne c81
              refine zi_iconst (pc := 76) (v := 0) F dX5_power_76 rfl ?_
              refine zi_iadd (pc := 77) F dX5_power_77 ?_
              try have t85 := zt_add (a := k2_59) (b := 0) (by omega) (by omega)
              refine zi_topi (fun y83 e84 => ?_)
              have hE := zbnd_cut hE e84
              have t86 := congrArg Int32.toInt e84
              refine zi_istore_n (pc := 78) (lv' := [(0, .ref (G.2.2 6 0)), (1, .int player), (2, .int y83), (3, .int k3_60)]) F dX5_power_78 (by decide) rfl ?_
              try have t89 := zt_add (a := k3_60) (b := 1) (by omega) (by omega)
              obtain ⟨y87, e88⟩ : ∃ z : Int32, (k3_60 + 1) = z := ⟨_, rfl⟩
              have hE := zbnd_cut hE e88
              have t90 := congrArg Int32.toInt e88
              refine zi_iinc (pc := 79) (lv' := [(0, .ref (G.2.2 6 0)), (1, .int player), (2, .int y83), (3, .int y87)]) F dX5_power_79 3 rfl e88 (by decide) rfl ?_
              refine zi_goto (pc := 82) (tgt := 36) F dX5_power_82 (by decide) ?_
              refine zi_sub [0, 1, 2, 3] rfl ?_
              exact ih y83 y87 (⟨by (show 0 ≤ Int32.toInt y87; omega), by (show Int32.toInt y87 ≤ 10; omega)⟩) (by omega) _ hE hK
            · have hE := zite_t hE c81
              have t91 := congrArg Int32.toInt c81
              refine zi_aload_n (pc := 67) F dX5_power_67 0 rfl ?_
              refine zi_get (pc := 68) (C := RX5) (T := TX5) (N := 27) (v := .ref (G.2.2 6 13)) F (hw_X5_power_X5) 0 rfl rfl 20 (by decide) (List.mem_of_getElem? (i := 5) rfl) rfl rfl dX5_power_68 ?_
              refine zi_iload_n (pc := 71) F dX5_power_71 3 rfl ?_
              refine zi_iald (pc := 72) (v := (R11 20 k3_60.toNatClampNeg)) F 13 0 rfl rfl (zin (a := k3_60) (by omega) (by omega)) rfl dX5_power_72 ?_
              refine zi_goto (pc := 73) (tgt := 77) F dX5_power_73 (by decide) ?_
              refine zi_iadd (pc := 77) F dX5_power_77 ?_
              try have t94 := zt_add (a := k2_59) (b := (R11 20 k3_60.toNatClampNeg)) (by omega) (by omega)
              refine zi_topi (fun y92 e93 => ?_)
              have hE := zbnd_cut hE e93
              have t95 := congrArg Int32.toInt e93
              refine zi_istore_n (pc := 78) (lv' := [(0, .ref (G.2.2 6 0)), (1, .int player), (2, .int y92), (3, .int k3_60)]) F dX5_power_78 (by decide) rfl ?_
              try have t98 := zt_add (a := k3_60) (b := 1) (by omega) (by omega)
              obtain ⟨y96, e97⟩ : ∃ z : Int32, (k3_60 + 1) = z := ⟨_, rfl⟩
              have hE := zbnd_cut hE e97
              have t99 := congrArg Int32.toInt e97
              refine zi_iinc (pc := 79) (lv' := [(0, .ref (G.2.2 6 0)), (1, .int player), (2, .int y92), (3, .int y96)]) F dX5_power_79 3 rfl e97 (by decide) rfl ?_
              refine zi_goto (pc := 82) (tgt := 36) F dX5_power_82 (by decide) ?_
              refine zi_sub [0, 1, 2, 3] rfl ?_
              exact ih y92 y96 (⟨by (show 0 ≤ Int32.toInt y96; omega), by (show Int32.toInt y96 ≤ 10; omega)⟩) (by omega) _ hE hK
    obtain ⟨⟨k2_100, k3_101⟩, e102⟩ : ∃ z, mX5_power_L36 player R11 11 0 0 = z := ⟨_, rfl⟩
    have hE := zbnd2_cut hE e102
    refine hL36 11 0 0 (⟨by (show 0 ≤ Int32.toInt 0; omega), by (show Int32.toInt 0 ≤ 10; omega)⟩) (by omega) _ e102 (fun hI103 => ?_)
    have hI103 : (0 ≤ Int32.toInt k3_101) ∧ (Int32.toInt k3_101 ≤ 10) := hI103
    obtain ⟨i104, i105⟩ := id hI103
    show zW p l e rmX5_power s m args below meth c 0 0 Q G.1 A 4 (zWR G R11) [(0, .ref (G.2.2 6 0)), (1, .int player), (2, .int k2_100), (3, .int k3_101)] 85 []
    refine zi_iload_n (pc := 85) F dX5_power_85 2 rfl ?_
    subst hE
    exact hret _ _ dX5_power_86
/-! X5_stack -/
def mX5_stack  (R : zS_t) : Int32 × zS_t := ((R 12 0), (zsI R 26 0))
set_option maxHeartbeats 4000000 in
set_option maxRecDepth 100000 in
theorem pp_X5_stack  (R : zS_t) (hIR : zIR R) : (zIR ((mX5_stack R).2)) := by
  obtain ⟨X, hE⟩ : ∃ z, mX5_stack R = z := ⟨_, rfl⟩
  rw [hE]
  have k_0 : Int32.toInt 0 = 0 := by decide
  have k_1 : Int32.toInt 1 = 1 := by decide
  obtain ⟨⟨i1, i2⟩, ⟨i3, i4⟩, ⟨i5, i6⟩, ⟨i7, i8⟩, ⟨i9, i10⟩, hIR_b14, hIR_p15⟩ := id hIR
  unfold mX5_stack at hE
  subst hE
  exact hIR
theorem hw_X5_stack_X5 : ∀ w ∈ wsX50, w ∈ wsX5_stack := fun w h => List.mem_cons_of_mem _ (List.mem_append_right _ (h))
abbrev rmX5_stack : Room := { frames := 0, cells := 0, slots := 0, locals := 0 }
theorem hd_X5_stack : yX5_stack.cls = RX5 ∧ yX5_stack.cls ≠ "java/lang/invoke/MethodHandle" ∧ yX5_stack.cls ≠ "java/lang/invoke/VarHandle" ∧ (parseMethodDescriptor yX5_stack.desc).map (fun d => d.parameters.length) = some 0 := by decide +kernel
set_option maxHeartbeats 4000000 in
set_option maxRecDepth 100000 in
theorem c_X5_stack (l : Launch) (G : zG_t)  (R : zS_t) (hIR : zIR R) : zCI l G.1 (zty G) yX5_stack wsX5_stack rmX5_stack [.ref (G.2.2 6 0)] (zWR G R) ((mX5_stack R).1) (zWR G ((mX5_stack R).2)) := by
  obtain ⟨X, hE⟩ : ∃ z, mX5_stack R = z := ⟨_, rfl⟩
  rw [hE]
  refine zb_I (cc := cX5_stack) (maxL := 1) (by decide) rfl (Nat.le_of_ble_eq_true rfl) ?_
  intro p e s m args below meth c Q A F hret
  show zW p l e rmX5_stack s m args below meth c 0 0 Q G.1 A 1 (zWR G R) [(0, .ref (G.2.2 6 0))] 0 []
  have k_0 : Int32.toInt 0 = 0 := by decide
  have k_1 : Int32.toInt 1 = 1 := by decide
  obtain ⟨⟨i11, i12⟩, ⟨i13, i14⟩, ⟨i15, i16⟩, ⟨i17, i18⟩, ⟨i19, i20⟩, hIR_b14, hIR_p15⟩ := id hIR
  unfold mX5_stack at hE
  refine zi_aload_n (pc := 0) F dX5_stack_0 0 rfl ?_
  refine zi_iconst (pc := 1) (v := 0) F dX5_stack_1 rfl ?_
  refine zi_put (pc := 2) (C := RX5) (T := TX5) (N := 27) (ty := .int) (ws' := zWR G (zsI R 26 0)) F (hw_X5_stack_X5) tyX5 tyX5_ok nmX5 0 rfl rfl 26 (by decide) (List.mem_of_getElem? (i := 1) rfl) rfl rfl rfl rfl rfl (Nat.le_of_ble_eq_true rfl) rfl dX5_stack_2 ?_
  refine zi_aload_n (pc := 5) F dX5_stack_5 0 rfl ?_
  refine zi_get (pc := 6) (C := RX5) (T := TX5) (N := 27) (v := .int (R 12 0)) F (hw_X5_stack_X5) 0 rfl rfl 12 (by decide) (List.mem_of_getElem? (i := 2) rfl) rfl rfl dX5_stack_6 ?_
  subst hE
  exact hret _ _ dX5_stack_9
/-! X5_isEntry -/
def mX5_isEntry (place : Int32) (R : zS_t) : Int32 × zS_t := zbnd (mX5_isIn place 0 ((R 12 0) - 1)) (fun r1 => if r1 = 0 then (0, (zsI R 26 1)) else (1, (zsI R 26 0)))
set_option maxHeartbeats 4000000 in
set_option maxRecDepth 100000 in
theorem pp_X5_isEntry (place : Int32) (R : zS_t) (hIR : zIR R) : ((mX5_isEntry place R).1 = 0 ∨ (mX5_isEntry place R).1 = 1) ∧ (zIR ((mX5_isEntry place R).2)) ∧ (Int32.toInt ((mX5_isEntry place R).1) = 0 ∨ (0 ≤ Int32.toInt place ∧ Int32.toInt place < Int32.toInt (R 12 0))) ∧ (Int32.toInt (((mX5_isEntry place R).2) 12 0) = Int32.toInt (R 12 0)) := by
  obtain ⟨X, hE⟩ : ∃ z, mX5_isEntry place R = z := ⟨_, rfl⟩
  rw [hE]
  have k_0 : Int32.toInt 0 = 0 := by decide
  have k_1 : Int32.toInt 1 = 1 := by decide
  obtain ⟨⟨i12, i13⟩, ⟨i14, i15⟩, ⟨i16, i17⟩, ⟨i18, i19⟩, ⟨i20, i21⟩, hIR_b14, hIR_p15⟩ := id hIR
  unfold mX5_isEntry at hE
  try have t2 := zt_sub (a := (R 12 0)) (b := 1) (by omega) (by omega)
  have pp5 := pp_X5_isIn place 0 ((R 12 0) - 1)  
  obtain ⟨r1, e3⟩ : ∃ z, mX5_isIn place 0 ((R 12 0) - 1) = z := ⟨_, rfl⟩
  have hE := zbnd_cut hE e3
  rw [e3] at pp5
  obtain ⟨hbr1, q6⟩ := pp5
  by_cases c7 : r1 = 0
  · have hE := zite_t hE c7
    have t8 := congrArg Int32.toInt c7
    subst hE
    exact ⟨Or.inl rfl, hIR, (by first | omega | (show Int32.toInt 0 = 0 ∨ (0 ≤ Int32.toInt place ∧ Int32.toInt place < Int32.toInt (R 12 0)); omega) | (show Int32.toInt 0 = 0 ∨ (0 ≤ Int32.toInt place ∧ Int32.toInt place < Int32.toInt (R 12 0)); simp)), rfl⟩
  · have hE := zite_f hE c7
    have t10 := zt_ne c7
    subst hE
    exact ⟨Or.inr rfl, hIR, (by first | omega | (show Int32.toInt 1 = 0 ∨ (0 ≤ Int32.toInt place ∧ Int32.toInt place < Int32.toInt (R 12 0)); omega) | (show Int32.toInt 1 = 0 ∨ (0 ≤ Int32.toInt place ∧ Int32.toInt place < Int32.toInt (R 12 0)); simp)), rfl⟩
theorem hw_X5_isEntry_X5 : ∀ w ∈ wsX50, w ∈ wsX5_isEntry := fun w h => List.mem_cons_of_mem _ (List.mem_append_right _ (h))
abbrev rmX5_isEntry : Room := { frames := 1, cells := 0, slots := 0, locals := 22 }
theorem hd_X5_isEntry : yX5_isEntry.cls = RX5 ∧ yX5_isEntry.cls ≠ "java/lang/invoke/MethodHandle" ∧ yX5_isEntry.cls ≠ "java/lang/invoke/VarHandle" ∧ (parseMethodDescriptor yX5_isEntry.desc).map (fun d => d.parameters.length) = some 1 := by decide +kernel
set_option maxHeartbeats 4000000 in
set_option maxRecDepth 100000 in
theorem c_X5_isEntry (l : Launch) (G : zG_t) (place : Int32) (R : zS_t) (hIR : zIR R) : zCI l G.1 (zty G) yX5_isEntry wsX5_isEntry rmX5_isEntry [.ref (G.2.2 6 0), .int place] (zWR G R) ((mX5_isEntry place R).1) (zWR G ((mX5_isEntry place R).2)) := by
  obtain ⟨X, hE⟩ : ∃ z, mX5_isEntry place R = z := ⟨_, rfl⟩
  rw [hE]
  refine zb_Z (cc := cX5_isEntry) (maxL := 2) (by decide) rfl (Nat.le_of_ble_eq_true rfl) ?_
  intro p e s m args below meth c Q A F hret
  show zW p l e rmX5_isEntry s m args below meth c 0 0 Q G.1 A 2 (zWR G R) [(0, .ref (G.2.2 6 0)), (1, .int place)] 0 []
  have k_0 : Int32.toInt 0 = 0 := by decide
  have k_1 : Int32.toInt 1 = 1 := by decide
  obtain ⟨⟨i22, i23⟩, ⟨i24, i25⟩, ⟨i26, i27⟩, ⟨i28, i29⟩, ⟨i30, i31⟩, hIR_b14, hIR_p15⟩ := id hIR
  unfold mX5_isEntry at hE
  refine zi_aload_n (pc := 0) F dX5_isEntry_0 0 rfl ?_
  refine zi_iload_n (pc := 1) F dX5_isEntry_1 1 rfl ?_
  refine zi_iconst (pc := 2) (v := 0) F dX5_isEntry_2 rfl ?_
  refine zi_aload_n (pc := 3) F dX5_isEntry_3 0 rfl ?_
  refine zi_get (pc := 4) (C := RX5) (T := TX5) (N := 27) (v := .int (R 12 0)) F (hw_X5_isEntry_X5) 0 rfl rfl 12 (by decide) (List.mem_of_getElem? (i := 1) rfl) rfl rfl dX5_isEntry_4 ?_
  refine zi_iconst (pc := 7) (v := 1) F dX5_isEntry_7 rfl ?_
  refine zi_isub (pc := 8) F dX5_isEntry_8 ?_
  try have t2 := zt_sub (a := (R 12 0)) (b := 1) (by omega) (by omega)
  have hM4 := c_X5_isIn l G place 0 ((R 12 0) - 1)  
  have pp5 := pp_X5_isIn place 0 ((R 12 0) - 1)  
  obtain ⟨r1, e3⟩ : ∃ z, mX5_isIn place 0 ((R 12 0) - 1) = z := ⟨_, rfl⟩
  have hE := zbnd_cut hE e3
  rw [e3] at hM4
  rw [e3] at pp5
  obtain ⟨hbr1, q6⟩ := pp5
  refine zi_callSI (pc := 9) (rest := [.ref (G.2.2 6 0)]) (ws' := zWR G R) F hM4 (va_cwS 3 F.1.2.2.2.2 gX5_isEntry_X5_isIn rfl rfl rfl hd_X5_isIn.2 ⟨Nat.le_of_ble_eq_true rfl, Nat.le_of_ble_eq_true rfl⟩) [] (zWR G R) rfl rfl rfl rfl (Nat.le_of_ble_eq_true rfl) dX5_isEntry_9 ⟨Nat.zero_le _, Nat.zero_le _⟩ ?_
  refine zi_if_eq (pc := 12) (tgt := 19) F dX5_isEntry_12 (by decide) (fun c7 => ?_) (fun c7 => ?_)
  · have hE := zite_t hE c7
    have t8 := congrArg Int32.toInt c7
    refine zi_iconst (pc := 19) (v := 1) F dX5_isEntry_19 rfl ?_
    refine zi_put (pc := 20) (C := RX5) (T := TX5) (N := 27) (ty := .int) (ws' := zWR G (zsI R 26 1)) F (hw_X5_isEntry_X5) tyX5 tyX5_ok nmX5 0 rfl rfl 26 (by decide) (List.mem_of_getElem? (i := 2) rfl) rfl rfl rfl rfl rfl (Nat.le_of_ble_eq_true rfl) rfl dX5_isEntry_20 ?_
    refine zi_aload_n (pc := 23) F dX5_isEntry_23 0 rfl ?_
    refine zi_get (pc := 24) (C := RX5) (T := TX5) (N := 27) (v := .int 1) F (hw_X5_isEntry_X5) 0 rfl rfl 26 (by decide) (List.mem_of_getElem? (i := 2) rfl) rfl rfl dX5_isEntry_24 ?_
    refine zi_if_ne (pc := 27) (tgt := 34) F dX5_isEntry_27 (by decide) (fun _ => ?_) (fun c9 => absurd c9 (by decide))
    refine zi_iconst (pc := 34) (v := 0) F dX5_isEntry_34 rfl ?_
    subst hE
    exact hret _ _ dX5_isEntry_35 (znb (Or.inl rfl))
  · have hE := zite_f hE c7
    have t10 := zt_ne c7
    refine zi_iconst (pc := 15) (v := 0) F dX5_isEntry_15 rfl ?_
    refine zi_goto (pc := 16) (tgt := 20) F dX5_isEntry_16 (by decide) ?_
    refine zi_put (pc := 20) (C := RX5) (T := TX5) (N := 27) (ty := .int) (ws' := zWR G (zsI R 26 0)) F (hw_X5_isEntry_X5) tyX5 tyX5_ok nmX5 0 rfl rfl 26 (by decide) (List.mem_of_getElem? (i := 2) rfl) rfl rfl rfl rfl rfl (Nat.le_of_ble_eq_true rfl) rfl dX5_isEntry_20 ?_
    refine zi_aload_n (pc := 23) F dX5_isEntry_23 0 rfl ?_
    refine zi_get (pc := 24) (C := RX5) (T := TX5) (N := 27) (v := .int 0) F (hw_X5_isEntry_X5) 0 rfl rfl 26 (by decide) (List.mem_of_getElem? (i := 2) rfl) rfl rfl dX5_isEntry_24 ?_
    refine zi_if_ne (pc := 27) (tgt := 34) F dX5_isEntry_27 (by decide) (fun c11 => absurd c11 (by decide)) (fun _ => ?_)
    refine zi_iconst (pc := 30) (v := 1) F dX5_isEntry_30 rfl ?_
    refine zi_goto (pc := 31) (tgt := 35) F dX5_isEntry_31 (by decide) ?_
    subst hE
    exact hret _ _ dX5_isEntry_35 (znb (Or.inr rfl))
/-! X5_entryCard -/
def mX5_entryCard (place : Int32) (R : zS_t) : Int32 × zS_t := zbnd2 (mX5_isEntry place R) (fun r1 R2 => if r1 = 0 then (0, R2) else ((R2 13 (((R2 12 0) - 1) - place).toNatClampNeg), R2))
set_option maxHeartbeats 4000000 in
set_option maxRecDepth 100000 in
theorem pp_X5_entryCard (place : Int32) (R : zS_t) (hIR : zIR R) : (zIR ((mX5_entryCard place R).2)) := by
  obtain ⟨X, hE⟩ : ∃ z, mX5_entryCard place R = z := ⟨_, rfl⟩
  rw [hE]
  have k_0 : Int32.toInt 0 = 0 := by decide
  have k_1 : Int32.toInt 1 = 1 := by decide
  obtain ⟨⟨i23, i24⟩, ⟨i25, i26⟩, ⟨i27, i28⟩, ⟨i29, i30⟩, ⟨i31, i32⟩, hIR_b14, hIR_p15⟩ := id hIR
  unfold mX5_entryCard at hE
  have pp5 := pp_X5_isEntry place R (hIR)
  obtain ⟨⟨r1, R2⟩, e3⟩ : ∃ z, mX5_isEntry place R = z := ⟨_, rfl⟩
  have hE := zbnd2_cut hE e3
  rw [e3] at pp5
  obtain ⟨hbr1, hIR2, q6, q7⟩ := pp5
  have hIR2 : zIR R2 := hIR2
  have q6 : Int32.toInt r1 = 0 ∨ (0 ≤ Int32.toInt place ∧ Int32.toInt place < Int32.toInt (R 12 0)) := q6
  have q7 : Int32.toInt (R2 12 0) = Int32.toInt (R 12 0) := q7
  obtain ⟨⟨i8, i9⟩, ⟨i10, i11⟩, ⟨i12, i13⟩, ⟨i14, i15⟩, ⟨i16, i17⟩, hIR2_b14, hIR2_p15⟩ := id hIR2
  by_cases c18 : r1 = 0
  · have hE := zite_t hE c18
    have t19 := congrArg Int32.toInt c18
    subst hE
    exact hIR2
  · have hE := zite_f hE c18
    have t20 := zt_ne c18
    try have t21 := zt_sub (a := (R2 12 0)) (b := 1) (by omega) (by omega)
    try have t22 := zt_sub (a := ((R2 12 0) - 1)) (b := place) (by omega) (by omega)
    subst hE
    exact hIR2
theorem hw_X5_entryCard_X5 : ∀ w ∈ wsX50, w ∈ wsX5_entryCard := fun w h => List.mem_cons_of_mem _ (List.mem_append_right _ (h))
abbrev rmX5_entryCard : Room := { frames := 2, cells := 0, slots := 0, locals := 43 }
theorem hd_X5_entryCard : yX5_entryCard.cls = RX5 ∧ yX5_entryCard.cls ≠ "java/lang/invoke/MethodHandle" ∧ yX5_entryCard.cls ≠ "java/lang/invoke/VarHandle" ∧ (parseMethodDescriptor yX5_entryCard.desc).map (fun d => d.parameters.length) = some 1 := by decide +kernel
set_option maxHeartbeats 4000000 in
set_option maxRecDepth 100000 in
theorem c_X5_entryCard (l : Launch) (G : zG_t) (place : Int32) (R : zS_t) (hIR : zIR R) : zCI l G.1 (zty G) yX5_entryCard wsX5_entryCard rmX5_entryCard [.ref (G.2.2 6 0), .int place] (zWR G R) ((mX5_entryCard place R).1) (zWR G ((mX5_entryCard place R).2)) := by
  obtain ⟨X, hE⟩ : ∃ z, mX5_entryCard place R = z := ⟨_, rfl⟩
  rw [hE]
  refine zb_I (cc := cX5_entryCard) (maxL := 2) (by decide) rfl (Nat.le_of_ble_eq_true rfl) ?_
  intro p e s m args below meth c Q A F hret
  show zW p l e rmX5_entryCard s m args below meth c 0 0 Q G.1 A 2 (zWR G R) [(0, .ref (G.2.2 6 0)), (1, .int place)] 0 []
  have k_0 : Int32.toInt 0 = 0 := by decide
  have k_1 : Int32.toInt 1 = 1 := by decide
  obtain ⟨⟨i33, i34⟩, ⟨i35, i36⟩, ⟨i37, i38⟩, ⟨i39, i40⟩, ⟨i41, i42⟩, hIR_b14, hIR_p15⟩ := id hIR
  unfold mX5_entryCard at hE
  refine zi_aload_n (pc := 0) F dX5_entryCard_0 0 rfl ?_
  refine zi_iload_n (pc := 1) F dX5_entryCard_1 1 rfl ?_
  have hM4 := c_X5_isEntry l G place R (hIR)
  have pp5 := pp_X5_isEntry place R (hIR)
  obtain ⟨⟨r1, R2⟩, e3⟩ : ∃ z, mX5_isEntry place R = z := ⟨_, rfl⟩
  have hE := zbnd2_cut hE e3
  rw [e3] at hM4
  rw [e3] at pp5
  obtain ⟨hbr1, hIR2, q6, q7⟩ := pp5
  have hIR2 : zIR R2 := hIR2
  have q6 : Int32.toInt r1 = 0 ∨ (0 ≤ Int32.toInt place ∧ Int32.toInt place < Int32.toInt (R 12 0)) := q6
  have q7 : Int32.toInt (R2 12 0) = Int32.toInt (R 12 0) := q7
  obtain ⟨⟨i8, i9⟩, ⟨i10, i11⟩, ⟨i12, i13⟩, ⟨i14, i15⟩, ⟨i16, i17⟩, hIR2_b14, hIR2_p15⟩ := id hIR2
  refine zi_callVI (pc := 2) (rest := []) (ws' := zWR G R2) F hM4 (cwV 1 F.1.2.2.2.2 gX5_entryCard_X5_isEntry rfl rfl rfl hd_X5_isEntry ⟨Nat.le_of_ble_eq_true rfl, Nat.le_of_ble_eq_true rfl⟩) 0 rfl rfl _ _ (zw_nil _) (zw_nil _).symm rfl rfl (Nat.le_of_ble_eq_true rfl) dX5_entryCard_2 ⟨Nat.zero_le _, Nat.zero_le _⟩ ?_
  refine zi_if_eq (pc := 5) (tgt := 24) F dX5_entryCard_5 (by decide) (fun c18 => ?_) (fun c18 => ?_)
  · have hE := zite_t hE c18
    have t19 := congrArg Int32.toInt c18
    refine zi_iconst (pc := 24) (v := 0) F dX5_entryCard_24 rfl ?_
    subst hE
    exact hret _ _ dX5_entryCard_25
  · have hE := zite_f hE c18
    have t20 := zt_ne c18
    refine zi_aload_n (pc := 8) F dX5_entryCard_8 0 rfl ?_
    refine zi_get (pc := 9) (C := RX5) (T := TX5) (N := 27) (v := .ref (G.2.2 6 6)) F (hw_X5_entryCard_X5) 0 rfl rfl 13 (by decide) (List.mem_of_getElem? (i := 1) rfl) rfl rfl dX5_entryCard_9 ?_
    refine zi_aload_n (pc := 12) F dX5_entryCard_12 0 rfl ?_
    refine zi_get (pc := 13) (C := RX5) (T := TX5) (N := 27) (v := .int (R2 12 0)) F (hw_X5_entryCard_X5) 0 rfl rfl 12 (by decide) (List.mem_of_getElem? (i := 2) rfl) rfl rfl dX5_entryCard_13 ?_
    refine zi_iconst (pc := 16) (v := 1) F dX5_entryCard_16 rfl ?_
    refine zi_isub (pc := 17) F dX5_entryCard_17 ?_
    refine zi_iload_n (pc := 18) F dX5_entryCard_18 1 rfl ?_
    refine zi_isub (pc := 19) F dX5_entryCard_19 ?_
    try have t21 := zt_sub (a := (R2 12 0)) (b := 1) (by omega) (by omega)
    try have t22 := zt_sub (a := ((R2 12 0) - 1)) (b := place) (by omega) (by omega)
    refine zi_iald (pc := 20) (v := (R2 13 (((R2 12 0) - 1) - place).toNatClampNeg)) F 6 0 rfl rfl (zin (a := (((R2 12 0) - 1) - place)) (by omega) (by omega)) rfl dX5_entryCard_20 ?_
    refine zi_goto (pc := 21) (tgt := 25) F dX5_entryCard_21 (by decide) ?_
    subst hE
    exact hret _ _ dX5_entryCard_25
/-! X5_isTrigger -/
def mX5_isTrigger (place : Int32) (R : zS_t) : Int32 × zS_t := zbnd2 (mX5_isEntry place R) (fun r1 R2 => if r1 = 0 then (0, R2) else (if (R2 14 (((R2 12 0) - 1) - place).toNatClampNeg) = 0 then (0, R2) else (1, R2)))
set_option maxHeartbeats 4000000 in
set_option maxRecDepth 100000 in
theorem pp_X5_isTrigger (place : Int32) (R : zS_t) (hIR : zIR R) : ((mX5_isTrigger place R).1 = 0 ∨ (mX5_isTrigger place R).1 = 1) ∧ (zIR ((mX5_isTrigger place R).2)) := by
  obtain ⟨X, hE⟩ : ∃ z, mX5_isTrigger place R = z := ⟨_, rfl⟩
  rw [hE]
  have k_0 : Int32.toInt 0 = 0 := by decide
  have k_1 : Int32.toInt 1 = 1 := by decide
  obtain ⟨⟨i26, i27⟩, ⟨i28, i29⟩, ⟨i30, i31⟩, ⟨i32, i33⟩, ⟨i34, i35⟩, hIR_b14, hIR_p15⟩ := id hIR
  unfold mX5_isTrigger at hE
  have pp5 := pp_X5_isEntry place R (hIR)
  obtain ⟨⟨r1, R2⟩, e3⟩ : ∃ z, mX5_isEntry place R = z := ⟨_, rfl⟩
  have hE := zbnd2_cut hE e3
  rw [e3] at pp5
  obtain ⟨hbr1, hIR2, q6, q7⟩ := pp5
  have hIR2 : zIR R2 := hIR2
  have q6 : Int32.toInt r1 = 0 ∨ (0 ≤ Int32.toInt place ∧ Int32.toInt place < Int32.toInt (R 12 0)) := q6
  have q7 : Int32.toInt (R2 12 0) = Int32.toInt (R 12 0) := q7
  obtain ⟨⟨i8, i9⟩, ⟨i10, i11⟩, ⟨i12, i13⟩, ⟨i14, i15⟩, ⟨i16, i17⟩, hIR2_b14, hIR2_p15⟩ := id hIR2
  by_cases c18 : r1 = 0
  · have hE := zite_t hE c18
    have t19 := congrArg Int32.toInt c18
    subst hE
    exact ⟨Or.inl rfl, hIR2⟩
  · have hE := zite_f hE c18
    have t20 := zt_ne c18
    try have t21 := zt_sub (a := (R2 12 0)) (b := 1) (by omega) (by omega)
    try have t22 := zt_sub (a := ((R2 12 0) - 1)) (b := place) (by omega) (by omega)
    by_cases c23 : (R2 14 (((R2 12 0) - 1) - place).toNatClampNeg) = 0
    · have hE := zite_t hE c23
      have t24 := congrArg Int32.toInt c23
      subst hE
      exact ⟨Or.inl rfl, hIR2⟩
    · have hE := zite_f hE c23
      have t25 := zt_ne c23
      subst hE
      exact ⟨Or.inr rfl, hIR2⟩
theorem hw_X5_isTrigger_X5 : ∀ w ∈ wsX50, w ∈ wsX5_isTrigger := fun w h => List.mem_cons_of_mem _ (List.mem_append_right _ (h))
abbrev rmX5_isTrigger : Room := { frames := 2, cells := 0, slots := 0, locals := 43 }
theorem hd_X5_isTrigger : yX5_isTrigger.cls = RX5 ∧ yX5_isTrigger.cls ≠ "java/lang/invoke/MethodHandle" ∧ yX5_isTrigger.cls ≠ "java/lang/invoke/VarHandle" ∧ (parseMethodDescriptor yX5_isTrigger.desc).map (fun d => d.parameters.length) = some 1 := by decide +kernel
set_option maxHeartbeats 4000000 in
set_option maxRecDepth 100000 in
theorem c_X5_isTrigger (l : Launch) (G : zG_t) (place : Int32) (R : zS_t) (hIR : zIR R) : zCI l G.1 (zty G) yX5_isTrigger wsX5_isTrigger rmX5_isTrigger [.ref (G.2.2 6 0), .int place] (zWR G R) ((mX5_isTrigger place R).1) (zWR G ((mX5_isTrigger place R).2)) := by
  obtain ⟨X, hE⟩ : ∃ z, mX5_isTrigger place R = z := ⟨_, rfl⟩
  rw [hE]
  refine zb_Z (cc := cX5_isTrigger) (maxL := 2) (by decide) rfl (Nat.le_of_ble_eq_true rfl) ?_
  intro p e s m args below meth c Q A F hret
  show zW p l e rmX5_isTrigger s m args below meth c 0 0 Q G.1 A 2 (zWR G R) [(0, .ref (G.2.2 6 0)), (1, .int place)] 0 []
  have k_0 : Int32.toInt 0 = 0 := by decide
  have k_1 : Int32.toInt 1 = 1 := by decide
  obtain ⟨⟨i36, i37⟩, ⟨i38, i39⟩, ⟨i40, i41⟩, ⟨i42, i43⟩, ⟨i44, i45⟩, hIR_b14, hIR_p15⟩ := id hIR
  unfold mX5_isTrigger at hE
  refine zi_aload_n (pc := 0) F dX5_isTrigger_0 0 rfl ?_
  refine zi_iload_n (pc := 1) F dX5_isTrigger_1 1 rfl ?_
  have hM4 := c_X5_isEntry l G place R (hIR)
  have pp5 := pp_X5_isEntry place R (hIR)
  obtain ⟨⟨r1, R2⟩, e3⟩ : ∃ z, mX5_isEntry place R = z := ⟨_, rfl⟩
  have hE := zbnd2_cut hE e3
  rw [e3] at hM4
  rw [e3] at pp5
  obtain ⟨hbr1, hIR2, q6, q7⟩ := pp5
  have hIR2 : zIR R2 := hIR2
  have q6 : Int32.toInt r1 = 0 ∨ (0 ≤ Int32.toInt place ∧ Int32.toInt place < Int32.toInt (R 12 0)) := q6
  have q7 : Int32.toInt (R2 12 0) = Int32.toInt (R 12 0) := q7
  obtain ⟨⟨i8, i9⟩, ⟨i10, i11⟩, ⟨i12, i13⟩, ⟨i14, i15⟩, ⟨i16, i17⟩, hIR2_b14, hIR2_p15⟩ := id hIR2
  refine zi_callVI (pc := 2) (rest := []) (ws' := zWR G R2) F hM4 (cwV 1 F.1.2.2.2.2 gX5_isTrigger_X5_isEntry rfl rfl rfl hd_X5_isEntry ⟨Nat.le_of_ble_eq_true rfl, Nat.le_of_ble_eq_true rfl⟩) 0 rfl rfl _ _ (zw_nil _) (zw_nil _).symm rfl rfl (Nat.le_of_ble_eq_true rfl) dX5_isTrigger_2 ⟨Nat.zero_le _, Nat.zero_le _⟩ ?_
  refine zi_if_eq (pc := 5) (tgt := 28) F dX5_isTrigger_5 (by decide) (fun c18 => ?_) (fun c18 => ?_)
  · have hE := zite_t hE c18
    have t19 := congrArg Int32.toInt c18
    refine zi_iconst (pc := 28) (v := 0) F dX5_isTrigger_28 rfl ?_
    subst hE
    exact hret _ _ dX5_isTrigger_29 (znb (Or.inl rfl))
  · have hE := zite_f hE c18
    have t20 := zt_ne c18
    refine zi_aload_n (pc := 8) F dX5_isTrigger_8 0 rfl ?_
    refine zi_get (pc := 9) (C := RX5) (T := TX5) (N := 27) (v := .ref (G.2.2 6 7)) F (hw_X5_isTrigger_X5) 0 rfl rfl 14 (by decide) (List.mem_of_getElem? (i := 1) rfl) rfl rfl dX5_isTrigger_9 ?_
    refine zi_aload_n (pc := 12) F dX5_isTrigger_12 0 rfl ?_
    refine zi_get (pc := 13) (C := RX5) (T := TX5) (N := 27) (v := .int (R2 12 0)) F (hw_X5_isTrigger_X5) 0 rfl rfl 12 (by decide) (List.mem_of_getElem? (i := 2) rfl) rfl rfl dX5_isTrigger_13 ?_
    refine zi_iconst (pc := 16) (v := 1) F dX5_isTrigger_16 rfl ?_
    refine zi_isub (pc := 17) F dX5_isTrigger_17 ?_
    refine zi_iload_n (pc := 18) F dX5_isTrigger_18 1 rfl ?_
    refine zi_isub (pc := 19) F dX5_isTrigger_19 ?_
    try have t21 := zt_sub (a := (R2 12 0)) (b := 1) (by omega) (by omega)
    try have t22 := zt_sub (a := ((R2 12 0) - 1)) (b := place) (by omega) (by omega)
    refine zi_zald (pc := 20) (v := (R2 14 (((R2 12 0) - 1) - place).toNatClampNeg)) F 7 1 rfl rfl (zin (a := (((R2 12 0) - 1) - place)) (by omega) (by omega)) rfl dX5_isTrigger_20 ?_
    refine zi_if_eq (pc := 21) (tgt := 28) F dX5_isTrigger_21 (by decide) (fun c23 => ?_) (fun c23 => ?_)
    · have hE := zite_t hE c23
      have t24 := congrArg Int32.toInt c23
      refine zi_iconst (pc := 28) (v := 0) F dX5_isTrigger_28 rfl ?_
      subst hE
      exact hret _ _ dX5_isTrigger_29 (znb (Or.inl rfl))
    · have hE := zite_f hE c23
      have t25 := zt_ne c23
      refine zi_iconst (pc := 24) (v := 1) F dX5_isTrigger_24 rfl ?_
      refine zi_goto (pc := 25) (tgt := 29) F dX5_isTrigger_25 (by decide) ?_
      subst hE
      exact hret _ _ dX5_isTrigger_29 (znb (Or.inr rfl))
/-! X5_entryPlayer -/
def mX5_entryPlayer (place : Int32) (R : zS_t) : Int32 × zS_t := zbnd2 (mX5_isEntry place R) (fun r1 R2 => if r1 = 0 then (0, R2) else ((R2 15 (((R2 12 0) - 1) - place).toNatClampNeg), R2))
set_option maxHeartbeats 4000000 in
set_option maxRecDepth 100000 in
theorem pp_X5_entryPlayer (place : Int32) (R : zS_t) (hIR : zIR R) : (zIR ((mX5_entryPlayer place R).2)) := by
  obtain ⟨X, hE⟩ : ∃ z, mX5_entryPlayer place R = z := ⟨_, rfl⟩
  rw [hE]
  have k_0 : Int32.toInt 0 = 0 := by decide
  have k_1 : Int32.toInt 1 = 1 := by decide
  obtain ⟨⟨i25, i26⟩, ⟨i27, i28⟩, ⟨i29, i30⟩, ⟨i31, i32⟩, ⟨i33, i34⟩, hIR_b14, hIR_p15⟩ := id hIR
  unfold mX5_entryPlayer at hE
  have pp5 := pp_X5_isEntry place R (hIR)
  obtain ⟨⟨r1, R2⟩, e3⟩ : ∃ z, mX5_isEntry place R = z := ⟨_, rfl⟩
  have hE := zbnd2_cut hE e3
  rw [e3] at pp5
  obtain ⟨hbr1, hIR2, q6, q7⟩ := pp5
  have hIR2 : zIR R2 := hIR2
  have q6 : Int32.toInt r1 = 0 ∨ (0 ≤ Int32.toInt place ∧ Int32.toInt place < Int32.toInt (R 12 0)) := q6
  have q7 : Int32.toInt (R2 12 0) = Int32.toInt (R 12 0) := q7
  obtain ⟨⟨i8, i9⟩, ⟨i10, i11⟩, ⟨i12, i13⟩, ⟨i14, i15⟩, ⟨i16, i17⟩, hIR2_b14, hIR2_p15⟩ := id hIR2
  by_cases c18 : r1 = 0
  · have hE := zite_t hE c18
    have t19 := congrArg Int32.toInt c18
    subst hE
    exact hIR2
  · have hE := zite_f hE c18
    have t20 := zt_ne c18
    try have t21 := zt_sub (a := (R2 12 0)) (b := 1) (by omega) (by omega)
    try have t22 := zt_sub (a := ((R2 12 0) - 1)) (b := place) (by omega) (by omega)
    obtain ⟨t23, t24⟩ := hIR2_p15 (((R2 12 0) - 1) - place).toNatClampNeg
    subst hE
    exact hIR2
theorem hw_X5_entryPlayer_X5 : ∀ w ∈ wsX50, w ∈ wsX5_entryPlayer := fun w h => List.mem_cons_of_mem _ (List.mem_append_right _ (h))
abbrev rmX5_entryPlayer : Room := { frames := 2, cells := 0, slots := 0, locals := 43 }
theorem hd_X5_entryPlayer : yX5_entryPlayer.cls = RX5 ∧ yX5_entryPlayer.cls ≠ "java/lang/invoke/MethodHandle" ∧ yX5_entryPlayer.cls ≠ "java/lang/invoke/VarHandle" ∧ (parseMethodDescriptor yX5_entryPlayer.desc).map (fun d => d.parameters.length) = some 1 := by decide +kernel
set_option maxHeartbeats 4000000 in
set_option maxRecDepth 100000 in
theorem c_X5_entryPlayer (l : Launch) (G : zG_t) (place : Int32) (R : zS_t) (hIR : zIR R) : zCI l G.1 (zty G) yX5_entryPlayer wsX5_entryPlayer rmX5_entryPlayer [.ref (G.2.2 6 0), .int place] (zWR G R) ((mX5_entryPlayer place R).1) (zWR G ((mX5_entryPlayer place R).2)) := by
  obtain ⟨X, hE⟩ : ∃ z, mX5_entryPlayer place R = z := ⟨_, rfl⟩
  rw [hE]
  refine zb_I (cc := cX5_entryPlayer) (maxL := 2) (by decide) rfl (Nat.le_of_ble_eq_true rfl) ?_
  intro p e s m args below meth c Q A F hret
  show zW p l e rmX5_entryPlayer s m args below meth c 0 0 Q G.1 A 2 (zWR G R) [(0, .ref (G.2.2 6 0)), (1, .int place)] 0 []
  have k_0 : Int32.toInt 0 = 0 := by decide
  have k_1 : Int32.toInt 1 = 1 := by decide
  obtain ⟨⟨i35, i36⟩, ⟨i37, i38⟩, ⟨i39, i40⟩, ⟨i41, i42⟩, ⟨i43, i44⟩, hIR_b14, hIR_p15⟩ := id hIR
  unfold mX5_entryPlayer at hE
  refine zi_aload_n (pc := 0) F dX5_entryPlayer_0 0 rfl ?_
  refine zi_iload_n (pc := 1) F dX5_entryPlayer_1 1 rfl ?_
  have hM4 := c_X5_isEntry l G place R (hIR)
  have pp5 := pp_X5_isEntry place R (hIR)
  obtain ⟨⟨r1, R2⟩, e3⟩ : ∃ z, mX5_isEntry place R = z := ⟨_, rfl⟩
  have hE := zbnd2_cut hE e3
  rw [e3] at hM4
  rw [e3] at pp5
  obtain ⟨hbr1, hIR2, q6, q7⟩ := pp5
  have hIR2 : zIR R2 := hIR2
  have q6 : Int32.toInt r1 = 0 ∨ (0 ≤ Int32.toInt place ∧ Int32.toInt place < Int32.toInt (R 12 0)) := q6
  have q7 : Int32.toInt (R2 12 0) = Int32.toInt (R 12 0) := q7
  obtain ⟨⟨i8, i9⟩, ⟨i10, i11⟩, ⟨i12, i13⟩, ⟨i14, i15⟩, ⟨i16, i17⟩, hIR2_b14, hIR2_p15⟩ := id hIR2
  refine zi_callVI (pc := 2) (rest := []) (ws' := zWR G R2) F hM4 (cwV 1 F.1.2.2.2.2 gX5_entryPlayer_X5_isEntry rfl rfl rfl hd_X5_isEntry ⟨Nat.le_of_ble_eq_true rfl, Nat.le_of_ble_eq_true rfl⟩) 0 rfl rfl _ _ (zw_nil _) (zw_nil _).symm rfl rfl (Nat.le_of_ble_eq_true rfl) dX5_entryPlayer_2 ⟨Nat.zero_le _, Nat.zero_le _⟩ ?_
  refine zi_if_eq (pc := 5) (tgt := 24) F dX5_entryPlayer_5 (by decide) (fun c18 => ?_) (fun c18 => ?_)
  · have hE := zite_t hE c18
    have t19 := congrArg Int32.toInt c18
    refine zi_iconst (pc := 24) (v := 0) F dX5_entryPlayer_24 rfl ?_
    subst hE
    exact hret _ _ dX5_entryPlayer_25
  · have hE := zite_f hE c18
    have t20 := zt_ne c18
    refine zi_aload_n (pc := 8) F dX5_entryPlayer_8 0 rfl ?_
    refine zi_get (pc := 9) (C := RX5) (T := TX5) (N := 27) (v := .ref (G.2.2 6 8)) F (hw_X5_entryPlayer_X5) 0 rfl rfl 15 (by decide) (List.mem_of_getElem? (i := 1) rfl) rfl rfl dX5_entryPlayer_9 ?_
    refine zi_aload_n (pc := 12) F dX5_entryPlayer_12 0 rfl ?_
    refine zi_get (pc := 13) (C := RX5) (T := TX5) (N := 27) (v := .int (R2 12 0)) F (hw_X5_entryPlayer_X5) 0 rfl rfl 12 (by decide) (List.mem_of_getElem? (i := 2) rfl) rfl rfl dX5_entryPlayer_13 ?_
    refine zi_iconst (pc := 16) (v := 1) F dX5_entryPlayer_16 rfl ?_
    refine zi_isub (pc := 17) F dX5_entryPlayer_17 ?_
    refine zi_iload_n (pc := 18) F dX5_entryPlayer_18 1 rfl ?_
    refine zi_isub (pc := 19) F dX5_entryPlayer_19 ?_
    try have t21 := zt_sub (a := (R2 12 0)) (b := 1) (by omega) (by omega)
    try have t22 := zt_sub (a := ((R2 12 0) - 1)) (b := place) (by omega) (by omega)
    obtain ⟨t23, t24⟩ := hIR2_p15 (((R2 12 0) - 1) - place).toNatClampNeg
    refine zi_iald (pc := 20) (v := (R2 15 (((R2 12 0) - 1) - place).toNatClampNeg)) F 8 0 rfl rfl (zin (a := (((R2 12 0) - 1) - place)) (by omega) (by omega)) rfl dX5_entryPlayer_20 ?_
    refine zi_goto (pc := 21) (tgt := 25) F dX5_entryPlayer_21 (by decide) ?_
    subst hE
    exact hret _ _ dX5_entryPlayer_25
/-! X5_entryTarget -/
def mX5_entryTarget (place : Int32) (R : zS_t) : Int32 × zS_t := zbnd2 (mX5_isEntry place R) (fun r1 R2 => if r1 = 0 then (0, R2) else (zbnd (mX5_targetOf (((R2 12 0) - 1) - place) R2) (fun r21 => (r21, R2))))
set_option maxHeartbeats 4000000 in
set_option maxRecDepth 100000 in
theorem pp_X5_entryTarget (place : Int32) (R : zS_t) (hIR : zIR R) : (zIR ((mX5_entryTarget place R).2)) := by
  obtain ⟨X, hE⟩ : ∃ z, mX5_entryTarget place R = z := ⟨_, rfl⟩
  rw [hE]
  have k_0 : Int32.toInt 0 = 0 := by decide
  have k_1 : Int32.toInt 1 = 1 := by decide
  obtain ⟨⟨i28, i29⟩, ⟨i30, i31⟩, ⟨i32, i33⟩, ⟨i34, i35⟩, ⟨i36, i37⟩, hIR_b14, hIR_p15⟩ := id hIR
  unfold mX5_entryTarget at hE
  have pp5 := pp_X5_isEntry place R (hIR)
  obtain ⟨⟨r1, R2⟩, e3⟩ : ∃ z, mX5_isEntry place R = z := ⟨_, rfl⟩
  have hE := zbnd2_cut hE e3
  rw [e3] at pp5
  obtain ⟨hbr1, hIR2, q6, q7⟩ := pp5
  have hIR2 : zIR R2 := hIR2
  have q6 : Int32.toInt r1 = 0 ∨ (0 ≤ Int32.toInt place ∧ Int32.toInt place < Int32.toInt (R 12 0)) := q6
  have q7 : Int32.toInt (R2 12 0) = Int32.toInt (R 12 0) := q7
  obtain ⟨⟨i8, i9⟩, ⟨i10, i11⟩, ⟨i12, i13⟩, ⟨i14, i15⟩, ⟨i16, i17⟩, hIR2_b14, hIR2_p15⟩ := id hIR2
  by_cases c18 : r1 = 0
  · have hE := zite_t hE c18
    have t19 := congrArg Int32.toInt c18
    subst hE
    exact hIR2
  · have hE := zite_f hE c18
    have t20 := zt_ne c18
    try have t22 := zt_sub (a := (R2 12 0)) (b := 1) (by omega) (by omega)
    try have t23 := zt_sub (a := ((R2 12 0) - 1)) (b := place) (by omega) (by omega)
    try have t24 := zt_sub (a := (R2 12 0)) (b := 1) (by omega) (by omega)
    try have t25 := zt_sub (a := ((R2 12 0) - 1)) (b := place) (by omega) (by omega)
    obtain ⟨r21, e26⟩ : ∃ z, mX5_targetOf (((R2 12 0) - 1) - place) R2 = z := ⟨_, rfl⟩
    have hE := zbnd_cut hE e26
    subst hE
    exact hIR2
theorem hw_X5_entryTarget_X5 : ∀ w ∈ wsX50, w ∈ wsX5_entryTarget := fun w h => List.mem_cons_of_mem _ (List.mem_append_right _ (h))
abbrev rmX5_entryTarget : Room := { frames := 2, cells := 0, slots := 0, locals := 45 }
theorem hd_X5_entryTarget : yX5_entryTarget.cls = RX5 ∧ yX5_entryTarget.cls ≠ "java/lang/invoke/MethodHandle" ∧ yX5_entryTarget.cls ≠ "java/lang/invoke/VarHandle" ∧ (parseMethodDescriptor yX5_entryTarget.desc).map (fun d => d.parameters.length) = some 1 := by decide +kernel
set_option maxHeartbeats 4000000 in
set_option maxRecDepth 100000 in
theorem c_X5_entryTarget (l : Launch) (G : zG_t) (place : Int32) (R : zS_t) (hIR : zIR R) : zCI l G.1 (zty G) yX5_entryTarget wsX5_entryTarget rmX5_entryTarget [.ref (G.2.2 6 0), .int place] (zWR G R) ((mX5_entryTarget place R).1) (zWR G ((mX5_entryTarget place R).2)) := by
  obtain ⟨X, hE⟩ : ∃ z, mX5_entryTarget place R = z := ⟨_, rfl⟩
  rw [hE]
  refine zb_I (cc := cX5_entryTarget) (maxL := 2) (by decide) rfl (Nat.le_of_ble_eq_true rfl) ?_
  intro p e s m args below meth c Q A F hret
  show zW p l e rmX5_entryTarget s m args below meth c 0 0 Q G.1 A 2 (zWR G R) [(0, .ref (G.2.2 6 0)), (1, .int place)] 0 []
  have k_0 : Int32.toInt 0 = 0 := by decide
  have k_1 : Int32.toInt 1 = 1 := by decide
  obtain ⟨⟨i38, i39⟩, ⟨i40, i41⟩, ⟨i42, i43⟩, ⟨i44, i45⟩, ⟨i46, i47⟩, hIR_b14, hIR_p15⟩ := id hIR
  unfold mX5_entryTarget at hE
  refine zi_aload_n (pc := 0) F dX5_entryTarget_0 0 rfl ?_
  refine zi_iload_n (pc := 1) F dX5_entryTarget_1 1 rfl ?_
  have hM4 := c_X5_isEntry l G place R (hIR)
  have pp5 := pp_X5_isEntry place R (hIR)
  obtain ⟨⟨r1, R2⟩, e3⟩ : ∃ z, mX5_isEntry place R = z := ⟨_, rfl⟩
  have hE := zbnd2_cut hE e3
  rw [e3] at hM4
  rw [e3] at pp5
  obtain ⟨hbr1, hIR2, q6, q7⟩ := pp5
  have hIR2 : zIR R2 := hIR2
  have q6 : Int32.toInt r1 = 0 ∨ (0 ≤ Int32.toInt place ∧ Int32.toInt place < Int32.toInt (R 12 0)) := q6
  have q7 : Int32.toInt (R2 12 0) = Int32.toInt (R 12 0) := q7
  obtain ⟨⟨i8, i9⟩, ⟨i10, i11⟩, ⟨i12, i13⟩, ⟨i14, i15⟩, ⟨i16, i17⟩, hIR2_b14, hIR2_p15⟩ := id hIR2
  refine zi_callVI (pc := 2) (rest := []) (ws' := zWR G R2) F hM4 (cwV 1 F.1.2.2.2.2 gX5_entryTarget_X5_isEntry rfl rfl rfl hd_X5_isEntry ⟨Nat.le_of_ble_eq_true rfl, Nat.le_of_ble_eq_true rfl⟩) 0 rfl rfl _ _ (zw_nil _) (zw_nil _).symm rfl rfl (Nat.le_of_ble_eq_true rfl) dX5_entryTarget_2 ⟨Nat.zero_le _, Nat.zero_le _⟩ ?_
  refine zi_if_eq (pc := 5) (tgt := 23) F dX5_entryTarget_5 (by decide) (fun c18 => ?_) (fun c18 => ?_)
  · have hE := zite_t hE c18
    have t19 := congrArg Int32.toInt c18
    refine zi_iconst (pc := 23) (v := 0) F dX5_entryTarget_23 rfl ?_
    subst hE
    exact hret _ _ dX5_entryTarget_24
  · have hE := zite_f hE c18
    have t20 := zt_ne c18
    refine zi_aload_n (pc := 8) F dX5_entryTarget_8 0 rfl ?_
    refine zi_aload_n (pc := 9) F dX5_entryTarget_9 0 rfl ?_
    refine zi_get (pc := 10) (C := RX5) (T := TX5) (N := 27) (v := .int (R2 12 0)) F (hw_X5_entryTarget_X5) 0 rfl rfl 12 (by decide) (List.mem_of_getElem? (i := 1) rfl) rfl rfl dX5_entryTarget_10 ?_
    refine zi_iconst (pc := 13) (v := 1) F dX5_entryTarget_13 rfl ?_
    refine zi_isub (pc := 14) F dX5_entryTarget_14 ?_
    refine zi_iload_n (pc := 15) F dX5_entryTarget_15 1 rfl ?_
    refine zi_isub (pc := 16) F dX5_entryTarget_16 ?_
    try have t22 := zt_sub (a := (R2 12 0)) (b := 1) (by omega) (by omega)
    try have t23 := zt_sub (a := ((R2 12 0) - 1)) (b := place) (by omega) (by omega)
    try have t24 := zt_sub (a := (R2 12 0)) (b := 1) (by omega) (by omega)
    try have t25 := zt_sub (a := ((R2 12 0) - 1)) (b := place) (by omega) (by omega)
    have hM27 := c_X5_targetOf l G (((R2 12 0) - 1) - place) R2 (hIR2) (by first | omega | (show 0 ≤ Int32.toInt (((R2 12 0) - 1) - place) ∧ Int32.toInt (((R2 12 0) - 1) - place) < 12; omega))
    obtain ⟨r21, e26⟩ : ∃ z, mX5_targetOf (((R2 12 0) - 1) - place) R2 = z := ⟨_, rfl⟩
    have hE := zbnd_cut hE e26
    rw [e26] at hM27
    refine zi_callVI (pc := 17) (rest := []) (ws' := zWR G R2) F hM27 (cwV 1 F.1.2.2.2.2 gX5_entryTarget_X5_targetOf rfl rfl rfl hd_X5_targetOf ⟨Nat.le_of_ble_eq_true rfl, Nat.le_of_ble_eq_true rfl⟩) 0 rfl rfl _ _ (zw_nil _) (zw_nil _).symm rfl rfl (Nat.le_of_ble_eq_true rfl) dX5_entryTarget_17 ⟨Nat.zero_le _, Nat.zero_le _⟩ ?_
    refine zi_goto (pc := 20) (tgt := 24) F dX5_entryTarget_20 (by decide) ?_
    subst hE
    exact hret _ _ dX5_entryTarget_24
