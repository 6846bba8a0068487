/-! X4_newId -/
def mX4_newId  (L : zS_t) : Int32 × zS_t := zbnd ((L 10 0)) (fun y1 => (y1, (zsI L 10 ((L 10 0) + 1))))
theorem hw_X4_newId_X4 : ∀ w ∈ wsX40, w ∈ wsX4_newId := fun w h => List.mem_cons_of_mem _ (List.mem_append_right _ (h))
abbrev rmX4_newId : Room := { frames := 0, cells := 0, slots := 0, locals := 0 }
theorem hd_X4_newId : yX4_newId.cls = RX4 ∧ yX4_newId.cls ≠ "java/lang/invoke/MethodHandle" ∧ yX4_newId.cls ≠ "java/lang/invoke/VarHandle" ∧ (parseMethodDescriptor yX4_newId.desc).map (fun d => d.parameters.length) = some 0 := by decide +kernel
set_option maxHeartbeats 4000000 in
set_option maxRecDepth 100000 in
theorem c_X4_newId (l : Launch) (G : zG_t)  (L : zS_t) (T : zS_t) (E : zS_t) (V : zS_t) (M : zS_t) (K : zS_t)  : zCI l G.1 (zty G) yX4_newId wsX4_newId rmX4_newId [.ref (G.2.2 0 0)] (zWL G L T E V M K) ((mX4_newId L).1) (zWL G ((mX4_newId L).2) T E V M K) := by
  obtain ⟨X, hE⟩ : ∃ z, mX4_newId L = z := ⟨_, rfl⟩
  rw [hE]
  refine zb_I (cc := cX4_newId) (maxL := 2) (by decide) rfl (Nat.le_of_ble_eq_true rfl) ?_
  intro p e s m args below meth c Q A F hret
  show zW p l e rmX4_newId s m args below meth c 0 0 Q G.1 A 2 (zWL G L T E V M K) [(0, .ref (G.2.2 0 0))] 0 []
  have k_0 : Int32.toInt 0 = 0 := by decide
  have k_1 : Int32.toInt 1 = 1 := by decide
  unfold mX4_newId at hE
  refine zi_aload_n (pc := 0) F dX4_newId_0 0 rfl ?_
  refine zi_get (pc := 1) (C := RX4) (T := TX4) (N := 11) (v := .int (L 10 0)) F (hw_X4_newId_X4) 0 rfl rfl 10 (by decide) (List.mem_of_getElem? (i := 1) rfl) rfl rfl dX4_newId_1 ?_
  refine zi_topi (fun y1 e2 => ?_)
  have hE := zbnd_cut hE e2
  have t3 := congrArg Int32.toInt e2
  refine zi_istore_n (pc := 4) (lv' := [(0, .ref (G.2.2 0 0)), (1, .int y1)]) F dX4_newId_4 (by decide) rfl ?_
  refine zi_aload_n (pc := 5) F dX4_newId_5 0 rfl ?_
  refine zi_dup (pc := 6) F dX4_newId_6 rfl ?_
  refine zi_get (pc := 7) (C := RX4) (T := TX4) (N := 11) (v := .int (L 10 0)) F (hw_X4_newId_X4) 0 rfl rfl 10 (by decide) (List.mem_of_getElem? (i := 1) rfl) rfl rfl dX4_newId_7 ?_
  refine zi_iconst (pc := 10) (v := 1) F dX4_newId_10 rfl ?_
  refine zi_iadd (pc := 11) F dX4_newId_11 ?_
  refine zi_put (pc := 12) (C := RX4) (T := TX4) (N := 11) (ty := .int) (ws' := zWL G (zsI L 10 ((L 10 0) + 1)) T E V M K) F (hw_X4_newId_X4) tyX4 tyX4_ok nmX4 0 rfl rfl 10 (by decide) (List.mem_of_getElem? (i := 1) rfl) rfl rfl rfl rfl rfl (Nat.le_of_ble_eq_true rfl) rfl dX4_newId_12 ?_
  refine zi_iload_n (pc := 15) F dX4_newId_15 1 rfl ?_
  subst hE
  exact hret _ _ dX4_newId_16
/-! X4_coinsOf -/
def mX4_coinsOf (player : Int32) (L : zS_t) : Int32 := if player < 0 then 0 else (if 3 ≤ player then 0 else (L 0 player.toNatClampNeg))
theorem hw_X4_coinsOf_X4 : ∀ w ∈ wsX40, w ∈ wsX4_coinsOf := fun w h => List.mem_cons_of_mem _ (List.mem_append_right _ (h))
abbrev rmX4_coinsOf : Room := { frames := 0, cells := 0, slots := 0, locals := 0 }
theorem hd_X4_coinsOf : yX4_coinsOf.cls = RX4 ∧ yX4_coinsOf.cls ≠ "java/lang/invoke/MethodHandle" ∧ yX4_coinsOf.cls ≠ "java/lang/invoke/VarHandle" ∧ (parseMethodDescriptor yX4_coinsOf.desc).map (fun d => d.parameters.length) = some 1 := by decide +kernel
set_option maxHeartbeats 4000000 in
set_option maxRecDepth 100000 in
theorem c_X4_coinsOf (l : Launch) (G : zG_t) (player : Int32) (L : zS_t) (T : zS_t) (E : zS_t) (V : zS_t) (M : zS_t) (K : zS_t)  : zCI l G.1 (zty G) yX4_coinsOf wsX4_coinsOf rmX4_coinsOf [.ref (G.2.2 0 0), .int player] (zWL G L T E V M K) ((mX4_coinsOf player L)) (zWL G L T E V M K) := by
  obtain ⟨X, hE⟩ : ∃ z, mX4_coinsOf player L = z := ⟨_, rfl⟩
  rw [hE]
  refine zb_I (cc := cX4_coinsOf) (maxL := 2) (by decide) rfl (Nat.le_of_ble_eq_true rfl) ?_
  intro p e s m args below meth c Q A F hret
  show zW p l e rmX4_coinsOf s m args below meth c 0 0 Q G.1 A 2 (zWL G L T E V M K) [(0, .ref (G.2.2 0 0)), (1, .int player)] 0 []
  have k_0 : Int32.toInt 0 = 0 := by decide
  have k_1 : Int32.toInt 1 = 1 := by decide
  have k_3 : Int32.toInt 3 = 3 := by decide
  unfold mX4_coinsOf at hE
  refine zi_iload_n (pc := 0) F dX4_coinsOf_0 1 rfl ?_
  refine zi_if_lt (pc := 1) (tgt := 18) F dX4_coinsOf_1 (by decide) (fun c1 => ?_) (fun c1 => ?_)
  · have hE := zite_t hE c1
    have t2 := zt_lt c1
    refine zi_iconst (pc := 18) (v := 0) F dX4_coinsOf_18 rfl ?_
    subst hE
    exact hret _ _ dX4_coinsOf_19
  · have hE := zite_f hE c1
    have t3 := zt_nlt c1
    refine zi_iload_n (pc := 4) F dX4_coinsOf_4 1 rfl ?_
    refine zi_iconst (pc := 5) (v := 3) F dX4_coinsOf_5 rfl ?_
    refine zi_icmp_ge (pc := 6) (tgt := 18) F dX4_coinsOf_6 (by decide) (fun c4 => ?_) (fun c4 => ?_)
    · have hE := zite_t hE c4
      have t5 := zt_le c4
      refine zi_iconst (pc := 18) (v := 0) F dX4_coinsOf_18 rfl ?_
      subst hE
      exact hret _ _ dX4_coinsOf_19
    · have hE := zite_f hE c4
      have t6 := zt_nle c4
      refine zi_aload_n (pc := 9) F dX4_coinsOf_9 0 rfl ?_
      refine zi_get (pc := 10) (C := RX4) (T := TX4) (N := 11) (v := .ref (G.2.2 0 1)) F (hw_X4_coinsOf_X4) 0 rfl rfl 0 (by decide) (List.mem_of_getElem? (i := 1) rfl) rfl rfl dX4_coinsOf_10 ?_
      refine zi_iload_n (pc := 13) F dX4_coinsOf_13 1 rfl ?_
      refine zi_iald (pc := 14) (v := (L 0 player.toNatClampNeg)) F 1 0 rfl rfl (zin (a := player) (by omega) (by omega)) rfl dX4_coinsOf_14 ?_
      refine zi_goto (pc := 15) (tgt := 19) F dX4_coinsOf_15 (by decide) ?_
      subst hE
      exact hret _ _ dX4_coinsOf_19
/-! X4_pay -/
def mX4_pay (player : Int32) (amount : Int32) (L : zS_t) : zS_t := if player < 0 then L else (if 3 ≤ player then L else (zsF L 0 (upd (L 0) player.toNatClampNeg ((L 0 player.toNatClampNeg) + amount))))
theorem hw_X4_pay_X4 : ∀ w ∈ wsX40, w ∈ wsX4_pay := fun w h => List.mem_cons_of_mem _ (List.mem_append_right _ (h))
abbrev rmX4_pay : Room := { frames := 0, cells := 0, slots := 0, locals := 0 }
theorem hd_X4_pay : yX4_pay.cls = RX4 ∧ yX4_pay.cls ≠ "java/lang/invoke/MethodHandle" ∧ yX4_pay.cls ≠ "java/lang/invoke/VarHandle" ∧ (parseMethodDescriptor yX4_pay.desc).map (fun d => d.parameters.length) = some 2 := by decide +kernel
set_option maxHeartbeats 4000000 in
set_option maxRecDepth 100000 in
theorem c_X4_pay (l : Launch) (G : zG_t) (player : Int32) (amount : Int32) (L : zS_t) (T : zS_t) (E : zS_t) (V : zS_t) (M : zS_t) (K : zS_t)  : zCV l G.1 (zty G) yX4_pay wsX4_pay rmX4_pay [.ref (G.2.2 0 0), .int player, .int amount] (zWL G L T E V M K) (zWL G (mX4_pay player amount L) T E V M K) := by
  obtain ⟨X, hE⟩ : ∃ z, mX4_pay player amount L = z := ⟨_, rfl⟩
  rw [hE]
  refine zb_V (cc := cX4_pay) (maxL := 3) (by decide) rfl (Nat.le_of_ble_eq_true rfl) ?_
  intro p e s m args below meth c Q A F hret
  show zW p l e rmX4_pay s m args below meth c 0 0 Q G.1 A 3 (zWL G L T E V M K) [(0, .ref (G.2.2 0 0)), (1, .int player), (2, .int amount)] 0 []
  have k_0 : Int32.toInt 0 = 0 := by decide
  have k_1 : Int32.toInt 1 = 1 := by decide
  have k_3 : Int32.toInt 3 = 3 := by decide
  unfold mX4_pay at hE
  refine zi_iload_n (pc := 0) F dX4_pay_0 1 rfl ?_
  refine zi_if_lt (pc := 1) (tgt := 19) F dX4_pay_1 (by decide) (fun c1 => ?_) (fun c1 => ?_)
  · have hE := zite_t hE c1
    have t2 := zt_lt c1
    subst hE
    exact hret _ _ dX4_pay_19
  · have hE := zite_f hE c1
    have t3 := zt_nlt c1
    refine zi_iload_n (pc := 4) F dX4_pay_4 1 rfl ?_
    refine zi_iconst (pc := 5) (v := 3) F dX4_pay_5 rfl ?_
    refine zi_icmp_ge (pc := 6) (tgt := 19) F dX4_pay_6 (by decide) (fun c4 => ?_) (fun c4 => ?_)
    · have hE := zite_t hE c4
      have t5 := zt_le c4
      subst hE
      exact hret _ _ dX4_pay_19
    · have hE := zite_f hE c4
      have t6 := zt_nle c4
      refine zi_aload_n (pc := 9) F dX4_pay_9 0 rfl ?_
      refine zi_get (pc := 10) (C := RX4) (T := TX4) (N := 11) (v := .ref (G.2.2 0 1)) F (hw_X4_pay_X4) 0 rfl rfl 0 (by decide) (List.mem_of_getElem? (i := 1) rfl) rfl rfl dX4_pay_10 ?_
      refine zi_iload_n (pc := 13) F dX4_pay_13 1 rfl ?_
      refine zi_dup2 (pc := 14) F dX4_pay_14 rfl rfl ?_
      refine zi_iald (pc := 15) (v := (L 0 player.toNatClampNeg)) F 1 0 rfl rfl (zin (a := player) (by omega) (by omega)) rfl dX4_pay_15 ?_
      refine zi_iload_n (pc := 16) F dX4_pay_16 2 rfl ?_
      refine zi_iadd (pc := 17) F dX4_pay_17 ?_
      refine zi_iast (pc := 18) (ws' := zWL G (zsF L 0 (upd (L 0) player.toNatClampNeg ((L 0 player.toNatClampNeg) + amount))) T E V M K) F 1 0 rfl rfl (zin (a := player) (by omega) (by omega)) rfl dX4_pay_18 ?_
      subst hE
      exact hret _ _ dX4_pay_19
/-! X4_hasTarget -/
def mX4_hasTarget (card : Int32) (target : Int32) (T : zS_t) (E : zS_t) : Int32 := if card = 7 then (zbnd (mX2_has target T) (fun r3 => r3)) else (if card = 12 then (zbnd (mX2_has target T) (fun r33 => r33)) else (if card = 13 then (zbnd (mX0_has target E) (fun r15 => if r15 = 0 then 0 else (zbnd (mX0_indexOf target E) (fun r24 => if (E 1 r24.toNatClampNeg) = 0 then 1 else 0)))) else 1))
set_option maxHeartbeats 4000000 in
set_option maxRecDepth 100000 in
theorem pp_X4_hasTarget (card : Int32) (target : Int32) (T : zS_t) (E : zS_t) (hIE : zIE E) : ((mX4_hasTarget card target T E) = 0 ∨ (mX4_hasTarget card target T E) = 1) := by
  obtain ⟨X, hE⟩ : ∃ z, mX4_hasTarget card target T E = z := ⟨_, rfl⟩
  rw [hE]
  have k_0 : Int32.toInt 0 = 0 := by decide
  have k_1 : Int32.toInt 1 = 1 := by decide
  have k_7 : Int32.toInt 7 = 7 := by decide
  have k_12 : Int32.toInt 12 = 12 := by decide
  have k_13 : Int32.toInt 13 = 13 := by decide
  obtain ⟨⟨i39, i40⟩, hIE_b1⟩ := id hIE
  unfold mX4_hasTarget at hE
  by_cases c1 : card = 7
  · have hE := zite_t hE c1
    have t2 := congrArg Int32.toInt c1
    have pp6 := pp_X2_has target T 
    obtain ⟨r3, e4⟩ : ∃ z, mX2_has target T = z := ⟨_, rfl⟩
    have hE := zbnd_cut hE e4
    rw [e4] at pp6
    obtain ⟨hbr3, q7, q8⟩ := pp6
    subst hE
    exact hbr3
  · have hE := zite_f hE c1
    have t9 := zt_ne c1
    by_cases c10 : card = 12
    · have hE := zite_t hE c10
      have t11 := congrArg Int32.toInt c10
      have pp15 := pp_X2_has target T 
      obtain ⟨r12, e13⟩ : ∃ z, mX2_has target T = z := ⟨_, rfl⟩
      have hE := zbnd_cut hE e13
      rw [e13] at pp15
      obtain ⟨hbr12, q16, q17⟩ := pp15
      subst hE
      exact hbr12
    · have hE := zite_f hE c10
      have t18 := zt_ne c10
      by_cases c19 : card = 13
      · have hE := zite_t hE c19
        have t20 := congrArg Int32.toInt c19
        have pp24 := pp_X0_has target E 
        obtain ⟨r21, e22⟩ : ∃ z, mX0_has target E = z := ⟨_, rfl⟩
        have hE := zbnd_cut hE e22
        rw [e22] at pp24
        obtain ⟨hbr21, q25, q26⟩ := pp24
        by_cases c27 : r21 = 0
        · have hE := zite_t hE c27
          have t28 := congrArg Int32.toInt c27
          subst hE
          exact Or.inl rfl
        · have hE := zite_f hE c27
          have t29 := zt_ne c27
          have pp33 := pp_X0_indexOf target E (hIE)
          obtain ⟨r30, e31⟩ : ∃ z, mX0_indexOf target E = z := ⟨_, rfl⟩
          have hE := zbnd_cut hE e31
          rw [e31] at pp33
          have q34 := pp33
          by_cases c35 : (E 1 r30.toNatClampNeg) = 0
          · have hE := zite_t hE c35
            have t36 := congrArg Int32.toInt c35
            subst hE
            exact Or.inr rfl
          · have hE := zite_f hE c35
            have t37 := zt_ne c35
            subst hE
            exact Or.inl rfl
      · have hE := zite_f hE c19
        have t38 := zt_ne c19
        subst hE
        exact Or.inr rfl
theorem hw_X4_hasTarget_X0 : ∀ w ∈ wsX00, w ∈ wsX4_hasTarget := fun w h => List.mem_cons_of_mem _ (List.mem_append_left _ (List.mem_append_right _ (h)))
theorem hw_X4_hasTarget_X4 : ∀ w ∈ wsX40, w ∈ wsX4_hasTarget := fun w h => List.mem_cons_of_mem _ (List.mem_append_left _ (List.mem_append_left _ (List.mem_append_right _ (h))))
abbrev rmX4_hasTarget : Room := { frames := 2, cells := 0, slots := 0, locals := 42 }
theorem hd_X4_hasTarget : yX4_hasTarget.cls = RX4 ∧ yX4_hasTarget.cls ≠ "java/lang/invoke/MethodHandle" ∧ yX4_hasTarget.cls ≠ "java/lang/invoke/VarHandle" ∧ (parseMethodDescriptor yX4_hasTarget.desc).map (fun d => d.parameters.length) = some 2 := by decide +kernel
set_option maxHeartbeats 4000000 in
set_option maxRecDepth 100000 in
theorem c_X4_hasTarget (l : Launch) (G : zG_t) (card : Int32) (target : Int32) (L : zS_t) (T : zS_t) (E : zS_t) (V : zS_t) (M : zS_t) (K : zS_t) (hIE : zIE E) : zCI l G.1 (zty G) yX4_hasTarget wsX4_hasTarget rmX4_hasTarget [.ref (G.2.2 0 0), .int card, .int target] (zWL G L T E V M K) ((mX4_hasTarget card target T E)) (zWL G L T E V M K) := by
  obtain ⟨X, hE⟩ : ∃ z, mX4_hasTarget card target T E = z := ⟨_, rfl⟩
  rw [hE]
  refine zb_Z (cc := cX4_hasTarget) (maxL := 3) (by decide) rfl (Nat.le_of_ble_eq_true rfl) ?_
  intro p e s m args below meth c Q A F hret
  show zW p l e rmX4_hasTarget s m args below meth c 0 0 Q G.1 A 3 (zWL G L T E V M K) [(0, .ref (G.2.2 0 0)), (1, .int card), (2, .int target)] 0 []
  have k_0 : Int32.toInt 0 = 0 := by decide
  have k_1 : Int32.toInt 1 = 1 := by decide
  have k_7 : Int32.toInt 7 = 7 := by decide
  have k_12 : Int32.toInt 12 = 12 := by decide
  have k_13 : Int32.toInt 13 = 13 := by decide
  obtain ⟨⟨i41, i42⟩, hIE_b1⟩ := id hIE
  unfold mX4_hasTarget at hE
  refine zi_iload_n (pc := 0) F dX4_hasTarget_0 1 rfl ?_
  refine zi_bipush (pc := 1) (v := 7) F dX4_hasTarget_1 rfl ?_
  refine zi_icmp_eq (pc := 3) (tgt := 12) F dX4_hasTarget_3 (by decide) (fun c1 => ?_) (fun c1 => ?_)
  · have hE := zite_t hE c1
    have t2 := congrArg Int32.toInt c1
    refine zi_aload_n (pc := 12) F dX4_hasTarget_12 0 rfl ?_
    refine zi_get (pc := 13) (C := RX4) (T := TX4) (N := 11) (v := .ref (G.2.2 1 0)) F (hw_X4_hasTarget_X4) 0 rfl rfl 1 (by decide) (List.mem_of_getElem? (i := 1) rfl) rfl rfl dX4_hasTarget_13 ?_
    refine zi_iload_n (pc := 16) F dX4_hasTarget_16 2 rfl ?_
    have hM5 := c_X2_has l G target T 
    have pp6 := pp_X2_has target T 
    obtain ⟨r3, e4⟩ : ∃ z, mX2_has target T = z := ⟨_, rfl⟩
    have hE := zbnd_cut hE e4
    rw [e4] at hM5
    rw [e4] at pp6
    obtain ⟨hbr3, q7, q8⟩ := pp6
    refine zi_callVI (pc := 17) (rest := []) (ws' := zWL G L T E V M K) F hM5 (cwV 1 F.1.2.2.2.2 gX4_hasTarget_X2_has rfl rfl rfl hd_X2_has ⟨Nat.le_of_ble_eq_true rfl, Nat.le_of_ble_eq_true rfl⟩) 0 rfl rfl _ _ (zwL_T G L T E V M K) (zwL_T G L T E V M K).symm rfl rfl (Nat.le_of_ble_eq_true rfl) dX4_hasTarget_17 ⟨Nat.zero_le _, Nat.zero_le _⟩ ?_
    subst hE
    exact hret _ _ dX4_hasTarget_20 (znb hbr3)
  · have hE := zite_f hE c1
    have t9 := zt_ne c1
    refine zi_iload_n (pc := 6) F dX4_hasTarget_6 1 rfl ?_
    refine zi_bipush (pc := 7) (v := 12) F dX4_hasTarget_7 rfl ?_
    refine zi_icmp_ne (pc := 9) (tgt := 21) F dX4_hasTarget_9 (by decide) (fun c10 => ?_) (fun c10 => ?_)
    · have hE := zite_f hE c10
      have t11 := zt_ne c10
      refine zi_iload_n (pc := 21) F dX4_hasTarget_21 1 rfl ?_
      refine zi_bipush (pc := 22) (v := 13) F dX4_hasTarget_22 rfl ?_
      refine zi_icmp_ne (pc := 24) (tgt := 63) F dX4_hasTarget_24 (by decide) (fun c12 => ?_) (fun c12 => ?_)
      · have hE := zite_f hE c12
        have t13 := zt_ne c12
        refine zi_iconst (pc := 63) (v := 1) F dX4_hasTarget_63 rfl ?_
        subst hE
        exact hret _ _ dX4_hasTarget_64 (znb (Or.inr rfl))
      · have hE := zite_t hE c12
        have t14 := congrArg Int32.toInt c12
        refine zi_aload_n (pc := 27) F dX4_hasTarget_27 0 rfl ?_
        refine zi_get (pc := 28) (C := RX4) (T := TX4) (N := 11) (v := .ref (G.2.2 2 0)) F (hw_X4_hasTarget_X4) 0 rfl rfl 2 (by decide) (List.mem_of_getElem? (i := 2) rfl) rfl rfl dX4_hasTarget_28 ?_
        refine zi_iload_n (pc := 31) F dX4_hasTarget_31 2 rfl ?_
        have hM17 := c_X0_has l G target E 
        have pp18 := pp_X0_has target E 
        obtain ⟨r15, e16⟩ : ∃ z, mX0_has target E = z := ⟨_, rfl⟩
        have hE := zbnd_cut hE e16
        rw [e16] at hM17
        rw [e16] at pp18
        obtain ⟨hbr15, q19, q20⟩ := pp18
        refine zi_callVI (pc := 32) (rest := []) (ws' := zWL G L T E V M K) F hM17 (cwV 1 F.1.2.2.2.2 gX4_hasTarget_X0_has rfl rfl rfl hd_X0_has ⟨Nat.le_of_ble_eq_true rfl, Nat.le_of_ble_eq_true rfl⟩) 0 rfl rfl _ _ (zwL_E G L T E V M K) (zwL_E G L T E V M K).symm rfl rfl (Nat.le_of_ble_eq_true rfl) dX4_hasTarget_32 ⟨Nat.zero_le _, Nat.zero_le _⟩ ?_
        refine zi_if_eq (pc := 35) (tgt := 61) F dX4_hasTarget_35 (by decide) (fun c21 => ?_) (fun c21 => ?_)
        · have hE := zite_t hE c21
          have t22 := congrArg Int32.toInt c21
          refine zi_iconst (pc := 61) (v := 0) F dX4_hasTarget_61 rfl ?_
          subst hE
          exact hret _ _ dX4_hasTarget_62 (znb (Or.inl rfl))
        · have hE := zite_f hE c21
          have t23 := zt_ne c21
          refine zi_aload_n (pc := 38) F dX4_hasTarget_38 0 rfl ?_
          refine zi_get (pc := 39) (C := RX4) (T := TX4) (N := 11) (v := .ref (G.2.2 2 0)) F (hw_X4_hasTarget_X4) 0 rfl rfl 2 (by decide) (List.mem_of_getElem? (i := 2) rfl) rfl rfl dX4_hasTarget_39 ?_
          refine zi_get (pc := 42) (C := RX0) (T := TX0) (N := 6) (v := .ref (G.2.2 2 2)) F (hw_X4_hasTarget_X0) 2 rfl rfl 1 (by decide) (List.mem_of_getElem? (i := 3) rfl) rfl rfl dX4_hasTarget_42 ?_
          refine zi_aload_n (pc := 45) F dX4_hasTarget_45 0 rfl ?_
          refine zi_get (pc := 46) (C := RX4) (T := TX4) (N := 11) (v := .ref (G.2.2 2 0)) F (hw_X4_hasTarget_X4) 0 rfl rfl 2 (by decide) (List.mem_of_getElem? (i := 2) rfl) rfl rfl dX4_hasTarget_46 ?_
          refine zi_iload_n (pc := 49) F dX4_hasTarget_49 2 rfl ?_
          have hM26 := c_X0_indexOf l G target E (hIE)
          have pp27 := pp_X0_indexOf target E (hIE)
          obtain ⟨r24, e25⟩ : ∃ z, mX0_indexOf target E = z := ⟨_, rfl⟩
          have hE := zbnd_cut hE e25
          rw [e25] at hM26
          rw [e25] at pp27
          have q28 := pp27
          refine zi_callVI (pc := 50) (rest := [.ref (G.2.2 2 2)]) (ws' := zWL G L T E V M K) F hM26 (cwV 1 F.1.2.2.2.2 gX4_hasTarget_X0_indexOf rfl rfl rfl hd_X0_indexOf ⟨Nat.le_of_ble_eq_true rfl, Nat.le_of_ble_eq_true rfl⟩) 0 rfl rfl _ _ (zwL_E G L T E V M K) (zwL_E G L T E V M K).symm rfl rfl (Nat.le_of_ble_eq_true rfl) dX4_hasTarget_50 ⟨Nat.zero_le _, Nat.zero_le _⟩ ?_
          refine zi_zald (pc := 53) (v := (E 1 r24.toNatClampNeg)) F 4 1 rfl rfl (zin (a := r24) (by omega) (by omega)) rfl dX4_hasTarget_53 ?_
          refine zi_if_ne (pc := 54) (tgt := 61) F dX4_hasTarget_54 (by decide) (fun c29 => ?_) (fun c29 => ?_)
          · have hE := zite_f hE c29
            have t30 := zt_ne c29
            refine zi_iconst (pc := 61) (v := 0) F dX4_hasTarget_61 rfl ?_
            subst hE
            exact hret _ _ dX4_hasTarget_62 (znb (Or.inl rfl))
          · have hE := zite_t hE c29
            have t31 := congrArg Int32.toInt c29
            refine zi_iconst (pc := 57) (v := 1) F dX4_hasTarget_57 rfl ?_
            refine zi_goto (pc := 58) (tgt := 62) F dX4_hasTarget_58 (by decide) ?_
            subst hE
            exact hret _ _ dX4_hasTarget_62 (znb (Or.inr rfl))
    · have hE := zite_t hE c10
      have t32 := congrArg Int32.toInt c10
      refine zi_aload_n (pc := 12) F dX4_hasTarget_12 0 rfl ?_
      refine zi_get (pc := 13) (C := RX4) (T := TX4) (N := 11) (v := .ref (G.2.2 1 0)) F (hw_X4_hasTarget_X4) 0 rfl rfl 1 (by decide) (List.mem_of_getElem? (i := 1) rfl) rfl rfl dX4_hasTarget_13 ?_
      refine zi_iload_n (pc := 16) F dX4_hasTarget_16 2 rfl ?_
      have hM35 := c_X2_has l G target T 
      have pp36 := pp_X2_has target T 
      obtain ⟨r33, e34⟩ : ∃ z, mX2_has target T = z := ⟨_, rfl⟩
      have hE := zbnd_cut hE e34
      rw [e34] at hM35
      rw [e34] at pp36
      obtain ⟨hbr33, q37, q38⟩ := pp36
      refine zi_callVI (pc := 17) (rest := []) (ws' := zWL G L T E V M K) F hM35 (cwV 1 F.1.2.2.2.2 gX4_hasTarget_X2_has rfl rfl rfl hd_X2_has ⟨Nat.le_of_ble_eq_true rfl, Nat.le_of_ble_eq_true rfl⟩) 0 rfl rfl _ _ (zwL_T G L T E V M K) (zwL_T G L T E V M K).symm rfl rfl (Nat.le_of_ble_eq_true rfl) dX4_hasTarget_17 ⟨Nat.zero_le _, Nat.zero_le _⟩ ?_
      subst hE
      exact hret _ _ dX4_hasTarget_20 (znb hbr33)
/-! X4_findObstacle -/
def mX4_findObstacle (card : Int32) (target : Int32) (L : zS_t) (T : zS_t) (E : zS_t) : Int32 := zbnd (mX4_isThing card) (fun r1 => if r1 = 0 then (zbnd (mX4_coinsOf (L 6 0) L) (fun r7 => zbnd (mX4_costOf card) (fun r10 => if r10 ≤ r7 then (zbnd (mX4_hasTarget card target T E) (fun r15 => if r15 = 0 then 3 else (if (E 5 0) < 12 then 0 else 4))) else 2))) else (if 0 < (E 5 0) then 1 else (if (L 6 0) = (L 5 0) then (zbnd (mX4_coinsOf (L 6 0) L) (fun r32 => zbnd (mX4_costOf card) (fun r35 => if r35 ≤ r32 then (zbnd (mX4_hasTarget card target T E) (fun r40 => if r40 = 0 then 3 else (if (E 5 0) < 12 then 0 else 4))) else 2))) else 1)))
theorem hw_X4_findObstacle_X0 : ∀ w ∈ wsX00, w ∈ wsX4_findObstacle := fun w h => List.mem_cons_of_mem _ (List.mem_append_left _ (List.mem_append_right _ (h)))
theorem hw_X4_findObstacle_X4 : ∀ w ∈ wsX40, w ∈ wsX4_findObstacle := fun w h => List.mem_cons_of_mem _ (List.mem_append_left _ (List.mem_append_left _ (List.mem_append_right _ (h))))
abbrev rmX4_findObstacle : Room := { frames := 3, cells := 0, slots := 0, locals := 64 }
theorem hd_X4_findObstacle : yX4_findObstacle.cls = RX4 ∧ yX4_findObstacle.cls ≠ "java/lang/invoke/MethodHandle" ∧ yX4_findObstacle.cls ≠ "java/lang/invoke/VarHandle" ∧ (parseMethodDescriptor yX4_findObstacle.desc).map (fun d => d.parameters.length) = some 2 := by decide +kernel
set_option maxHeartbeats 4000000 in
set_option maxRecDepth 100000 in
theorem c_X4_findObstacle (l : Launch) (G : zG_t) (card : Int32) (target : Int32) (L : zS_t) (T : zS_t) (E : zS_t) (V : zS_t) (M : zS_t) (K : zS_t) (hIE : zIE E) : zCI l G.1 (zty G) yX4_findObstacle wsX4_findObstacle rmX4_findObstacle [.ref (G.2.2 0 0), .int card, .int target] (zWL G L T E V M K) ((mX4_findObstacle card target L T E)) (zWL G L T E V M K) := by
  obtain ⟨X, hE⟩ : ∃ z, mX4_findObstacle card target L T E = z := ⟨_, rfl⟩
  rw [hE]
  refine zb_I (cc := cX4_findObstacle) (maxL := 3) (by decide) rfl (Nat.le_of_ble_eq_true rfl) ?_
  intro p e s m args below meth c Q A F hret
  show zW p l e rmX4_findObstacle s m args below meth c 0 0 Q G.1 A 3 (zWL G L T E V M K) [(0, .ref (G.2.2 0 0)), (1, .int card), (2, .int target)] 0 []
  have k_0 : Int32.toInt 0 = 0 := by decide
  have k_1 : Int32.toInt 1 = 1 := by decide
  have k_2 : Int32.toInt 2 = 2 := by decide
  have k_3 : Int32.toInt 3 = 3 := by decide
  have k_4 : Int32.toInt 4 = 4 := by decide
  have k_12 : Int32.toInt 12 = 12 := by decide
  obtain ⟨⟨i52, i53⟩, hIE_b1⟩ := id hIE
  unfold mX4_findObstacle at hE
  refine zi_iload_n (pc := 0) F dX4_findObstacle_0 1 rfl ?_
  have hM3 := c_X4_isThing l G card  
  have pp4 := pp_X4_isThing card  
  obtain ⟨r1, e2⟩ : ∃ z, mX4_isThing card = z := ⟨_, rfl⟩
  have hE := zbnd_cut hE e2
  rw [e2] at hM3
  rw [e2] at pp4
  have hbr1 := pp4
  refine zi_callSI (pc := 1) (rest := []) (ws' := zWL G L T E V M K) F hM3 (va_cwS 1 F.1.2.2.2.2 gX4_findObstacle_X4_isThing rfl rfl rfl hd_X4_isThing.2 ⟨Nat.le_of_ble_eq_true rfl, Nat.le_of_ble_eq_true rfl⟩) _ _ rfl rfl rfl rfl (Nat.le_of_ble_eq_true rfl) dX4_findObstacle_1 ⟨Nat.zero_le _, Nat.zero_le _⟩ ?_
  refine zi_if_eq (pc := 4) (tgt := 30) F dX4_findObstacle_4 (by decide) (fun c5 => ?_) (fun c5 => ?_)
  · have hE := zite_t hE c5
    have t6 := congrArg Int32.toInt c5
    refine zi_aload_n (pc := 30) F dX4_findObstacle_30 0 rfl ?_
    refine zi_aload_n (pc := 31) F dX4_findObstacle_31 0 rfl ?_
    refine zi_get (pc := 32) (C := RX4) (T := TX4) (N := 11) (v := .int (L 6 0)) F (hw_X4_findObstacle_X4) 0 rfl rfl 6 (by decide) (List.mem_of_getElem? (i := 3) rfl) rfl rfl dX4_findObstacle_32 ?_
    have hM9 := c_X4_coinsOf l G (L 6 0) L T E V M K 
    obtain ⟨r7, e8⟩ : ∃ z, mX4_coinsOf (L 6 0) L = z := ⟨_, rfl⟩
    have hE := zbnd_cut hE e8
    rw [e8] at hM9
    refine zi_callVI (pc := 35) (rest := []) (ws' := zWL G L T E V M K) F hM9 (cwV 1 F.1.2.2.2.2 gX4_findObstacle_X4_coinsOf rfl rfl rfl hd_X4_coinsOf ⟨Nat.le_of_ble_eq_true rfl, Nat.le_of_ble_eq_true rfl⟩) 0 rfl rfl _ _ (zw_nil _) (zw_nil _).symm rfl rfl (Nat.le_of_ble_eq_true rfl) dX4_findObstacle_35 ⟨Nat.zero_le _, Nat.zero_le _⟩ ?_
    refine zi_iload_n (pc := 38) F dX4_findObstacle_38 1 rfl ?_
    have hM12 := c_X4_costOf l G card  
    obtain ⟨r10, e11⟩ : ∃ z, mX4_costOf card = z := ⟨_, rfl⟩
    have hE := zbnd_cut hE e11
    rw [e11] at hM12
    refine zi_callSI (pc := 39) (rest := [.int r7]) (ws' := zWL G L T E V M K) F hM12 (va_cwS 1 F.1.2.2.2.2 gX4_findObstacle_X4_costOf rfl rfl rfl hd_X4_costOf.2 ⟨Nat.le_of_ble_eq_true rfl, Nat.le_of_ble_eq_true rfl⟩) _ _ rfl rfl rfl rfl (Nat.le_of_ble_eq_true rfl) dX4_findObstacle_39 ⟨Nat.zero_le _, Nat.zero_le _⟩ ?_
    refine zi_icmp_ge (pc := 42) (tgt := 47) F dX4_findObstacle_42 (by decide) (fun c13 => ?_) (fun c13 => ?_)
    · have hE := zite_t hE c13
      have t14 := zt_le c13
      refine zi_aload_n (pc := 47) F dX4_findObstacle_47 0 rfl ?_
      refine zi_iload_n (pc := 48) F dX4_findObstacle_48 1 rfl ?_
      refine zi_iload_n (pc := 49) F dX4_findObstacle_49 2 rfl ?_
      have hM17 := c_X4_hasTarget l G card target L T E V M K (hIE)
      have pp18 := pp_X4_hasTarget card target T E (hIE)
      obtain ⟨r15, e16⟩ : ∃ z, mX4_hasTarget card target T E = z := ⟨_, rfl⟩
      have hE := zbnd_cut hE e16
      rw [e16] at hM17
      rw [e16] at pp18
      have hbr15 := pp18
      refine zi_callVI (pc := 50) (rest := []) (ws' := zWL G L T E V M K) F hM17 (cwV 2 F.1.2.2.2.2 gX4_findObstacle_X4_hasTarget rfl rfl rfl hd_X4_hasTarget ⟨Nat.le_of_ble_eq_true rfl, Nat.le_of_ble_eq_true rfl⟩) 0 rfl rfl _ _ (zw_nil _) (zw_nil _).symm rfl rfl (Nat.le_of_ble_eq_true rfl) dX4_findObstacle_50 ⟨Nat.zero_le _, Nat.zero_le _⟩ ?_
      refine zi_if_ne (pc := 53) (tgt := 58) F dX4_findObstacle_53 (by decide) (fun c19 => ?_) (fun c19 => ?_)
      · have hE := zite_f hE c19
        have t20 := zt_ne c19
        refine zi_aload_n (pc := 58) F dX4_findObstacle_58 0 rfl ?_
        refine zi_get (pc := 59) (C := RX4) (T := TX4) (N := 11) (v := .ref (G.2.2 2 0)) F (hw_X4_findObstacle_X4) 0 rfl rfl 2 (by decide) (List.mem_of_getElem? (i := 1) rfl) rfl rfl dX4_findObstacle_59 ?_
        refine zi_get (pc := 62) (C := RX0) (T := TX0) (N := 6) (v := .int (E 5 0)) F (hw_X4_findObstacle_X0) 2 rfl rfl 5 (by decide) (List.mem_of_getElem? (i := 2) rfl) rfl rfl dX4_findObstacle_62 ?_
        refine zi_bipush (pc := 65) (v := 12) F dX4_findObstacle_65 rfl ?_
        refine zi_icmp_lt (pc := 67) (tgt := 74) F dX4_findObstacle_67 (by decide) (fun c21 => ?_) (fun c21 => ?_)
        · have hE := zite_t hE c21
          have t22 := zt_lt c21
          refine zi_iconst (pc := 74) (v := 0) F dX4_findObstacle_74 rfl ?_
          subst hE
          exact hret _ _ dX4_findObstacle_75
        · have hE := zite_f hE c21
          have t23 := zt_nlt c21
          refine zi_iconst (pc := 70) (v := 4) F dX4_findObstacle_70 rfl ?_
          refine zi_goto (pc := 71) (tgt := 75) F dX4_findObstacle_71 (by decide) ?_
          subst hE
          exact hret _ _ dX4_findObstacle_75
      · have hE := zite_t hE c19
        have t24 := congrArg Int32.toInt c19
        refine zi_iconst (pc := 56) (v := 3) F dX4_findObstacle_56 rfl ?_
        subst hE
        exact hret _ _ dX4_findObstacle_57
    · have hE := zite_f hE c13
      have t25 := zt_nle c13
      refine zi_iconst (pc := 45) (v := 2) F dX4_findObstacle_45 rfl ?_
      subst hE
      exact hret _ _ dX4_findObstacle_46
  · have hE := zite_f hE c5
    have t26 := zt_ne c5
    refine zi_aload_n (pc := 7) F dX4_findObstacle_7 0 rfl ?_
    refine zi_get (pc := 8) (C := RX4) (T := TX4) (N := 11) (v := .ref (G.2.2 2 0)) F (hw_X4_findObstacle_X4) 0 rfl rfl 2 (by decide) (List.mem_of_getElem? (i := 1) rfl) rfl rfl dX4_findObstacle_8 ?_
    refine zi_get (pc := 11) (C := RX0) (T := TX0) (N := 6) (v := .int (E 5 0)) F (hw_X4_findObstacle_X0) 2 rfl rfl 5 (by decide) (List.mem_of_getElem? (i := 2) rfl) rfl rfl dX4_findObstacle_11 ?_
    refine zi_if_gt (pc := 14) (tgt := 28) F dX4_findObstacle_14 (by decide) (fun c27 => ?_) (fun c27 => ?_)
    · have hE := zite_t hE c27
      have t28 := zt_lt c27
      refine zi_iconst (pc := 28) (v := 1) F dX4_findObstacle_28 rfl ?_
      subst hE
      exact hret _ _ dX4_findObstacle_29
    · have hE := zite_f hE c27
      have t29 := zt_nlt c27
      refine zi_aload_n (pc := 17) F dX4_findObstacle_17 0 rfl ?_
      refine zi_get (pc := 18) (C := RX4) (T := TX4) (N := 11) (v := .int (L 6 0)) F (hw_X4_findObstacle_X4) 0 rfl rfl 6 (by decide) (List.mem_of_getElem? (i := 3) rfl) rfl rfl dX4_findObstacle_18 ?_
      refine zi_aload_n (pc := 21) F dX4_findObstacle_21 0 rfl ?_
      refine zi_get (pc := 22) (C := RX4) (T := TX4) (N := 11) (v := .int (L 5 0)) F (hw_X4_findObstacle_X4) 0 rfl rfl 5 (by decide) (List.mem_of_getElem? (i := 4) rfl) rfl rfl dX4_findObstacle_22 ?_
      refine zi_icmp_eq (pc := 25) (tgt := 30) F dX4_findObstacle_25 (by decide) (fun c30 => ?_) (fun c30 => ?_)
      · have hE := zite_t hE c30
        have t31 := congrArg Int32.toInt c30
        refine zi_aload_n (pc := 30) F dX4_findObstacle_30 0 rfl ?_
        refine zi_aload_n (pc := 31) F dX4_findObstacle_31 0 rfl ?_
        refine zi_get (pc := 32) (C := RX4) (T := TX4) (N := 11) (v := .int (L 6 0)) F (hw_X4_findObstacle_X4) 0 rfl rfl 6 (by decide) (List.mem_of_getElem? (i := 3) rfl) rfl rfl dX4_findObstacle_32 ?_
        have hM34 := c_X4_coinsOf l G (L 6 0) L T E V M K 
        obtain ⟨r32, e33⟩ : ∃ z, mX4_coinsOf (L 6 0) L = z := ⟨_, rfl⟩
        have hE := zbnd_cut hE e33
        rw [e33] at hM34
        refine zi_callVI (pc := 35) (rest := []) (ws' := zWL G L T E V M K) F hM34 (cwV 1 F.1.2.2.2.2 gX4_findObstacle_X4_coinsOf rfl rfl rfl hd_X4_coinsOf ⟨Nat.le_of_ble_eq_true rfl, Nat.le_of_ble_eq_true rfl⟩) 0 rfl rfl _ _ (zw_nil _) (zw_nil _).symm rfl rfl (Nat.le_of_ble_eq_true rfl) dX4_findObstacle_35 ⟨Nat.zero_le _, Nat.zero_le _⟩ ?_
        refine zi_iload_n (pc := 38) F dX4_findObstacle_38 1 rfl ?_
        have hM37 := c_X4_costOf l G card  
        obtain ⟨r35, e36⟩ : ∃ z, mX4_costOf card = z := ⟨_, rfl⟩
        have hE := zbnd_cut hE e36
        rw [e36] at hM37
        refine zi_callSI (pc := 39) (rest := [.int r32]) (ws' := zWL G L T E V M K) F hM37 (va_cwS 1 F.1.2.2.2.2 gX4_findObstacle_X4_costOf rfl rfl rfl hd_X4_costOf.2 ⟨Nat.le_of_ble_eq_true rfl, Nat.le_of_ble_eq_true rfl⟩) _ _ rfl rfl rfl rfl (Nat.le_of_ble_eq_true rfl) dX4_findObstacle_39 ⟨Nat.zero_le _, Nat.zero_le _⟩ ?_
        refine zi_icmp_ge (pc := 42) (tgt := 47) F dX4_findObstacle_42 (by decide) (fun c38 => ?_) (fun c38 => ?_)
        · have hE := zite_t hE c38
          have t39 := zt_le c38
          refine zi_aload_n (pc := 47) F dX4_findObstacle_47 0 rfl ?_
          refine zi_iload_n (pc := 48) F dX4_findObstacle_48 1 rfl ?_
          refine zi_iload_n (pc := 49) F dX4_findObstacle_49 2 rfl ?_
          have hM42 := c_X4_hasTarget l G card target L T E V M K (hIE)
          have pp43 := pp_X4_hasTarget card target T E (hIE)
          obtain ⟨r40, e41⟩ : ∃ z, mX4_hasTarget card target T E = z := ⟨_, rfl⟩
          have hE := zbnd_cut hE e41
          rw [e41] at hM42
          rw [e41] at pp43
          have hbr40 := pp43
          refine zi_callVI (pc := 50) (rest := []) (ws' := zWL G L T E V M K) F hM42 (cwV 2 F.1.2.2.2.2 gX4_findObstacle_X4_hasTarget rfl rfl rfl hd_X4_hasTarget ⟨Nat.le_of_ble_eq_true rfl, Nat.le_of_ble_eq_true rfl⟩) 0 rfl rfl _ _ (zw_nil _) (zw_nil _).symm rfl rfl (Nat.le_of_ble_eq_true rfl) dX4_findObstacle_50 ⟨Nat.zero_le _, Nat.zero_le _⟩ ?_
          refine zi_if_ne (pc := 53) (tgt := 58) F dX4_findObstacle_53 (by decide) (fun c44 => ?_) (fun c44 => ?_)
          · have hE := zite_f hE c44
            have t45 := zt_ne c44
            refine zi_aload_n (pc := 58) F dX4_findObstacle_58 0 rfl ?_
            refine zi_get (pc := 59) (C := RX4) (T := TX4) (N := 11) (v := .ref (G.2.2 2 0)) F (hw_X4_findObstacle_X4) 0 rfl rfl 2 (by decide) (List.mem_of_getElem? (i := 1) rfl) rfl rfl dX4_findObstacle_59 ?_
            refine zi_get (pc := 62) (C := RX0) (T := TX0) (N := 6) (v := .int (E 5 0)) F (hw_X4_findObstacle_X0) 2 rfl rfl 5 (by decide) (List.mem_of_getElem? (i := 2) rfl) rfl rfl dX4_findObstacle_62 ?_
            refine zi_bipush (pc := 65) (v := 12) F dX4_findObstacle_65 rfl ?_
            refine zi_icmp_lt (pc := 67) (tgt := 74) F dX4_findObstacle_67 (by decide) (fun c46 => ?_) (fun c46 => ?_)
            · have hE := zite_t hE c46
              have t47 := zt_lt c46
              refine zi_iconst (pc := 74) (v := 0) F dX4_findObstacle_74 rfl ?_
              subst hE
              exact hret _ _ dX4_findObstacle_75
            · have hE := zite_f hE c46
              have t48 := zt_nlt c46
              refine zi_iconst (pc := 70) (v := 4) F dX4_findObstacle_70 rfl ?_
              refine zi_goto (pc := 71) (tgt := 75) F dX4_findObstacle_71 (by decide) ?_
              subst hE
              exact hret _ _ dX4_findObstacle_75
          · have hE := zite_t hE c44
            have t49 := congrArg Int32.toInt c44
            refine zi_iconst (pc := 56) (v := 3) F dX4_findObstacle_56 rfl ?_
            subst hE
            exact hret _ _ dX4_findObstacle_57
        · have hE := zite_f hE c38
          have t50 := zt_nle c38
          refine zi_iconst (pc := 45) (v := 2) F dX4_findObstacle_45 rfl ?_
          subst hE
          exact hret _ _ dX4_findObstacle_46
      · have hE := zite_f hE c30
        have t51 := zt_ne c30
        refine zi_iconst (pc := 28) (v := 1) F dX4_findObstacle_28 rfl ?_
        subst hE
        exact hret _ _ dX4_findObstacle_29
/-! X4_targetId -/
def mX4_targetId (card : Int32) (target : Int32) (T : zS_t) (E : zS_t) : Int32 := if card = 7 then (zbnd (mX2_has target T) (fun r3 => if r3 = 0 then (if card = 13 then (zbnd (mX0_has target E) (fun r14 => if r14 = 0 then (-1) else (zbnd (mX0_indexOf target E) (fun r23 => (E 4 r23.toNatClampNeg))))) else (-1)) else (T 3 target.toNatClampNeg))) else (if card = 12 then (zbnd (mX2_has target T) (fun r50 => if r50 = 0 then (if card = 13 then (zbnd (mX0_has target E) (fun r61 => if r61 = 0 then (-1) else (zbnd (mX0_indexOf target E) (fun r70 => (E 4 r70.toNatClampNeg))))) else (-1)) else (T 3 target.toNatClampNeg))) else (if card = 13 then (zbnd (mX0_has target E) (fun r35 => if r35 = 0 then (-1) else (zbnd (mX0_indexOf target E) (fun r44 => (E 4 r44.toNatClampNeg))))) else (-1)))
theorem hw_X4_targetId_X0 : ∀ w ∈ wsX00, w ∈ wsX4_targetId := fun w h => List.mem_cons_of_mem _ (List.mem_append_right _ (h))
theorem hw_X4_targetId_X2 : ∀ w ∈ wsX20, w ∈ wsX4_targetId := fun w h => List.mem_cons_of_mem _ (List.mem_append_left _ (List.mem_append_right _ (h)))
theorem hw_X4_targetId_X4 : ∀ w ∈ wsX40, w ∈ wsX4_targetId := fun w h => List.mem_cons_of_mem _ (List.mem_append_left _ (List.mem_append_left _ (List.mem_append_right _ (h))))
abbrev rmX4_targetId : Room := { frames := 2, cells := 0, slots := 0, locals := 42 }
theorem hd_X4_targetId : yX4_targetId.cls = RX4 ∧ yX4_targetId.cls ≠ "java/lang/invoke/MethodHandle" ∧ yX4_targetId.cls ≠ "java/lang/invoke/VarHandle" ∧ (parseMethodDescriptor yX4_targetId.desc).map (fun d => d.parameters.length) = some 2 := by decide +kernel
set_option maxHeartbeats 4000000 in
set_option maxRecDepth 100000 in
theorem c_X4_targetId (l : Launch) (G : zG_t) (card : Int32) (target : Int32) (L : zS_t) (T : zS_t) (E : zS_t) (V : zS_t) (M : zS_t) (K : zS_t) (hIT : zIT T) (hIE : zIE E) : zCI l G.1 (zty G) yX4_targetId wsX4_targetId rmX4_targetId [.ref (G.2.2 0 0), .int card, .int target] (zWL G L T E V M K) ((mX4_targetId card target T E)) (zWL G L T E V M K) := by
  obtain ⟨X, hE⟩ : ∃ z, mX4_targetId card target T E = z := ⟨_, rfl⟩
  rw [hE]
  refine zb_I (cc := cX4_targetId) (maxL := 3) (by decide) rfl (Nat.le_of_ble_eq_true rfl) ?_
  intro p e s m args below meth c Q A F hret
  show zW p l e rmX4_targetId s m args below meth c 0 0 Q G.1 A 3 (zWL G L T E V M K) [(0, .ref (G.2.2 0 0)), (1, .int card), (2, .int target)] 0 []
  have k_m1 : Int32.toInt (-1) = -1 := by decide
  have k_0 : Int32.toInt 0 = 0 := by decide
  have k_1 : Int32.toInt 1 = 1 := by decide
  have k_7 : Int32.toInt 7 = 7 := by decide
  have k_12 : Int32.toInt 12 = 12 := by decide
  have k_13 : Int32.toInt 13 = 13 := by decide
  obtain ⟨i76, i77⟩ := id hIT
  obtain ⟨⟨i78, i79⟩, hIE_b1⟩ := id hIE
  unfold mX4_targetId at hE
  refine zi_iload_n (pc := 0) F dX4_targetId_0 1 rfl ?_
  refine zi_bipush (pc := 1) (v := 7) F dX4_targetId_1 rfl ?_
  refine zi_icmp_eq (pc := 3) (tgt := 12) F dX4_targetId_3 (by decide) (fun c1 => ?_) (fun c1 => ?_)
  · have hE := zite_t hE c1
    have t2 := congrArg Int32.toInt c1
    refine zi_aload_n (pc := 12) F dX4_targetId_12 0 rfl ?_
    refine zi_get (pc := 13) (C := RX4) (T := TX4) (N := 11) (v := .ref (G.2.2 1 0)) F (hw_X4_targetId_X4) 0 rfl rfl 1 (by decide) (List.mem_of_getElem? (i := 1) rfl) rfl rfl dX4_targetId_13 ?_
    refine zi_iload_n (pc := 16) F dX4_targetId_16 2 rfl ?_
    have hM5 := c_X2_has l G target T 
    have pp6 := pp_X2_has target T 
    obtain ⟨r3, e4⟩ : ∃ z, mX2_has target T = z := ⟨_, rfl⟩
    have hE := zbnd_cut hE e4
    rw [e4] at hM5
    rw [e4] at pp6
    obtain ⟨hbr3, q7, q8⟩ := pp6
    refine zi_callVI (pc := 17) (rest := []) (ws' := zWL G L T E V M K) F hM5 (cwV 1 F.1.2.2.2.2 gX4_targetId_X2_has rfl rfl rfl hd_X2_has ⟨Nat.le_of_ble_eq_true rfl, Nat.le_of_ble_eq_true rfl⟩) 0 rfl rfl _ _ (zwL_T G L T E V M K) (zwL_T G L T E V M K).symm rfl rfl (Nat.le_of_ble_eq_true rfl) dX4_targetId_17 ⟨Nat.zero_le _, Nat.zero_le _⟩ ?_
    refine zi_if_eq (pc := 20) (tgt := 33) F dX4_targetId_20 (by decide) (fun c9 => ?_) (fun c9 => ?_)
    · have hE := zite_t hE c9
      have t10 := congrArg Int32.toInt c9
      refine zi_iload_n (pc := 33) F dX4_targetId_33 1 rfl ?_
      refine zi_bipush (pc := 34) (v := 13) F dX4_targetId_34 rfl ?_
      refine zi_icmp_ne (pc := 36) (tgt := 67) F dX4_targetId_36 (by decide) (fun c11 => ?_) (fun c11 => ?_)
      · have hE := zite_f hE c11
        have t12 := zt_ne c11
        refine zi_iconst (pc := 67) (v := (-1)) F dX4_targetId_67 rfl ?_
        subst hE
        exact hret _ _ dX4_targetId_68
      · have hE := zite_t hE c11
        have t13 := congrArg Int32.toInt c11
        refine zi_aload_n (pc := 39) F dX4_targetId_39 0 rfl ?_
        refine zi_get (pc := 40) (C := RX4) (T := TX4) (N := 11) (v := .ref (G.2.2 2 0)) F (hw_X4_targetId_X4) 0 rfl rfl 2 (by decide) (List.mem_of_getElem? (i := 3) rfl) rfl rfl dX4_targetId_40 ?_
        refine zi_iload_n (pc := 43) F dX4_targetId_43 2 rfl ?_
        have hM16 := c_X0_has l G target E 
        have pp17 := pp_X0_has target E 
        obtain ⟨r14, e15⟩ : ∃ z, mX0_has target E = z := ⟨_, rfl⟩
        have hE := zbnd_cut hE e15
        rw [e15] at hM16
        rw [e15] at pp17
        obtain ⟨hbr14, q18, q19⟩ := pp17
        refine zi_callVI (pc := 44) (rest := []) (ws' := zWL G L T E V M K) F hM16 (cwV 1 F.1.2.2.2.2 gX4_targetId_X0_has rfl rfl rfl hd_X0_has ⟨Nat.le_of_ble_eq_true rfl, Nat.le_of_ble_eq_true rfl⟩) 0 rfl rfl _ _ (zwL_E G L T E V M K) (zwL_E G L T E V M K).symm rfl rfl (Nat.le_of_ble_eq_true rfl) dX4_targetId_44 ⟨Nat.zero_le _, Nat.zero_le _⟩ ?_
        refine zi_if_eq (pc := 47) (tgt := 67) F dX4_targetId_47 (by decide) (fun c20 => ?_) (fun c20 => ?_)
        · have hE := zite_t hE c20
          have t21 := congrArg Int32.toInt c20
          refine zi_iconst (pc := 67) (v := (-1)) F dX4_targetId_67 rfl ?_
          subst hE
          exact hret _ _ dX4_targetId_68
        · have hE := zite_f hE c20
          have t22 := zt_ne c20
          refine zi_aload_n (pc := 50) F dX4_targetId_50 0 rfl ?_
          refine zi_get (pc := 51) (C := RX4) (T := TX4) (N := 11) (v := .ref (G.2.2 2 0)) F (hw_X4_targetId_X4) 0 rfl rfl 2 (by decide) (List.mem_of_getElem? (i := 3) rfl) rfl rfl dX4_targetId_51 ?_
          refine zi_get (pc := 54) (C := RX0) (T := TX0) (N := 6) (v := .ref (G.2.2 2 5)) F (hw_X4_targetId_X0) 2 rfl rfl 4 (by decide) (List.mem_of_getElem? (i := 4) rfl) rfl rfl dX4_targetId_54 ?_
          refine zi_aload_n (pc := 57) F dX4_targetId_57 0 rfl ?_
          refine zi_get (pc := 58) (C := RX4) (T := TX4) (N := 11) (v := .ref (G.2.2 2 0)) F (hw_X4_targetId_X4) 0 rfl rfl 2 (by decide) (List.mem_of_getElem? (i := 3) rfl) rfl rfl dX4_targetId_58 ?_
          refine zi_iload_n (pc := 61) F dX4_targetId_61 2 rfl ?_
          have hM25 := c_X0_indexOf l G target E (hIE)
          have pp26 := pp_X0_indexOf target E (hIE)
          obtain ⟨r23, e24⟩ : ∃ z, mX0_indexOf target E = z := ⟨_, rfl⟩
          have hE := zbnd_cut hE e24
          rw [e24] at hM25
          rw [e24] at pp26
          have q27 := pp26
          refine zi_callVI (pc := 62) (rest := [.ref (G.2.2 2 5)]) (ws' := zWL G L T E V M K) F hM25 (cwV 1 F.1.2.2.2.2 gX4_targetId_X0_indexOf rfl rfl rfl hd_X0_indexOf ⟨Nat.le_of_ble_eq_true rfl, Nat.le_of_ble_eq_true rfl⟩) 0 rfl rfl _ _ (zwL_E G L T E V M K) (zwL_E G L T E V M K).symm rfl rfl (Nat.le_of_ble_eq_true rfl) dX4_targetId_62 ⟨Nat.zero_le _, Nat.zero_le _⟩ ?_
          refine zi_iald (pc := 65) (v := (E 4 r23.toNatClampNeg)) F 7 0 rfl rfl (zin (a := r23) (by omega) (by omega)) rfl dX4_targetId_65 ?_
          subst hE
          exact hret _ _ dX4_targetId_66
    · have hE := zite_f hE c9
      have t28 := zt_ne c9
      refine zi_aload_n (pc := 23) F dX4_targetId_23 0 rfl ?_
      refine zi_get (pc := 24) (C := RX4) (T := TX4) (N := 11) (v := .ref (G.2.2 1 0)) F (hw_X4_targetId_X4) 0 rfl rfl 1 (by decide) (List.mem_of_getElem? (i := 1) rfl) rfl rfl dX4_targetId_24 ?_
      refine zi_get (pc := 27) (C := RX2) (T := TX2) (N := 5) (v := .ref (G.2.2 1 4)) F (hw_X4_targetId_X2) 8 rfl rfl 3 (by decide) (List.mem_of_getElem? (i := 2) rfl) rfl rfl dX4_targetId_27 ?_
      refine zi_iload_n (pc := 30) F dX4_targetId_30 2 rfl ?_
      refine zi_iald (pc := 31) (v := (T 3 target.toNatClampNeg)) F 12 0 rfl rfl (zin (a := target) (by omega) (by omega)) rfl dX4_targetId_31 ?_
      subst hE
      exact hret _ _ dX4_targetId_32
  · have hE := zite_f hE c1
    have t29 := zt_ne c1
    refine zi_iload_n (pc := 6) F dX4_targetId_6 1 rfl ?_
    refine zi_bipush (pc := 7) (v := 12) F dX4_targetId_7 rfl ?_
    refine zi_icmp_ne (pc := 9) (tgt := 33) F dX4_targetId_9 (by decide) (fun c30 => ?_) (fun c30 => ?_)
    · have hE := zite_f hE c30
      have t31 := zt_ne c30
      refine zi_iload_n (pc := 33) F dX4_targetId_33 1 rfl ?_
      refine zi_bipush (pc := 34) (v := 13) F dX4_targetId_34 rfl ?_
      refine zi_icmp_ne (pc := 36) (tgt := 67) F dX4_targetId_36 (by decide) (fun c32 => ?_) (fun c32 => ?_)
      · have hE := zite_f hE c32
        have t33 := zt_ne c32
        refine zi_iconst (pc := 67) (v := (-1)) F dX4_targetId_67 rfl ?_
        subst hE
        exact hret _ _ dX4_targetId_68
      · have hE := zite_t hE c32
        have t34 := congrArg Int32.toInt c32
        refine zi_aload_n (pc := 39) F dX4_targetId_39 0 rfl ?_
        refine zi_get (pc := 40) (C := RX4) (T := TX4) (N := 11) (v := .ref (G.2.2 2 0)) F (hw_X4_targetId_X4) 0 rfl rfl 2 (by decide) (List.mem_of_getElem? (i := 3) rfl) rfl rfl dX4_targetId_40 ?_
        refine zi_iload_n (pc := 43) F dX4_targetId_43 2 rfl ?_
        have hM37 := c_X0_has l G target E 
        have pp38 := pp_X0_has target E 
        obtain ⟨r35, e36⟩ : ∃ z, mX0_has target E = z := ⟨_, rfl⟩
        have hE := zbnd_cut hE e36
        rw [e36] at hM37
        rw [e36] at pp38
        obtain ⟨hbr35, q39, q40⟩ := pp38
        refine zi_callVI (pc := 44) (rest := []) (ws' := zWL G L T E V M K) F hM37 (cwV 1 F.1.2.2.2.2 gX4_targetId_X0_has rfl rfl rfl hd_X0_has ⟨Nat.le_of_ble_eq_true rfl, Nat.le_of_ble_eq_true rfl⟩) 0 rfl rfl _ _ (zwL_E G L T E V M K) (zwL_E G L T E V M K).symm rfl rfl (Nat.le_of_ble_eq_true rfl) dX4_targetId_44 ⟨Nat.zero_le _, Nat.zero_le _⟩ ?_
        refine zi_if_eq (pc := 47) (tgt := 67) F dX4_targetId_47 (by decide) (fun c41 => ?_) (fun c41 => ?_)
        · have hE := zite_t hE c41
          have t42 := congrArg Int32.toInt c41
          refine zi_iconst (pc := 67) (v := (-1)) F dX4_targetId_67 rfl ?_
          subst hE
          exact hret _ _ dX4_targetId_68
        · have hE := zite_f hE c41
          have t43 := zt_ne c41
          refine zi_aload_n (pc := 50) F dX4_targetId_50 0 rfl ?_
          refine zi_get (pc := 51) (C := RX4) (T := TX4) (N := 11) (v := .ref (G.2.2 2 0)) F (hw_X4_targetId_X4) 0 rfl rfl 2 (by decide) (List.mem_of_getElem? (i := 3) rfl) rfl rfl dX4_targetId_51 ?_
          refine zi_get (pc := 54) (C := RX0) (T := TX0) (N := 6) (v := .ref (G.2.2 2 5)) F (hw_X4_targetId_X0) 2 rfl rfl 4 (by decide) (List.mem_of_getElem? (i := 4) rfl) rfl rfl dX4_targetId_54 ?_
          refine zi_aload_n (pc := 57) F dX4_targetId_57 0 rfl ?_
          refine zi_get (pc := 58) (C := RX4) (T := TX4) (N := 11) (v := .ref (G.2.2 2 0)) F (hw_X4_targetId_X4) 0 rfl rfl 2 (by decide) (List.mem_of_getElem? (i := 3) rfl) rfl rfl dX4_targetId_58 ?_
          refine zi_iload_n (pc := 61) F dX4_targetId_61 2 rfl ?_
          have hM46 := c_X0_indexOf l G target E (hIE)
          have pp47 := pp_X0_indexOf target E (hIE)
          obtain ⟨r44, e45⟩ : ∃ z, mX0_indexOf target E = z := ⟨_, rfl⟩
          have hE := zbnd_cut hE e45
          rw [e45] at hM46
          rw [e45] at pp47
          have q48 := pp47
          refine zi_callVI (pc := 62) (rest := [.ref (G.2.2 2 5)]) (ws' := zWL G L T E V M K) F hM46 (cwV 1 F.1.2.2.2.2 gX4_targetId_X0_indexOf rfl rfl rfl hd_X0_indexOf ⟨Nat.le_of_ble_eq_true rfl, Nat.le_of_ble_eq_true rfl⟩) 0 rfl rfl _ _ (zwL_E G L T E V M K) (zwL_E G L T E V M K).symm rfl rfl (Nat.le_of_ble_eq_true rfl) dX4_targetId_62 ⟨Nat.zero_le _, Nat.zero_le _⟩ ?_
          refine zi_iald (pc := 65) (v := (E 4 r44.toNatClampNeg)) F 7 0 rfl rfl (zin (a := r44) (by omega) (by omega)) rfl dX4_targetId_65 ?_
          subst hE
          exact hret _ _ dX4_targetId_66
    · have hE := zite_t hE c30
      have t49 := congrArg Int32.toInt c30
      refine zi_aload_n (pc := 12) F dX4_targetId_12 0 rfl ?_
      refine zi_get (pc := 13) (C := RX4) (T := TX4) (N := 11) (v := .ref (G.2.2 1 0)) F (hw_X4_targetId_X4) 0 rfl rfl 1 (by decide) (List.mem_of_getElem? (i := 1) rfl) rfl rfl dX4_targetId_13 ?_
      refine zi_iload_n (pc := 16) F dX4_targetId_16 2 rfl ?_
      have hM52 := c_X2_has l G target T 
      have pp53 := pp_X2_has target T 
      obtain ⟨r50, e51⟩ : ∃ z, mX2_has target T = z := ⟨_, rfl⟩
      have hE := zbnd_cut hE e51
      rw [e51] at hM52
      rw [e51] at pp53
      obtain ⟨hbr50, q54, q55⟩ := pp53
      refine zi_callVI (pc := 17) (rest := []) (ws' := zWL G L T E V M K) F hM52 (cwV 1 F.1.2.2.2.2 gX4_targetId_X2_has rfl rfl rfl hd_X2_has ⟨Nat.le_of_ble_eq_true rfl, Nat.le_of_ble_eq_true rfl⟩) 0 rfl rfl _ _ (zwL_T G L T E V M K) (zwL_T G L T E V M K).symm rfl rfl (Nat.le_of_ble_eq_true rfl) dX4_targetId_17 ⟨Nat.zero_le _, Nat.zero_le _⟩ ?_
      refine zi_if_eq (pc := 20) (tgt := 33) F dX4_targetId_20 (by decide) (fun c56 => ?_) (fun c56 => ?_)
      · have hE := zite_t hE c56
        have t57 := congrArg Int32.toInt c56
        refine zi_iload_n (pc := 33) F dX4_targetId_33 1 rfl ?_
        refine zi_bipush (pc := 34) (v := 13) F dX4_targetId_34 rfl ?_
        refine zi_icmp_ne (pc := 36) (tgt := 67) F dX4_targetId_36 (by decide) (fun c58 => ?_) (fun c58 => ?_)
        · have hE := zite_f hE c58
          have t59 := zt_ne c58
          refine zi_iconst (pc := 67) (v := (-1)) F dX4_targetId_67 rfl ?_
          subst hE
          exact hret _ _ dX4_targetId_68
        · have hE := zite_t hE c58
          have t60 := congrArg Int32.toInt c58
          refine zi_aload_n (pc := 39) F dX4_targetId_39 0 rfl ?_
          refine zi_get (pc := 40) (C := RX4) (T := TX4) (N := 11) (v := .ref (G.2.2 2 0)) F (hw_X4_targetId_X4) 0 rfl rfl 2 (by decide) (List.mem_of_getElem? (i := 3) rfl) rfl rfl dX4_targetId_40 ?_
          refine zi_iload_n (pc := 43) F dX4_targetId_43 2 rfl ?_
          have hM63 := c_X0_has l G target E 
          have pp64 := pp_X0_has target E 
          obtain ⟨r61, e62⟩ : ∃ z, mX0_has target E = z := ⟨_, rfl⟩
          have hE := zbnd_cut hE e62
          rw [e62] at hM63
          rw [e62] at pp64
          obtain ⟨hbr61, q65, q66⟩ := pp64
          refine zi_callVI (pc := 44) (rest := []) (ws' := zWL G L T E V M K) F hM63 (cwV 1 F.1.2.2.2.2 gX4_targetId_X0_has rfl rfl rfl hd_X0_has ⟨Nat.le_of_ble_eq_true rfl, Nat.le_of_ble_eq_true rfl⟩) 0 rfl rfl _ _ (zwL_E G L T E V M K) (zwL_E G L T E V M K).symm rfl rfl (Nat.le_of_ble_eq_true rfl) dX4_targetId_44 ⟨Nat.zero_le _, Nat.zero_le _⟩ ?_
          refine zi_if_eq (pc := 47) (tgt := 67) F dX4_targetId_47 (by decide) (fun c67 => ?_) (fun c67 => ?_)
          · have hE := zite_t hE c67
            have t68 := congrArg Int32.toInt c67
            refine zi_iconst (pc := 67) (v := (-1)) F dX4_targetId_67 rfl ?_
            subst hE
            exact hret _ _ dX4_targetId_68
          · have hE := zite_f hE c67
            have t69 := zt_ne c67
            refine zi_aload_n (pc := 50) F dX4_targetId_50 0 rfl ?_
            refine zi_get (pc := 51) (C := RX4) (T := TX4) (N := 11) (v := .ref (G.2.2 2 0)) F (hw_X4_targetId_X4) 0 rfl rfl 2 (by decide) (List.mem_of_getElem? (i := 3) rfl) rfl rfl dX4_targetId_51 ?_
            refine zi_get (pc := 54) (C := RX0) (T := TX0) (N := 6) (v := .ref (G.2.2 2 5)) F (hw_X4_targetId_X0) 2 rfl rfl 4 (by decide) (List.mem_of_getElem? (i := 4) rfl) rfl rfl dX4_targetId_54 ?_
            refine zi_aload_n (pc := 57) F dX4_targetId_57 0 rfl ?_
            refine zi_get (pc := 58) (C := RX4) (T := TX4) (N := 11) (v := .ref (G.2.2 2 0)) F (hw_X4_targetId_X4) 0 rfl rfl 2 (by decide) (List.mem_of_getElem? (i := 3) rfl) rfl rfl dX4_targetId_58 ?_
            refine zi_iload_n (pc := 61) F dX4_targetId_61 2 rfl ?_
            have hM72 := c_X0_indexOf l G target E (hIE)
            have pp73 := pp_X0_indexOf target E (hIE)
            obtain ⟨r70, e71⟩ : ∃ z, mX0_indexOf target E = z := ⟨_, rfl⟩
            have hE := zbnd_cut hE e71
            rw [e71] at hM72
            rw [e71] at pp73
            have q74 := pp73
            refine zi_callVI (pc := 62) (rest := [.ref (G.2.2 2 5)]) (ws' := zWL G L T E V M K) F hM72 (cwV 1 F.1.2.2.2.2 gX4_targetId_X0_indexOf rfl rfl rfl hd_X0_indexOf ⟨Nat.le_of_ble_eq_true rfl, Nat.le_of_ble_eq_true rfl⟩) 0 rfl rfl _ _ (zwL_E G L T E V M K) (zwL_E G L T E V M K).symm rfl rfl (Nat.le_of_ble_eq_true rfl) dX4_targetId_62 ⟨Nat.zero_le _, Nat.zero_le _⟩ ?_
            refine zi_iald (pc := 65) (v := (E 4 r70.toNatClampNeg)) F 7 0 rfl rfl (zin (a := r70) (by omega) (by omega)) rfl dX4_targetId_65 ?_
            subst hE
            exact hret _ _ dX4_targetId_66
      · have hE := zite_f hE c56
        have t75 := zt_ne c56
        refine zi_aload_n (pc := 23) F dX4_targetId_23 0 rfl ?_
        refine zi_get (pc := 24) (C := RX4) (T := TX4) (N := 11) (v := .ref (G.2.2 1 0)) F (hw_X4_targetId_X4) 0 rfl rfl 1 (by decide) (List.mem_of_getElem? (i := 1) rfl) rfl rfl dX4_targetId_24 ?_
        refine zi_get (pc := 27) (C := RX2) (T := TX2) (N := 5) (v := .ref (G.2.2 1 4)) F (hw_X4_targetId_X2) 8 rfl rfl 3 (by decide) (List.mem_of_getElem? (i := 2) rfl) rfl rfl dX4_targetId_27 ?_
        refine zi_iload_n (pc := 30) F dX4_targetId_30 2 rfl ?_
        refine zi_iald (pc := 31) (v := (T 3 target.toNatClampNeg)) F 12 0 rfl rfl (zin (a := target) (by omega) (by omega)) rfl dX4_targetId_31 ?_
        subst hE
        exact hret _ _ dX4_targetId_32
/-! X4_targetPlace -/
def mX4_targetPlace (index : Int32) (T : zS_t) (E : zS_t) : Int32 := if index < 0 then (-1) else (if index < (E 5 0) then (zbnd ((E 3 index.toNatClampNeg)) (fun y6 => if (E 0 index.toNatClampNeg) = 13 then (zbnd (mX0_placeOf y6 E) (fun r15 => r15)) else (zbnd (mX2_placeOf y6 T) (fun r11 => r11)))) else (-1))
theorem hw_X4_targetPlace_X0 : ∀ w ∈ wsX00, w ∈ wsX4_targetPlace := fun w h => List.mem_cons_of_mem _ (List.mem_append_left _ (List.mem_append_right _ (h)))
theorem hw_X4_targetPlace_X4 : ∀ w ∈ wsX40, w ∈ wsX4_targetPlace := fun w h => List.mem_cons_of_mem _ (List.mem_append_left _ (List.mem_append_left _ (List.mem_append_right _ (h))))
abbrev rmX4_targetPlace : Room := { frames := 1, cells := 0, slots := 0, locals := 22 }
theorem hd_X4_targetPlace : yX4_targetPlace.cls = RX4 ∧ yX4_targetPlace.cls ≠ "java/lang/invoke/MethodHandle" ∧ yX4_targetPlace.cls ≠ "java/lang/invoke/VarHandle" ∧ (parseMethodDescriptor yX4_targetPlace.desc).map (fun d => d.parameters.length) = some 1 := by decide +kernel
set_option maxHeartbeats 4000000 in
set_option maxRecDepth 100000 in
theorem c_X4_targetPlace (l : Launch) (G : zG_t) (index : Int32) (L : zS_t) (T : zS_t) (E : zS_t) (V : zS_t) (M : zS_t) (K : zS_t) (hIT : zIT T) (hIE : zIE E) : zCI l G.1 (zty G) yX4_targetPlace wsX4_targetPlace rmX4_targetPlace [.ref (G.2.2 0 0), .int index] (zWL G L T E V M K) ((mX4_targetPlace index T E)) (zWL G L T E V M K) := by
  obtain ⟨X, hE⟩ : ∃ z, mX4_targetPlace index T E = z := ⟨_, rfl⟩
  rw [hE]
  refine zb_I (cc := cX4_targetPlace) (maxL := 3) (by decide) rfl (Nat.le_of_ble_eq_true rfl) ?_
  intro p e s m args below meth c Q A F hret
  show zW p l e rmX4_targetPlace s m args below meth c 0 0 Q G.1 A 3 (zWL G L T E V M K) [(0, .ref (G.2.2 0 0)), (1, .int index)] 0 []
  have k_m1 : Int32.toInt (-1) = -1 := by decide
  have k_0 : Int32.toInt 0 = 0 := by decide
  have k_1 : Int32.toInt 1 = 1 := by decide
  have k_13 : Int32.toInt 13 = 13 := by decide
  obtain ⟨i19, i20⟩ := id hIT
  obtain ⟨⟨i21, i22⟩, hIE_b1⟩ := id hIE
  unfold mX4_targetPlace at hE
  refine zi_iload_n (pc := 0) F dX4_targetPlace_0 1 rfl ?_
  refine zi_if_lt (pc := 1) (tgt := 15) F dX4_targetPlace_1 (by decide) (fun c1 => ?_) (fun c1 => ?_)
  · have hE := zite_t hE c1
    have t2 := zt_lt c1
    refine zi_iconst (pc := 15) (v := (-1)) F dX4_targetPlace_15 rfl ?_
    subst hE
    exact hret _ _ dX4_targetPlace_16
  · have hE := zite_f hE c1
    have t3 := zt_nlt c1
    refine zi_iload_n (pc := 4) F dX4_targetPlace_4 1 rfl ?_
    refine zi_aload_n (pc := 5) F dX4_targetPlace_5 0 rfl ?_
    refine zi_get (pc := 6) (C := RX4) (T := TX4) (N := 11) (v := .ref (G.2.2 2 0)) F (hw_X4_targetPlace_X4) 0 rfl rfl 2 (by decide) (List.mem_of_getElem? (i := 1) rfl) rfl rfl dX4_targetPlace_6 ?_
    refine zi_get (pc := 9) (C := RX0) (T := TX0) (N := 6) (v := .int (E 5 0)) F (hw_X4_targetPlace_X0) 2 rfl rfl 5 (by decide) (List.mem_of_getElem? (i := 2) rfl) rfl rfl dX4_targetPlace_9 ?_
    refine zi_icmp_lt (pc := 12) (tgt := 17) F dX4_targetPlace_12 (by decide) (fun c4 => ?_) (fun c4 => ?_)
    · have hE := zite_t hE c4
      have t5 := zt_lt c4
      refine zi_aload_n (pc := 17) F dX4_targetPlace_17 0 rfl ?_
      refine zi_get (pc := 18) (C := RX4) (T := TX4) (N := 11) (v := .ref (G.2.2 2 0)) F (hw_X4_targetPlace_X4) 0 rfl rfl 2 (by decide) (List.mem_of_getElem? (i := 1) rfl) rfl rfl dX4_targetPlace_18 ?_
      refine zi_get (pc := 21) (C := RX0) (T := TX0) (N := 6) (v := .ref (G.2.2 2 4)) F (hw_X4_targetPlace_X0) 2 rfl rfl 3 (by decide) (List.mem_of_getElem? (i := 3) rfl) rfl rfl dX4_targetPlace_21 ?_
      refine zi_iload_n (pc := 24) F dX4_targetPlace_24 1 rfl ?_
      refine zi_iald (pc := 25) (v := (E 3 index.toNatClampNeg)) F 6 0 rfl rfl (zin (a := index) (by omega) (by omega)) rfl dX4_targetPlace_25 ?_
      refine zi_topi (fun y6 e7 => ?_)
      have hE := zbnd_cut hE e7
      have t8 := congrArg Int32.toInt e7
      refine zi_istore_n (pc := 26) (lv' := [(0, .ref (G.2.2 0 0)), (1, .int index), (2, .int y6)]) F dX4_targetPlace_26 (by decide) rfl ?_
      refine zi_aload_n (pc := 27) F dX4_targetPlace_27 0 rfl ?_
      refine zi_get (pc := 28) (C := RX4) (T := TX4) (N := 11) (v := .ref (G.2.2 2 0)) F (hw_X4_targetPlace_X4) 0 rfl rfl 2 (by decide) (List.mem_of_getElem? (i := 1) rfl) rfl rfl dX4_targetPlace_28 ?_
      refine zi_get (pc := 31) (C := RX0) (T := TX0) (N := 6) (v := .ref (G.2.2 2 1)) F (hw_X4_targetPlace_X0) 2 rfl rfl 0 (by decide) (List.mem_of_getElem? (i := 4) rfl) rfl rfl dX4_targetPlace_31 ?_
      refine zi_iload_n (pc := 34) F dX4_targetPlace_34 1 rfl ?_
      refine zi_iald (pc := 35) (v := (E 0 index.toNatClampNeg)) F 3 0 rfl rfl (zin (a := index) (by omega) (by omega)) rfl dX4_targetPlace_35 ?_
      refine zi_bipush (pc := 36) (v := 13) F dX4_targetPlace_36 rfl ?_
      refine zi_icmp_ne (pc := 38) (tgt := 52) F dX4_targetPlace_38 (by decide) (fun c9 => ?_) (fun c9 => ?_)
      · have hE := zite_f hE c9
        have t10 := zt_ne c9
        refine zi_aload_n (pc := 52) F dX4_targetPlace_52 0 rfl ?_
        refine zi_get (pc := 53) (C := RX4) (T := TX4) (N := 11) (v := .ref (G.2.2 1 0)) F (hw_X4_targetPlace_X4) 0 rfl rfl 1 (by decide) (List.mem_of_getElem? (i := 5) rfl) rfl rfl dX4_targetPlace_53 ?_
        refine zi_iload_n (pc := 56) F dX4_targetPlace_56 2 rfl ?_
        have hM13 := c_X2_placeOf l G y6 T (hIT)
        obtain ⟨r11, e12⟩ : ∃ z, mX2_placeOf y6 T = z := ⟨_, rfl⟩
        have hE := zbnd_cut hE e12
        rw [e12] at hM13
        refine zi_callVI (pc := 57) (rest := []) (ws' := zWL G L T E V M K) F hM13 (cwV 1 F.1.2.2.2.2 gX4_targetPlace_X2_placeOf rfl rfl rfl hd_X2_placeOf ⟨Nat.le_of_ble_eq_true rfl, Nat.le_of_ble_eq_true rfl⟩) 0 rfl rfl _ _ (zwL_T G L T E V M K) (zwL_T G L T E V M K).symm rfl rfl (Nat.le_of_ble_eq_true rfl) dX4_targetPlace_57 ⟨Nat.zero_le _, Nat.zero_le _⟩ ?_
        subst hE
        exact hret _ _ dX4_targetPlace_60
      · have hE := zite_t hE c9
        have t14 := congrArg Int32.toInt c9
        refine zi_aload_n (pc := 41) F dX4_targetPlace_41 0 rfl ?_
        refine zi_get (pc := 42) (C := RX4) (T := TX4) (N := 11) (v := .ref (G.2.2 2 0)) F (hw_X4_targetPlace_X4) 0 rfl rfl 2 (by decide) (List.mem_of_getElem? (i := 1) rfl) rfl rfl dX4_targetPlace_42 ?_
        refine zi_iload_n (pc := 45) F dX4_targetPlace_45 2 rfl ?_
        have hM17 := c_X0_placeOf l G y6 E (hIE)
        obtain ⟨r15, e16⟩ : ∃ z, mX0_placeOf y6 E = z := ⟨_, rfl⟩
        have hE := zbnd_cut hE e16
        rw [e16] at hM17
        refine zi_callVI (pc := 46) (rest := []) (ws' := zWL G L T E V M K) F hM17 (cwV 1 F.1.2.2.2.2 gX4_targetPlace_X0_placeOf rfl rfl rfl hd_X0_placeOf ⟨Nat.le_of_ble_eq_true rfl, Nat.le_of_ble_eq_true rfl⟩) 0 rfl rfl _ _ (zwL_E G L T E V M K) (zwL_E G L T E V M K).symm rfl rfl (Nat.le_of_ble_eq_true rfl) dX4_targetPlace_46 ⟨Nat.zero_le _, Nat.zero_le _⟩ ?_
        refine zi_goto (pc := 49) (tgt := 60) F dX4_targetPlace_49 (by decide) ?_
        subst hE
        exact hret _ _ dX4_targetPlace_60
    · have hE := zite_f hE c4
      have t18 := zt_nlt c4
      refine zi_iconst (pc := 15) (v := (-1)) F dX4_targetPlace_15 rfl ?_
      subst hE
      exact hret _ _ dX4_targetPlace_16
/-! X4_hasTrigger -/
def mX4_hasTrigger (card : Int32) (event : Int32) (controller : Int32) (L : zS_t) : Int32 := if event = 1 then (if card = 9 then 1 else (if card = 11 then 1 else 0)) else (if event = 2 then (if card = 10 then 1 else 0) else (if event = 3 then (if card = 1 then (if controller = (L 5 0) then 1 else 0) else 0) else 0))
set_option maxHeartbeats 4000000 in
set_option maxRecDepth 100000 in
theorem pp_X4_hasTrigger (card : Int32) (event : Int32) (controller : Int32) (L : zS_t)  : ((mX4_hasTrigger card event controller L) = 0 ∨ (mX4_hasTrigger card event controller L) = 1) := by
  obtain ⟨X, hE⟩ : ∃ z, mX4_hasTrigger card event controller L = z := ⟨_, rfl⟩
  rw [hE]
  have k_0 : Int32.toInt 0 = 0 := by decide
  have k_1 : Int32.toInt 1 = 1 := by decide
  have k_9 : Int32.toInt 9 = 9 := by decide
  have k_10 : Int32.toInt 10 = 10 := by decide
  have k_11 : Int32.toInt 11 = 11 := by decide
  unfold mX4_hasTrigger at hE
  by_cases c1 : event = 1
  · have hE := zite_t hE c1
    have t2 : Int32.toInt event = 1 := by rw [c1]; rfl
    by_cases c3 : card = 9
    · have hE := zite_t hE c3
      have t4 := congrArg Int32.toInt c3
      subst hE
      exact Or.inr rfl
    · have hE := zite_f hE c3
      have t5 := zt_ne c3
      by_cases c6 : card = 11
      · have hE := zite_t hE c6
        have t7 := congrArg Int32.toInt c6
        subst hE
        exact Or.inr rfl
      · have hE := zite_f hE c6
        have t8 := zt_ne c6
        subst hE
        exact Or.inl rfl
  · have hE := zite_f hE c1
    have t9 := lv_neT (a := 1) c1 rfl
    by_cases c10 : event = 2
    · have hE := zite_t hE c10
      have t11 : Int32.toInt event = 2 := by rw [c10]; rfl
      by_cases c12 : card = 10
      · have hE := zite_t hE c12
        have t13 := congrArg Int32.toInt c12
        subst hE
        exact Or.inr rfl
      · have hE := zite_f hE c12
        have t14 := zt_ne c12
        subst hE
        exact Or.inl rfl
    · have hE := zite_f hE c10
      have t15 := lv_neT (a := 2) c10 rfl
      by_cases c16 : event = 3
      · have hE := zite_t hE c16
        have t17 : Int32.toInt event = 3 := by rw [c16]; rfl
        by_cases c18 : card = 1
        · have hE := zite_t hE c18
          have t19 := congrArg Int32.toInt c18
          by_cases c20 : controller = (L 5 0)
          · have hE := zite_t hE c20
            have t21 := congrArg Int32.toInt c20
            subst hE
            exact Or.inr rfl
          · have hE := zite_f hE c20
            have t22 := zt_ne c20
            subst hE
            exact Or.inl rfl
        · have hE := zite_f hE c18
          have t23 := zt_ne c18
          subst hE
          exact Or.inl rfl
      · have hE := zite_f hE c16
        have t24 := lv_neT (a := 3) c16 rfl
        subst hE
        exact Or.inl rfl
theorem hw_X4_hasTrigger_X4 : ∀ w ∈ wsX40, w ∈ wsX4_hasTrigger := fun w h => List.mem_cons_of_mem _ (List.mem_append_right _ (h))
abbrev rmX4_hasTrigger : Room := { frames := 0, cells := 0, slots := 0, locals := 0 }
theorem hd_X4_hasTrigger : yX4_hasTrigger.cls = RX4 ∧ yX4_hasTrigger.cls ≠ "java/lang/invoke/MethodHandle" ∧ yX4_hasTrigger.cls ≠ "java/lang/invoke/VarHandle" ∧ (parseMethodDescriptor yX4_hasTrigger.desc).map (fun d => d.parameters.length) = some 3 := by decide +kernel
set_option maxHeartbeats 4000000 in
set_option maxRecDepth 100000 in
theorem c_X4_hasTrigger (l : Launch) (G : zG_t) (card : Int32) (event : Int32) (controller : Int32) (L : zS_t) (T : zS_t) (E : zS_t) (V : zS_t) (M : zS_t) (K : zS_t)  : zCI l G.1 (zty G) yX4_hasTrigger wsX4_hasTrigger rmX4_hasTrigger [.ref (G.2.2 0 0), .int card, .int event, .int controller] (zWL G L T E V M K) ((mX4_hasTrigger card event controller L)) (zWL G L T E V M K) := by
  obtain ⟨X, hE⟩ : ∃ z, mX4_hasTrigger card event controller L = z := ⟨_, rfl⟩
  rw [hE]
  refine zb_Z (cc := cX4_hasTrigger) (maxL := 4) (by decide) rfl (Nat.le_of_ble_eq_true rfl) ?_
  intro p e s m args below meth c Q A F hret
  show zW p l e rmX4_hasTrigger s m args below meth c 0 0 Q G.1 A 4 (zWL G L T E V M K) [(0, .ref (G.2.2 0 0)), (1, .int card), (2, .int event), (3, .int controller)] 0 []
  have k_0 : Int32.toInt 0 = 0 := by decide
  have k_1 : Int32.toInt 1 = 1 := by decide
  have k_9 : Int32.toInt 9 = 9 := by decide
  have k_10 : Int32.toInt 10 = 10 := by decide
  have k_11 : Int32.toInt 11 = 11 := by decide
  unfold mX4_hasTrigger at hE
  refine zi_iload_n (pc := 0) F dX4_hasTrigger_0 2 rfl ?_
  by_cases c1 : event = 1
  · have hE := zite_t hE c1
    have t2 : Int32.toInt event = 1 := by rw [c1]; rfl
    refine zi_tableIn (pc := 1) (tgt := 28) (off := 27) F dX4_hasTrigger_1 (by omega) (by omega) (by rw [t2]; rfl) (by decide) ?_
    refine zi_iload_n (pc := 28) F dX4_hasTrigger_28 1 rfl ?_
    refine zi_bipush (pc := 29) (v := 9) F dX4_hasTrigger_29 rfl ?_
    refine zi_icmp_eq (pc := 31) (tgt := 40) F dX4_hasTrigger_31 (by decide) (fun c3 => ?_) (fun c3 => ?_)
    · have hE := zite_t hE c3
      have t4 := congrArg Int32.toInt c3
      refine zi_iconst (pc := 40) (v := 1) F dX4_hasTrigger_40 rfl ?_
      refine zi_goto (pc := 41) (tgt := 45) F dX4_hasTrigger_41 (by decide) ?_
      subst hE
      exact hret _ _ dX4_hasTrigger_45 (znb (Or.inr rfl))
    · have hE := zite_f hE c3
      have t5 := zt_ne c3
      refine zi_iload_n (pc := 34) F dX4_hasTrigger_34 1 rfl ?_
      refine zi_bipush (pc := 35) (v := 11) F dX4_hasTrigger_35 rfl ?_
      refine zi_icmp_ne (pc := 37) (tgt := 44) F dX4_hasTrigger_37 (by decide) (fun c6 => ?_) (fun c6 => ?_)
      · have hE := zite_f hE c6
        have t7 := zt_ne c6
        refine zi_iconst (pc := 44) (v := 0) F dX4_hasTrigger_44 rfl ?_
        subst hE
        exact hret _ _ dX4_hasTrigger_45 (znb (Or.inl rfl))
      · have hE := zite_t hE c6
        have t8 := congrArg Int32.toInt c6
        refine zi_iconst (pc := 40) (v := 1) F dX4_hasTrigger_40 rfl ?_
        refine zi_goto (pc := 41) (tgt := 45) F dX4_hasTrigger_41 (by decide) ?_
        subst hE
        exact hret _ _ dX4_hasTrigger_45 (znb (Or.inr rfl))
  · have hE := zite_f hE c1
    have t9 := lv_neT (a := 1) c1 rfl
    by_cases c10 : event = 2
    · have hE := zite_t hE c10
      have t11 : Int32.toInt event = 2 := by rw [c10]; rfl
      refine zi_tableIn (pc := 1) (tgt := 46) (off := 45) F dX4_hasTrigger_1 (by omega) (by omega) (by rw [t11]; rfl) (by decide) ?_
      refine zi_iload_n (pc := 46) F dX4_hasTrigger_46 1 rfl ?_
      refine zi_bipush (pc := 47) (v := 10) F dX4_hasTrigger_47 rfl ?_
      refine zi_icmp_ne (pc := 49) (tgt := 56) F dX4_hasTrigger_49 (by decide) (fun c12 => ?_) (fun c12 => ?_)
      · have hE := zite_f hE c12
        have t13 := zt_ne c12
        refine zi_iconst (pc := 56) (v := 0) F dX4_hasTrigger_56 rfl ?_
        subst hE
        exact hret _ _ dX4_hasTrigger_57 (znb (Or.inl rfl))
      · have hE := zite_t hE c12
        have t14 := congrArg Int32.toInt c12
        refine zi_iconst (pc := 52) (v := 1) F dX4_hasTrigger_52 rfl ?_
        refine zi_goto (pc := 53) (tgt := 57) F dX4_hasTrigger_53 (by decide) ?_
        subst hE
        exact hret _ _ dX4_hasTrigger_57 (znb (Or.inr rfl))
    · have hE := zite_f hE c10
      have t15 := lv_neT (a := 2) c10 rfl
      by_cases c16 : event = 3
      · have hE := zite_t hE c16
        have t17 : Int32.toInt event = 3 := by rw [c16]; rfl
        refine zi_tableIn (pc := 1) (tgt := 58) (off := 57) F dX4_hasTrigger_1 (by omega) (by omega) (by rw [t17]; rfl) (by decide) ?_
        refine zi_iload_n (pc := 58) F dX4_hasTrigger_58 1 rfl ?_
        refine zi_iconst (pc := 59) (v := 1) F dX4_hasTrigger_59 rfl ?_
        refine zi_icmp_ne (pc := 60) (tgt := 75) F dX4_hasTrigger_60 (by decide) (fun c18 => ?_) (fun c18 => ?_)
        · have hE := zite_f hE c18
          have t19 := zt_ne c18
          refine zi_iconst (pc := 75) (v := 0) F dX4_hasTrigger_75 rfl ?_
          subst hE
          exact hret _ _ dX4_hasTrigger_76 (znb (Or.inl rfl))
        · have hE := zite_t hE c18
          have t20 := congrArg Int32.toInt c18
          refine zi_iload_n (pc := 63) F dX4_hasTrigger_63 3 rfl ?_
          refine zi_aload_n (pc := 64) F dX4_hasTrigger_64 0 rfl ?_
          refine zi_get (pc := 65) (C := RX4) (T := TX4) (N := 11) (v := .int (L 5 0)) F (hw_X4_hasTrigger_X4) 0 rfl rfl 5 (by decide) (List.mem_of_getElem? (i := 1) rfl) rfl rfl dX4_hasTrigger_65 ?_
          refine zi_icmp_ne (pc := 68) (tgt := 75) F dX4_hasTrigger_68 (by decide) (fun c21 => ?_) (fun c21 => ?_)
          · have hE := zite_f hE c21
            have t22 := zt_ne c21
            refine zi_iconst (pc := 75) (v := 0) F dX4_hasTrigger_75 rfl ?_
            subst hE
            exact hret _ _ dX4_hasTrigger_76 (znb (Or.inl rfl))
          · have hE := zite_t hE c21
            have t23 := congrArg Int32.toInt c21
            refine zi_iconst (pc := 71) (v := 1) F dX4_hasTrigger_71 rfl ?_
            refine zi_goto (pc := 72) (tgt := 76) F dX4_hasTrigger_72 (by decide) ?_
            subst hE
            exact hret _ _ dX4_hasTrigger_76 (znb (Or.inr rfl))
      · have hE := zite_f hE c16
        have t24 := lv_neT (a := 3) c16 rfl
        refine zi_tableOut (pc := 1) (tgt := 77) F dX4_hasTrigger_1 (by omega) (by decide) ?_
        refine zi_iconst (pc := 77) (v := 0) F dX4_hasTrigger_77 rfl ?_
        subst hE
        exact hret _ _ dX4_hasTrigger_78 (znb (Or.inl rfl))
/-! X4_enter -/
def mX4_enter (card : Int32) (player : Int32) (target : Int32) (L : zS_t) (T : zS_t) : Int32 × zS_t × zS_t := zbnd2 (mX4_newId L) (fun r1 L2 => zbnd2 (mX2_add card player target r1 T) (fun r5 T6 => if r5 = 0 then (0, L2, T6) else (1, L2, T6)))
set_option maxHeartbeats 4000000 in
set_option maxRecDepth 100000 in
theorem pp_X4_enter (card : Int32) (player : Int32) (target : Int32) (L : zS_t) (T : zS_t) (hIT : zIT T) : (zIT ((mX4_enter card player target L T).2.2)) := by
  obtain ⟨X, hE⟩ : ∃ z, mX4_enter card player target L T = z := ⟨_, rfl⟩
  rw [hE]
  have k_0 : Int32.toInt 0 = 0 := by decide
  have k_1 : Int32.toInt 1 = 1 := by decide
  obtain ⟨i15, i16⟩ := id hIT
  unfold mX4_enter at hE
  obtain ⟨⟨r1, L2⟩, e3⟩ : ∃ z, mX4_newId L = z := ⟨_, rfl⟩
  have hE := zbnd2_cut hE e3
  have pp9 := pp_X2_add card player target r1 T (hIT)
  obtain ⟨⟨r5, T6⟩, e7⟩ : ∃ z, mX2_add card player target r1 T = z := ⟨_, rfl⟩
  have hE := zbnd2_cut hE e7
  rw [e7] at pp9
  obtain ⟨hbr5, hIT6⟩ := pp9
  have hIT6 : zIT T6 := hIT6
  obtain ⟨i10, i11⟩ := id hIT6
  by_cases c12 : r5 = 0
  · have hE := zite_t hE c12
    have t13 := congrArg Int32.toInt c12
    subst hE
    exact hIT6
  · have hE := zite_f hE c12
    have t14 := zt_ne c12
    subst hE
    exact hIT6
theorem hw_X4_enter_X4 : ∀ w ∈ wsX40, w ∈ wsX4_enter := fun w h => List.mem_cons_of_mem _ (List.mem_append_left _ (List.mem_append_right _ (h)))
abbrev rmX4_enter : Room := { frames := 1, cells := 0, slots := 0, locals := 24 }
theorem hd_X4_enter : yX4_enter.cls = RX4 ∧ yX4_enter.cls ≠ "java/lang/invoke/MethodHandle" ∧ yX4_enter.cls ≠ "java/lang/invoke/VarHandle" ∧ (parseMethodDescriptor yX4_enter.desc).map (fun d => d.parameters.length) = some 3 := by decide +kernel
set_option maxHeartbeats 4000000 in
set_option maxRecDepth 100000 in
theorem c_X4_enter (l : Launch) (G : zG_t) (card : Int32) (player : Int32) (target : Int32) (L : zS_t) (T : zS_t) (E : zS_t) (V : zS_t) (M : zS_t) (K : zS_t) (hIT : zIT T) : zCI l G.1 (zty G) yX4_enter wsX4_enter rmX4_enter [.ref (G.2.2 0 0), .int card, .int player, .int target] (zWL G L T E V M K) ((mX4_enter card player target L T).1) (zWL G ((mX4_enter card player target L T).2.1) ((mX4_enter card player target L T).2.2) E V M K) := by
  obtain ⟨X, hE⟩ : ∃ z, mX4_enter card player target L T = z := ⟨_, rfl⟩
  rw [hE]
  refine zb_I (cc := cX4_enter) (maxL := 4) (by decide) rfl (Nat.le_of_ble_eq_true rfl) ?_
  intro p e s m args below meth c Q A F hret
  show zW p l e rmX4_enter s m args below meth c 0 0 Q G.1 A 4 (zWL G L T E V M K) [(0, .ref (G.2.2 0 0)), (1, .int card), (2, .int player), (3, .int target)] 0 []
  have k_0 : Int32.toInt 0 = 0 := by decide
  have k_1 : Int32.toInt 1 = 1 := by decide
  obtain ⟨i17, i18⟩ := id hIT
  unfold mX4_enter at hE
  refine zi_aload_n (pc := 0) F dX4_enter_0 0 rfl ?_
  refine zi_get (pc := 1) (C := RX4) (T := TX4) (N := 11) (v := .ref (G.2.2 1 0)) F (hw_X4_enter_X4) 0 rfl rfl 1 (by decide) (List.mem_of_getElem? (i := 1) rfl) rfl rfl dX4_enter_1 ?_
  refine zi_iload_n (pc := 4) F dX4_enter_4 1 rfl ?_
  refine zi_iload_n (pc := 5) F dX4_enter_5 2 rfl ?_
  refine zi_iload_n (pc := 6) F dX4_enter_6 3 rfl ?_
  refine zi_aload_n (pc := 7) F dX4_enter_7 0 rfl ?_
  have hM4 := c_X4_newId l G  L T E V M K 
  obtain ⟨⟨r1, L2⟩, e3⟩ : ∃ z, mX4_newId L = z := ⟨_, rfl⟩
  have hE := zbnd2_cut hE e3
  rw [e3] at hM4
  refine zi_callVI (pc := 8) (rest := [.int target, .int player, .int card, .ref (G.2.2 1 0)]) (ws' := zWL G L2 T E V M K) F hM4 (cwV 0 F.1.2.2.2.2 gX4_enter_X4_newId rfl rfl rfl hd_X4_newId ⟨Nat.le_of_ble_eq_true rfl, Nat.le_of_ble_eq_true rfl⟩) 0 rfl rfl _ _ (zw_nil _) (zw_nil _).symm rfl rfl (Nat.le_of_ble_eq_true rfl) dX4_enter_8 ⟨Nat.zero_le _, Nat.zero_le _⟩ ?_
  have hM8 := c_X2_add l G card player target r1 T (hIT)
  have pp9 := pp_X2_add card player target r1 T (hIT)
  obtain ⟨⟨r5, T6⟩, e7⟩ : ∃ z, mX2_add card player target r1 T = z := ⟨_, rfl⟩
  have hE := zbnd2_cut hE e7
  rw [e7] at hM8
  rw [e7] at pp9
  obtain ⟨hbr5, hIT6⟩ := pp9
  have hIT6 : zIT T6 := hIT6
  obtain ⟨i10, i11⟩ := id hIT6
  refine zi_callVI (pc := 11) (rest := []) (ws' := zWL G L2 T6 E V M K) F hM8 (cwV 4 F.1.2.2.2.2 gX4_enter_X2_add rfl rfl rfl hd_X2_add ⟨Nat.le_of_ble_eq_true rfl, Nat.le_of_ble_eq_true rfl⟩) 0 rfl rfl _ _ (zwL_T G L2 T E V M K) (zwL_T G L2 T6 E V M K).symm rfl rfl (Nat.le_of_ble_eq_true rfl) dX4_enter_11 ⟨Nat.zero_le _, Nat.zero_le _⟩ ?_
  refine zi_if_eq (pc := 14) (tgt := 21) F dX4_enter_14 (by decide) (fun c12 => ?_) (fun c12 => ?_)
  · have hE := zite_t hE c12
    have t13 := congrArg Int32.toInt c12
    refine zi_iconst (pc := 21) (v := 0) F dX4_enter_21 rfl ?_
    subst hE
    exact hret _ _ dX4_enter_22
  · have hE := zite_f hE c12
    have t14 := zt_ne c12
    refine zi_iconst (pc := 17) (v := 1) F dX4_enter_17 rfl ?_
    refine zi_goto (pc := 18) (tgt := 22) F dX4_enter_18 (by decide) ?_
    subst hE
    exact hret _ _ dX4_enter_22
/-! X4_leave -/
def mX4_leave (place : Int32) (T : zS_t) : Int32 × zS_t := zbnd2 (mX2_remove place T) (fun r1 T2 => if r1 = 0 then (0, T2) else (2, T2))
set_option maxHeartbeats 4000000 in
set_option maxRecDepth 100000 in
theorem pp_X4_leave (place : Int32) (T : zS_t) (hIT : zIT T) : (zIT ((mX4_leave place T).2)) := by
  obtain ⟨X, hE⟩ : ∃ z, mX4_leave place T = z := ⟨_, rfl⟩
  rw [hE]
  have k_0 : Int32.toInt 0 = 0 := by decide
  have k_1 : Int32.toInt 1 = 1 := by decide
  have k_2 : Int32.toInt 2 = 2 := by decide
  obtain ⟨i11, i12⟩ := id hIT
  unfold mX4_leave at hE
  have pp5 := pp_X2_remove place T (hIT)
  obtain ⟨⟨r1, T2⟩, e3⟩ : ∃ z, mX2_remove place T = z := ⟨_, rfl⟩
  have hE := zbnd2_cut hE e3
  rw [e3] at pp5
  obtain ⟨hbr1, hIT2⟩ := pp5
  have hIT2 : zIT T2 := hIT2
  obtain ⟨i6, i7⟩ := id hIT2
  by_cases c8 : r1 = 0
  · have hE := zite_t hE c8
    have t9 := congrArg Int32.toInt c8
    subst hE
    exact hIT2
  · have hE := zite_f hE c8
    have t10 := zt_ne c8
    subst hE
    exact hIT2
theorem hw_X4_leave_X4 : ∀ w ∈ wsX40, w ∈ wsX4_leave := fun w h => List.mem_cons_of_mem _ (List.mem_append_left _ (List.mem_append_right _ (h)))
abbrev rmX4_leave : Room := { frames := 2, cells := 0, slots := 0, locals := 43 }
theorem hd_X4_leave : yX4_leave.cls = RX4 ∧ yX4_leave.cls ≠ "java/lang/invoke/MethodHandle" ∧ yX4_leave.cls ≠ "java/lang/invoke/VarHandle" ∧ (parseMethodDescriptor yX4_leave.desc).map (fun d => d.parameters.length) = some 1 := by decide +kernel
set_option maxHeartbeats 4000000 in
set_option maxRecDepth 100000 in
theorem c_X4_leave (l : Launch) (G : zG_t) (place : Int32) (L : zS_t) (T : zS_t) (E : zS_t) (V : zS_t) (M : zS_t) (K : zS_t) (hIT : zIT T) : zCI l G.1 (zty G) yX4_leave wsX4_leave rmX4_leave [.ref (G.2.2 0 0), .int place] (zWL G L T E V M K) ((mX4_leave place T).1) (zWL G L ((mX4_leave place T).2) E V M K) := by
  obtain ⟨X, hE⟩ : ∃ z, mX4_leave place T = z := ⟨_, rfl⟩
  rw [hE]
  refine zb_I (cc := cX4_leave) (maxL := 2) (by decide) rfl (Nat.le_of_ble_eq_true rfl) ?_
  intro p e s m args below meth c Q A F hret
  show zW p l e rmX4_leave s m args below meth c 0 0 Q G.1 A 2 (zWL G L T E V M K) [(0, .ref (G.2.2 0 0)), (1, .int place)] 0 []
  have k_0 : Int32.toInt 0 = 0 := by decide
  have k_1 : Int32.toInt 1 = 1 := by decide
  have k_2 : Int32.toInt 2 = 2 := by decide
  obtain ⟨i13, i14⟩ := id hIT
  unfold mX4_leave at hE
  refine zi_aload_n (pc := 0) F dX4_leave_0 0 rfl ?_
  refine zi_get (pc := 1) (C := RX4) (T := TX4) (N := 11) (v := .ref (G.2.2 1 0)) F (hw_X4_leave_X4) 0 rfl rfl 1 (by decide) (List.mem_of_getElem? (i := 1) rfl) rfl rfl dX4_leave_1 ?_
  refine zi_iload_n (pc := 4) F dX4_leave_4 1 rfl ?_
  have hM4 := c_X2_remove l G place T (hIT)
  have pp5 := pp_X2_remove place T (hIT)
  obtain ⟨⟨r1, T2⟩, e3⟩ : ∃ z, mX2_remove place T = z := ⟨_, rfl⟩
  have hE := zbnd2_cut hE e3
  rw [e3] at hM4
  rw [e3] at pp5
  obtain ⟨hbr1, hIT2⟩ := pp5
  have hIT2 : zIT T2 := hIT2
  obtain ⟨i6, i7⟩ := id hIT2
  refine zi_callVI (pc := 5) (rest := []) (ws' := zWL G L T2 E V M K) F hM4 (cwV 1 F.1.2.2.2.2 gX4_leave_X2_remove rfl rfl rfl hd_X2_remove ⟨Nat.le_of_ble_eq_true rfl, Nat.le_of_ble_eq_true rfl⟩) 0 rfl rfl _ _ (zwL_T G L T E V M K) (zwL_T G L T2 E V M K).symm rfl rfl (Nat.le_of_ble_eq_true rfl) dX4_leave_5 ⟨Nat.zero_le _, Nat.zero_le _⟩ ?_
  refine zi_if_eq (pc := 8) (tgt := 15) F dX4_leave_8 (by decide) (fun c8 => ?_) (fun c8 => ?_)
  · have hE := zite_t hE c8
    have t9 := congrArg Int32.toInt c8
    refine zi_iconst (pc := 15) (v := 0) F dX4_leave_15 rfl ?_
    subst hE
    exact hret _ _ dX4_leave_16
  · have hE := zite_f hE c8
    have t10 := zt_ne c8
    refine zi_iconst (pc := 11) (v := 2) F dX4_leave_11 rfl ?_
    refine zi_goto (pc := 12) (tgt := 16) F dX4_leave_12 (by decide) ?_
    subst hE
    exact hret _ _ dX4_leave_16
/-! X4_strike -/
def mX4_strike (place : Int32) (T : zS_t) (V : zS_t) : Int32 × zS_t × zS_t := zbnd (mX2_has place T) (fun r1 => if r1 = 0 then (0, T, V) else (zbnd (mX3_find 5 T V) (fun V9 => if 4 < (V9 2 place.toNatClampNeg) then (0, T, V9) else (zbnd2 (mX4_leave place T) (fun r15 T16 => (r15, T16, V9))))))
set_option maxHeartbeats 4000000 in
set_option maxRecDepth 100000 in
theorem pp_X4_strike (place : Int32) (T : zS_t) (V : zS_t) (hIT : zIT T) : (zIT ((mX4_strike place T V).2.1)) := by
  obtain ⟨X, hE⟩ : ∃ z, mX4_strike place T V = z := ⟨_, rfl⟩
  rw [hE]
  have k_0 : Int32.toInt 0 = 0 := by decide
  have k_1 : Int32.toInt 1 = 1 := by decide
  have k_4 : Int32.toInt 4 = 4 := by decide
  have k_5 : Int32.toInt 5 = 5 := by decide
  obtain ⟨i23, i24⟩ := id hIT
  unfold mX4_strike at hE
  have pp4 := pp_X2_has place T 
  obtain ⟨r1, e2⟩ : ∃ z, mX2_has place T = z := ⟨_, rfl⟩
  have hE := zbnd_cut hE e2
  rw [e2] at pp4
  obtain ⟨hbr1, q5, q6⟩ := pp4
  by_cases c7 : r1 = 0
  · have hE := zite_t hE c7
    have t8 := congrArg Int32.toInt c7
    subst hE
    exact hIT
  · have hE := zite_f hE c7
    have t9 := zt_ne c7
    obtain ⟨V10, e11⟩ : ∃ z, mX3_find 5 T V = z := ⟨_, rfl⟩
    have hE := zbnd_cut hE e11
    by_cases c13 : 4 < (V10 2 place.toNatClampNeg)
    · have hE := zite_t hE c13
      have t14 := zt_lt c13
      subst hE
      exact hIT
    · have hE := zite_f hE c13
      have t15 := zt_nlt c13
      have pp20 := pp_X4_leave place T (hIT)
      obtain ⟨⟨r16, T17⟩, e18⟩ : ∃ z, mX4_leave place T = z := ⟨_, rfl⟩
      have hE := zbnd2_cut hE e18
      rw [e18] at pp20
      have hIT17 := pp20
      have hIT17 : zIT T17 := hIT17
      obtain ⟨i21, i22⟩ := id hIT17
      subst hE
      exact hIT17
theorem hw_X4_strike_X3 : ∀ w ∈ wsX30, w ∈ wsX4_strike := fun w h => List.mem_cons_of_mem _ (List.mem_append_left _ (List.mem_append_right _ (h)))
theorem hw_X4_strike_X4 : ∀ w ∈ wsX40, w ∈ wsX4_strike := fun w h => List.mem_cons_of_mem _ (List.mem_append_left _ (List.mem_append_left _ (List.mem_append_right _ (h))))
abbrev rmX4_strike : Room := { frames := 3, cells := 0, slots := 0, locals := 73 }
theorem hd_X4_strike : yX4_strike.cls = RX4 ∧ yX4_strike.cls ≠ "java/lang/invoke/MethodHandle" ∧ yX4_strike.cls ≠ "java/lang/invoke/VarHandle" ∧ (parseMethodDescriptor yX4_strike.desc).map (fun d => d.parameters.length) = some 1 := by decide +kernel
set_option maxHeartbeats 4000000 in
set_option maxRecDepth 100000 in
theorem c_X4_strike (l : Launch) (G : zG_t) (place : Int32) (L : zS_t) (T : zS_t) (E : zS_t) (V : zS_t) (M : zS_t) (K : zS_t) (hIT : zIT T) : zCI l G.1 (zty G) yX4_strike wsX4_strike rmX4_strike [.ref (G.2.2 0 0), .int place] (zWL G L T E V M K) ((mX4_strike place T V).1) (zWL G L ((mX4_strike place T V).2.1) E ((mX4_strike place T V).2.2) M K) := by
  obtain ⟨X, hE⟩ : ∃ z, mX4_strike place T V = z := ⟨_, rfl⟩
  rw [hE]
  refine zb_I (cc := cX4_strike) (maxL := 2) (by decide) rfl (Nat.le_of_ble_eq_true rfl) ?_
  intro p e s m args below meth c Q A F hret
  show zW p l e rmX4_strike s m args below meth c 0 0 Q G.1 A 2 (zWL G L T E V M K) [(0, .ref (G.2.2 0 0)), (1, .int place)] 0 []
  have k_0 : Int32.toInt 0 = 0 := by decide
  have k_1 : Int32.toInt 1 = 1 := by decide
  have k_4 : Int32.toInt 4 = 4 := by decide
  have k_5 : Int32.toInt 5 = 5 := by decide
  obtain ⟨i25, i26⟩ := id hIT
  unfold mX4_strike at hE
  refine zi_aload_n (pc := 0) F dX4_strike_0 0 rfl ?_
  refine zi_get (pc := 1) (C := RX4) (T := TX4) (N := 11) (v := .ref (G.2.2 1 0)) F (hw_X4_strike_X4) 0 rfl rfl 1 (by decide) (List.mem_of_getElem? (i := 1) rfl) rfl rfl dX4_strike_1 ?_
  refine zi_iload_n (pc := 4) F dX4_strike_4 1 rfl ?_
  have hM3 := c_X2_has l G place T 
  have pp4 := pp_X2_has place T 
  obtain ⟨r1, e2⟩ : ∃ z, mX2_has place T = z := ⟨_, rfl⟩
  have hE := zbnd_cut hE e2
  rw [e2] at hM3
  rw [e2] at pp4
  obtain ⟨hbr1, q5, q6⟩ := pp4
  refine zi_callVI (pc := 5) (rest := []) (ws' := zWL G L T E V M K) F hM3 (cwV 1 F.1.2.2.2.2 gX4_strike_X2_has rfl rfl rfl hd_X2_has ⟨Nat.le_of_ble_eq_true rfl, Nat.le_of_ble_eq_true rfl⟩) 0 rfl rfl _ _ (zwL_T G L T E V M K) (zwL_T G L T E V M K).symm rfl rfl (Nat.le_of_ble_eq_true rfl) dX4_strike_5 ⟨Nat.zero_le _, Nat.zero_le _⟩ ?_
  refine zi_if_ne (pc := 8) (tgt := 13) F dX4_strike_8 (by decide) (fun c7 => ?_) (fun c7 => ?_)
  · have hE := zite_f hE c7
    have t8 := zt_ne c7
    refine zi_aload_n (pc := 13) F dX4_strike_13 0 rfl ?_
    refine zi_get (pc := 14) (C := RX4) (T := TX4) (N := 11) (v := .ref (G.2.2 3 0)) F (hw_X4_strike_X4) 0 rfl rfl 3 (by decide) (List.mem_of_getElem? (i := 2) rfl) rfl rfl dX4_strike_14 ?_
    refine zi_aload_n (pc := 17) F dX4_strike_17 0 rfl ?_
    refine zi_get (pc := 18) (C := RX4) (T := TX4) (N := 11) (v := .ref (G.2.2 1 0)) F (hw_X4_strike_X4) 0 rfl rfl 1 (by decide) (List.mem_of_getElem? (i := 1) rfl) rfl rfl dX4_strike_18 ?_
    refine zi_iconst (pc := 21) (v := 5) F dX4_strike_21 rfl ?_
    have hM11 := c_X3_find l G 5 T V (hIT) (by first | omega | (show Int32.toInt 5 ≤ 5; omega))
    obtain ⟨V9, e10⟩ : ∃ z, mX3_find 5 T V = z := ⟨_, rfl⟩
    have hE := zbnd_cut hE e10
    rw [e10] at hM11
    refine zi_callVV (pc := 22) (rest := []) (ws' := zWL G L T E V9 M K) F hM11 (cwV 2 F.1.2.2.2.2 gX4_strike_X3_find rfl rfl rfl hd_X3_find ⟨Nat.le_of_ble_eq_true rfl, Nat.le_of_ble_eq_true rfl⟩) 5 rfl rfl _ _ (zwL_V G L T E V M K) (zwL_V G L T E V9 M K).symm rfl rfl (Nat.le_of_ble_eq_true rfl) dX4_strike_22 ⟨Nat.zero_le _, Nat.zero_le _⟩ ?_
    refine zi_aload_n (pc := 25) F dX4_strike_25 0 rfl ?_
    refine zi_get (pc := 26) (C := RX4) (T := TX4) (N := 11) (v := .ref (G.2.2 3 0)) F (hw_X4_strike_X4) 0 rfl rfl 3 (by decide) (List.mem_of_getElem? (i := 2) rfl) rfl rfl dX4_strike_26 ?_
    refine zi_get (pc := 29) (C := RX3) (T := TX3) (N := 5) (v := .ref (G.2.2 3 3)) F (hw_X4_strike_X3) 13 rfl rfl 2 (by decide) (List.mem_of_getElem? (i := 3) rfl) rfl rfl dX4_strike_29 ?_
    refine zi_iload_n (pc := 32) F dX4_strike_32 1 rfl ?_
    refine zi_iald (pc := 33) (v := (V9 2 place.toNatClampNeg)) F 16 0 rfl rfl (zin (a := place) (by omega) (by omega)) rfl dX4_strike_33 ?_
    refine zi_iconst (pc := 34) (v := 4) F dX4_strike_34 rfl ?_
    refine zi_icmp_gt (pc := 35) (tgt := 46) F dX4_strike_35 (by decide) (fun c12 => ?_) (fun c12 => ?_)
    · have hE := zite_t hE c12
      have t13 := zt_lt c12
      refine zi_iconst (pc := 46) (v := 0) F dX4_strike_46 rfl ?_
      subst hE
      exact hret _ _ dX4_strike_47
    · have hE := zite_f hE c12
      have t14 := zt_nlt c12
      refine zi_aload_n (pc := 38) F dX4_strike_38 0 rfl ?_
      refine zi_iload_n (pc := 39) F dX4_strike_39 1 rfl ?_
      have hM18 := c_X4_leave l G place L T E V9 M K (hIT)
      have pp19 := pp_X4_leave place T (hIT)
      obtain ⟨⟨r15, T16⟩, e17⟩ : ∃ z, mX4_leave place T = z := ⟨_, rfl⟩
      have hE := zbnd2_cut hE e17
      rw [e17] at hM18
      rw [e17] at pp19
      have hIT16 := pp19
      have hIT16 : zIT T16 := hIT16
      obtain ⟨i20, i21⟩ := id hIT16
      refine zi_callVI (pc := 40) (rest := []) (ws' := zWL G L T16 E V9 M K) F hM18 (cwV 1 F.1.2.2.2.2 gX4_strike_X4_leave rfl rfl rfl hd_X4_leave ⟨Nat.le_of_ble_eq_true rfl, Nat.le_of_ble_eq_true rfl⟩) 0 rfl rfl _ _ (zw_nil _) (zw_nil _).symm rfl rfl (Nat.le_of_ble_eq_true rfl) dX4_strike_40 ⟨Nat.zero_le _, Nat.zero_le _⟩ ?_
      refine zi_goto (pc := 43) (tgt := 47) F dX4_strike_43 (by decide) ?_
      subst hE
      exact hret _ _ dX4_strike_47
  · have hE := zite_t hE c7
    have t22 := congrArg Int32.toInt c7
    refine zi_iconst (pc := 11) (v := 0) F dX4_strike_11 rfl ?_
    subst hE
    exact hret _ _ dX4_strike_12
/-! X4_triggerEffect -/
def mX4_triggerEffect (card : Int32) (player : Int32) (L : zS_t) (T : zS_t) : Int32 × zS_t × zS_t := if card = 1 then (zbnd (mX4_pay player 2 L) (fun L3 => (0, L3, T))) else (if card = 9 then (zbnd (mX4_pay player 1 L) (fun L9 => (0, L9, T))) else (if card = 10 then (zbnd3 (mX4_enter 0 player (-1) L T) (fun r15 L16 T17 => (r15, L16, T17))) else (if card = 11 then (zbnd (mX2_firstOf 0 T) (fun r26 => zbnd2 (mX4_leave r26 T) (fun r29 T30 => (r29, L, T30)))) else (0, L, T))))
set_option maxHeartbeats 4000000 in
set_option maxRecDepth 100000 in
theorem pp_X4_triggerEffect (card : Int32) (player : Int32) (L : zS_t) (T : zS_t) (hIT : zIT T) : (zIT ((mX4_triggerEffect card player L T).2.2)) := by
  obtain ⟨X, hE⟩ : ∃ z, mX4_triggerEffect card player L T = z := ⟨_, rfl⟩
  rw [hE]
  have k_m1 : Int32.toInt (-1) = -1 := by decide
  have k_0 : Int32.toInt 0 = 0 := by decide
  have k_1 : Int32.toInt 1 = 1 := by decide
  have k_2 : Int32.toInt 2 = 2 := by decide
  obtain ⟨i37, i38⟩ := id hIT
  unfold mX4_triggerEffect at hE
  by_cases c1 : card = 1
  · have hE := zite_t hE c1
    have t2 : Int32.toInt card = 1 := by rw [c1]; rfl
    obtain ⟨L3, e4⟩ : ∃ z, mX4_pay player 2 L = z := ⟨_, rfl⟩
    have hE := zbnd_cut hE e4
    subst hE
    exact hIT
  · have hE := zite_f hE c1
    have t6 := lv_neT (a := 1) c1 rfl
    by_cases c7 : card = 9
    · have hE := zite_t hE c7
      have t8 : Int32.toInt card = 9 := by rw [c7]; rfl
      obtain ⟨L9, e10⟩ : ∃ z, mX4_pay player 1 L = z := ⟨_, rfl⟩
      have hE := zbnd_cut hE e10
      subst hE
      exact hIT
    · have hE := zite_f hE c7
      have t12 := lv_neT (a := 9) c7 rfl
      by_cases c13 : card = 10
      · have hE := zite_t hE c13
        have t14 : Int32.toInt card = 10 := by rw [c13]; rfl
        have pp20 := pp_X4_enter 0 player (-1) L T (hIT)
        obtain ⟨⟨r15, L16, T17⟩, e18⟩ : ∃ z, mX4_enter 0 player (-1) L T = z := ⟨_, rfl⟩
        have hE := zbnd3_cut hE e18
        rw [e18] at pp20
        have hIT17 := pp20
        have hIT17 : zIT T17 := hIT17
        obtain ⟨i21, i22⟩ := id hIT17
        subst hE
        exact hIT17
      · have hE := zite_f hE c13
        have t23 := lv_neT (a := 10) c13 rfl
        by_cases c24 : card = 11
        · have hE := zite_t hE c24
          have t25 : Int32.toInt card = 11 := by rw [c24]; rfl
          obtain ⟨r26, e27⟩ : ∃ z, mX2_firstOf 0 T = z := ⟨_, rfl⟩
          have hE := zbnd_cut hE e27
          have pp33 := pp_X4_leave r26 T (hIT)
          obtain ⟨⟨r29, T30⟩, e31⟩ : ∃ z, mX4_leave r26 T = z := ⟨_, rfl⟩
          have hE := zbnd2_cut hE e31
          rw [e31] at pp33
          have hIT30 := pp33
          have hIT30 : zIT T30 := hIT30
          obtain ⟨i34, i35⟩ := id hIT30
          subst hE
          exact hIT30
        · have hE := zite_f hE c24
          have t36 := lv_neT (a := 11) c24 rfl
          subst hE
          exact hIT
theorem hw_X4_triggerEffect_X4 : ∀ w ∈ wsX40, w ∈ wsX4_triggerEffect := fun w h => List.mem_cons_of_mem _ (List.mem_append_left _ (List.mem_append_right _ (h)))
abbrev rmX4_triggerEffect : Room := { frames := 3, cells := 0, slots := 0, locals := 64 }
theorem hd_X4_triggerEffect : yX4_triggerEffect.cls = RX4 ∧ yX4_triggerEffect.cls ≠ "java/lang/invoke/MethodHandle" ∧ yX4_triggerEffect.cls ≠ "java/lang/invoke/VarHandle" ∧ (parseMethodDescriptor yX4_triggerEffect.desc).map (fun d => d.parameters.length) = some 2 := by decide +kernel
set_option maxHeartbeats 4000000 in
set_option maxRecDepth 100000 in
theorem c_X4_triggerEffect (l : Launch) (G : zG_t) (card : Int32) (player : Int32) (L : zS_t) (T : zS_t) (E : zS_t) (V : zS_t) (M : zS_t) (K : zS_t) (hIT : zIT T) : zCI l G.1 (zty G) yX4_triggerEffect wsX4_triggerEffect rmX4_triggerEffect [.ref (G.2.2 0 0), .int card, .int player] (zWL G L T E V M K) ((mX4_triggerEffect card player L T).1) (zWL G ((mX4_triggerEffect card player L T).2.1) ((mX4_triggerEffect card player L T).2.2) E V M K) := by
  obtain ⟨X, hE⟩ : ∃ z, mX4_triggerEffect card player L T = z := ⟨_, rfl⟩
  rw [hE]
  refine zb_I (cc := cX4_triggerEffect) (maxL := 3) (by decide) rfl (Nat.le_of_ble_eq_true rfl) ?_
  intro p e s m args below meth c Q A F hret
  show zW p l e rmX4_triggerEffect s m args below meth c 0 0 Q G.1 A 3 (zWL G L T E V M K) [(0, .ref (G.2.2 0 0)), (1, .int card), (2, .int player)] 0 []
  have k_m1 : Int32.toInt (-1) = -1 := by decide
  have k_0 : Int32.toInt 0 = 0 := by decide
  have k_1 : Int32.toInt 1 = 1 := by decide
  have k_2 : Int32.toInt 2 = 2 := by decide
  obtain ⟨i39, i40⟩ := id hIT
  unfold mX4_triggerEffect at hE
  refine zi_iload_n (pc := 0) F dX4_triggerEffect_0 1 rfl ?_
  by_cases c1 : card = 1
  · have hE := zite_t hE c1
    have t2 : Int32.toInt card = 1 := by rw [c1]; rfl
    refine zi_lookup (pc := 1) (tgt := 44) (off := 43) F dX4_triggerEffect_1 (by decide) (by rw [t2]; rfl) (by decide) ?_
    refine zi_aload_n (pc := 44) F dX4_triggerEffect_44 0 rfl ?_
    refine zi_iload_n (pc := 45) F dX4_triggerEffect_45 2 rfl ?_
    refine zi_iconst (pc := 46) (v := 2) F dX4_triggerEffect_46 rfl ?_
    have hM5 := c_X4_pay l G player 2 L T E V M K 
    obtain ⟨L3, e4⟩ : ∃ z, mX4_pay player 2 L = z := ⟨_, rfl⟩
    have hE := zbnd_cut hE e4
    rw [e4] at hM5
    refine zi_callVV (pc := 47) (rest := []) (ws' := zWL G L3 T E V M K) F hM5 (cwV 2 F.1.2.2.2.2 gX4_triggerEffect_X4_pay rfl rfl rfl hd_X4_pay ⟨Nat.le_of_ble_eq_true rfl, Nat.le_of_ble_eq_true rfl⟩) 0 rfl rfl _ _ (zw_nil _) (zw_nil _).symm rfl rfl (Nat.le_of_ble_eq_true rfl) dX4_triggerEffect_47 ⟨Nat.zero_le _, Nat.zero_le _⟩ ?_
    refine zi_iconst (pc := 50) (v := 0) F dX4_triggerEffect_50 rfl ?_
    subst hE
    exact hret _ _ dX4_triggerEffect_51
  · have hE := zite_f hE c1
    have t6 := lv_neT (a := 1) c1 rfl
    by_cases c7 : card = 9
    · have hE := zite_t hE c7
      have t8 : Int32.toInt card = 9 := by rw [c7]; rfl
      refine zi_lookup (pc := 1) (tgt := 52) (off := 51) F dX4_triggerEffect_1 (by decide) (by rw [t8]; rfl) (by decide) ?_
      refine zi_aload_n (pc := 52) F dX4_triggerEffect_52 0 rfl ?_
      refine zi_iload_n (pc := 53) F dX4_triggerEffect_53 2 rfl ?_
      refine zi_iconst (pc := 54) (v := 1) F dX4_triggerEffect_54 rfl ?_
      have hM11 := c_X4_pay l G player 1 L T E V M K 
      obtain ⟨L9, e10⟩ : ∃ z, mX4_pay player 1 L = z := ⟨_, rfl⟩
      have hE := zbnd_cut hE e10
      rw [e10] at hM11
      refine zi_callVV (pc := 55) (rest := []) (ws' := zWL G L9 T E V M K) F hM11 (cwV 2 F.1.2.2.2.2 gX4_triggerEffect_X4_pay rfl rfl rfl hd_X4_pay ⟨Nat.le_of_ble_eq_true rfl, Nat.le_of_ble_eq_true rfl⟩) 0 rfl rfl _ _ (zw_nil _) (zw_nil _).symm rfl rfl (Nat.le_of_ble_eq_true rfl) dX4_triggerEffect_55 ⟨Nat.zero_le _, Nat.zero_le _⟩ ?_
      refine zi_iconst (pc := 58) (v := 0) F dX4_triggerEffect_58 rfl ?_
      subst hE
      exact hret _ _ dX4_triggerEffect_59
    · have hE := zite_f hE c7
      have t12 := lv_neT (a := 9) c7 rfl
      by_cases c13 : card = 10
      · have hE := zite_t hE c13
        have t14 : Int32.toInt card = 10 := by rw [c13]; rfl
        refine zi_lookup (pc := 1) (tgt := 60) (off := 59) F dX4_triggerEffect_1 (by decide) (by rw [t14]; rfl) (by decide) ?_
        refine zi_aload_n (pc := 60) F dX4_triggerEffect_60 0 rfl ?_
        refine zi_iconst (pc := 61) (v := 0) F dX4_triggerEffect_61 rfl ?_
        refine zi_iload_n (pc := 62) F dX4_triggerEffect_62 2 rfl ?_
        refine zi_iconst (pc := 63) (v := (-1)) F dX4_triggerEffect_63 rfl ?_
        have hM19 := c_X4_enter l G 0 player (-1) L T E V M K (hIT)
        have pp20 := pp_X4_enter 0 player (-1) L T (hIT)
        obtain ⟨⟨r15, L16, T17⟩, e18⟩ : ∃ z, mX4_enter 0 player (-1) L T = z := ⟨_, rfl⟩
        have hE := zbnd3_cut hE e18
        rw [e18] at hM19
        rw [e18] at pp20
        have hIT17 := pp20
        have hIT17 : zIT T17 := hIT17
        obtain ⟨i21, i22⟩ := id hIT17
        refine zi_callVI (pc := 64) (rest := []) (ws' := zWL G L16 T17 E V M K) F hM19 (cwV 3 F.1.2.2.2.2 gX4_triggerEffect_X4_enter rfl rfl rfl hd_X4_enter ⟨Nat.le_of_ble_eq_true rfl, Nat.le_of_ble_eq_true rfl⟩) 0 rfl rfl _ _ (zw_nil _) (zw_nil _).symm rfl rfl (Nat.le_of_ble_eq_true rfl) dX4_triggerEffect_64 ⟨Nat.zero_le _, Nat.zero_le _⟩ ?_
        subst hE
        exact hret _ _ dX4_triggerEffect_67
      · have hE := zite_f hE c13
        have t23 := lv_neT (a := 10) c13 rfl
        by_cases c24 : card = 11
        · have hE := zite_t hE c24
          have t25 : Int32.toInt card = 11 := by rw [c24]; rfl
          refine zi_lookup (pc := 1) (tgt := 68) (off := 67) F dX4_triggerEffect_1 (by decide) (by rw [t25]; rfl) (by decide) ?_
          refine zi_aload_n (pc := 68) F dX4_triggerEffect_68 0 rfl ?_
          refine zi_aload_n (pc := 69) F dX4_triggerEffect_69 0 rfl ?_
          refine zi_get (pc := 70) (C := RX4) (T := TX4) (N := 11) (v := .ref (G.2.2 1 0)) F (hw_X4_triggerEffect_X4) 0 rfl rfl 1 (by decide) (List.mem_of_getElem? (i := 1) rfl) rfl rfl dX4_triggerEffect_70 ?_
          refine zi_iconst (pc := 73) (v := 0) F dX4_triggerEffect_73 rfl ?_
          have hM28 := c_X2_firstOf l G 0 T (hIT)
          obtain ⟨r26, e27⟩ : ∃ z, mX2_firstOf 0 T = z := ⟨_, rfl⟩
          have hE := zbnd_cut hE e27
          rw [e27] at hM28
          refine zi_callVI (pc := 74) (rest := [.ref (G.2.2 0 0)]) (ws' := zWL G L T E V M K) F hM28 (cwV 1 F.1.2.2.2.2 gX4_triggerEffect_X2_firstOf rfl rfl rfl hd_X2_firstOf ⟨Nat.le_of_ble_eq_true rfl, Nat.le_of_ble_eq_true rfl⟩) 0 rfl rfl _ _ (zwL_T G L T E V M K) (zwL_T G L T E V M K).symm rfl rfl (Nat.le_of_ble_eq_true rfl) dX4_triggerEffect_74 ⟨Nat.zero_le _, Nat.zero_le _⟩ ?_
          have hM32 := c_X4_leave l G r26 L T E V M K (hIT)
          have pp33 := pp_X4_leave r26 T (hIT)
          obtain ⟨⟨r29, T30⟩, e31⟩ : ∃ z, mX4_leave r26 T = z := ⟨_, rfl⟩
          have hE := zbnd2_cut hE e31
          rw [e31] at hM32
          rw [e31] at pp33
          have hIT30 := pp33
          have hIT30 : zIT T30 := hIT30
          obtain ⟨i34, i35⟩ := id hIT30
          refine zi_callVI (pc := 77) (rest := []) (ws' := zWL G L T30 E V M K) F hM32 (cwV 1 F.1.2.2.2.2 gX4_triggerEffect_X4_leave rfl rfl rfl hd_X4_leave ⟨Nat.le_of_ble_eq_true rfl, Nat.le_of_ble_eq_true rfl⟩) 0 rfl rfl _ _ (zw_nil _) (zw_nil _).symm rfl rfl (Nat.le_of_ble_eq_true rfl) dX4_triggerEffect_77 ⟨Nat.zero_le _, Nat.zero_le _⟩ ?_
          subst hE
          exact hret _ _ dX4_triggerEffect_80
        · have hE := zite_f hE c24
          have t36 := lv_neT (a := 11) c24 rfl
          refine zi_lookup (pc := 1) (tgt := 81) (off := 80) F dX4_triggerEffect_1 (by decide) ((lv_osw c1 rfl).trans ((lv_osw c7 rfl).trans ((lv_osw c13 rfl).trans ((lv_osw c24 rfl).trans rfl)))) (by decide) ?_
          refine zi_iconst (pc := 81) (v := 0) F dX4_triggerEffect_81 rfl ?_
          subst hE
          exact hret _ _ dX4_triggerEffect_82
/-! X4_cardEffect -/
def mX4_cardEffect (card : Int32) (player : Int32) (target : Int32) (L : zS_t) (T : zS_t) (E : zS_t) (V : zS_t) : Int32 × zS_t × zS_t × zS_t × zS_t := zbnd (mX4_isThing card) (fun r1 => if r1 = 0 then (if card = 12 then (zbnd (mX2_placeOf target T) (fun r24 => zbnd3 (mX4_strike r24 T V) (fun r27 T28 V29 => (r27, L, T28, E, V29)))) else (zbnd (mX0_placeOf target E) (fun r9 => zbnd (mX0_indexOf r9 E) (fun r12 => zbnd (mX0_remove r12 E) (fun E17 => (0, L, T, E17, V)))))) else (zbnd3 (mX4_enter card player target L T) (fun r36 L37 T38 => (r36, L37, T38, E, V))))
set_option maxHeartbeats 4000000 in
set_option maxRecDepth 100000 in
theorem pp_X4_cardEffect (card : Int32) (player : Int32) (target : Int32) (L : zS_t) (T : zS_t) (E : zS_t) (V : zS_t) (hIT : zIT T) (hIE : zIE E) : (zIT ((mX4_cardEffect card player target L T E V).2.2.1)) ∧ (zIE ((mX4_cardEffect card player target L T E V).2.2.2.1)) := by
  obtain ⟨X, hE⟩ : ∃ z, mX4_cardEffect card player target L T E V = z := ⟨_, rfl⟩
  rw [hE]
  have k_0 : Int32.toInt 0 = 0 := by decide
  have k_1 : Int32.toInt 1 = 1 := by decide
  have k_12 : Int32.toInt 12 = 12 := by decide
  obtain ⟨i44, i45⟩ := id hIT
  obtain ⟨⟨i46, i47⟩, hIE_b1⟩ := id hIE
  unfold mX4_cardEffect at hE
  have pp4 := pp_X4_isThing card  
  obtain ⟨r1, e2⟩ : ∃ z, mX4_isThing card = z := ⟨_, rfl⟩
  have hE := zbnd_cut hE e2
  rw [e2] at pp4
  have hbr1 := pp4
  by_cases c5 : r1 = 0
  · have hE := zite_t hE c5
    have t6 := congrArg Int32.toInt c5
    by_cases c7 : card = 12
    · have hE := zite_t hE c7
      have t8 := congrArg Int32.toInt c7
      obtain ⟨r9, e10⟩ : ∃ z, mX2_placeOf target T = z := ⟨_, rfl⟩
      have hE := zbnd_cut hE e10
      have pp17 := pp_X4_strike r9 T V (hIT)
      obtain ⟨⟨r12, T13, V14⟩, e15⟩ : ∃ z, mX4_strike r9 T V = z := ⟨_, rfl⟩
      have hE := zbnd3_cut hE e15
      rw [e15] at pp17
      have hIT13 := pp17
      have hIT13 : zIT T13 := hIT13
      obtain ⟨i18, i19⟩ := id hIT13
      subst hE
      exact ⟨hIT13, hIE⟩
    · have hE := zite_f hE c7
      have t20 := zt_ne c7
      obtain ⟨r21, e22⟩ : ∃ z, mX0_placeOf target E = z := ⟨_, rfl⟩
      have hE := zbnd_cut hE e22
      have pp27 := pp_X0_indexOf r21 E (hIE)
      obtain ⟨r24, e25⟩ : ∃ z, mX0_indexOf r21 E = z := ⟨_, rfl⟩
      have hE := zbnd_cut hE e25
      rw [e25] at pp27
      have q28 := pp27
      have pp32 := pp_X0_remove r24 E (hIE)
      obtain ⟨E29, e30⟩ : ∃ z, mX0_remove r24 E = z := ⟨_, rfl⟩
      have hE := zbnd_cut hE e30
      rw [e30] at pp32
      have hIE29 := pp32
      obtain ⟨⟨i33, i34⟩, hIE29_b1⟩ := id hIE29
      subst hE
      exact ⟨hIT, hIE29⟩
  · have hE := zite_f hE c5
    have t35 := zt_ne c5
    have pp41 := pp_X4_enter card player target L T (hIT)
    obtain ⟨⟨r36, L37, T38⟩, e39⟩ : ∃ z, mX4_enter card player target L T = z := ⟨_, rfl⟩
    have hE := zbnd3_cut hE e39
    rw [e39] at pp41
    have hIT38 := pp41
    have hIT38 : zIT T38 := hIT38
    obtain ⟨i42, i43⟩ := id hIT38
    subst hE
    exact ⟨hIT38, hIE⟩
theorem hw_X4_cardEffect_X4 : ∀ w ∈ wsX40, w ∈ wsX4_cardEffect := fun w h => List.mem_cons_of_mem _ (List.mem_append_left _ (List.mem_append_left _ (List.mem_append_left _ (List.mem_append_right _ (h)))))
abbrev rmX4_cardEffect : Room := { frames := 4, cells := 0, slots := 0, locals := 94 }
theorem hd_X4_cardEffect : yX4_cardEffect.cls = RX4 ∧ yX4_cardEffect.cls ≠ "java/lang/invoke/MethodHandle" ∧ yX4_cardEffect.cls ≠ "java/lang/invoke/VarHandle" ∧ (parseMethodDescriptor yX4_cardEffect.desc).map (fun d => d.parameters.length) = some 3 := by decide +kernel
set_option maxHeartbeats 4000000 in
set_option maxRecDepth 100000 in
theorem c_X4_cardEffect (l : Launch) (G : zG_t) (card : Int32) (player : Int32) (target : Int32) (L : zS_t) (T : zS_t) (E : zS_t) (V : zS_t) (M : zS_t) (K : zS_t) (hIT : zIT T) (hIE : zIE E) : zCI l G.1 (zty G) yX4_cardEffect wsX4_cardEffect rmX4_cardEffect [.ref (G.2.2 0 0), .int card, .int player, .int target] (zWL G L T E V M K) ((mX4_cardEffect card player target L T E V).1) (zWL G ((mX4_cardEffect card player target L T E V).2.1) ((mX4_cardEffect card player target L T E V).2.2.1) ((mX4_cardEffect card player target L T E V).2.2.2.1) ((mX4_cardEffect card player target L T E V).2.2.2.2) M K) := by
  obtain ⟨X, hE⟩ : ∃ z, mX4_cardEffect card player target L T E V = z := ⟨_, rfl⟩
  rw [hE]
  refine zb_I (cc := cX4_cardEffect) (maxL := 4) (by decide) rfl (Nat.le_of_ble_eq_true rfl) ?_
  intro p e s m args below meth c Q A F hret
  show zW p l e rmX4_cardEffect s m args below meth c 0 0 Q G.1 A 4 (zWL G L T E V M K) [(0, .ref (G.2.2 0 0)), (1, .int card), (2, .int player), (3, .int target)] 0 []
  have k_0 : Int32.toInt 0 = 0 := by decide
  have k_1 : Int32.toInt 1 = 1 := by decide
  have k_12 : Int32.toInt 12 = 12 := by decide
  obtain ⟨i48, i49⟩ := id hIT
  obtain ⟨⟨i50, i51⟩, hIE_b1⟩ := id hIE
  unfold mX4_cardEffect at hE
  refine zi_iload_n (pc := 0) F dX4_cardEffect_0 1 rfl ?_
  have hM3 := c_X4_isThing l G card  
  have pp4 := pp_X4_isThing card  
  obtain ⟨r1, e2⟩ : ∃ z, mX4_isThing card = z := ⟨_, rfl⟩
  have hE := zbnd_cut hE e2
  rw [e2] at hM3
  rw [e2] at pp4
  have hbr1 := pp4
  refine zi_callSI (pc := 1) (rest := []) (ws' := zWL G L T E V M K) F hM3 (va_cwS 1 F.1.2.2.2.2 gX4_cardEffect_X4_isThing rfl rfl rfl hd_X4_isThing.2 ⟨Nat.le_of_ble_eq_true rfl, Nat.le_of_ble_eq_true rfl⟩) _ _ rfl rfl rfl rfl (Nat.le_of_ble_eq_true rfl) dX4_cardEffect_1 ⟨Nat.zero_le _, Nat.zero_le _⟩ ?_
  refine zi_if_eq (pc := 4) (tgt := 15) F dX4_cardEffect_4 (by decide) (fun c5 => ?_) (fun c5 => ?_)
  · have hE := zite_t hE c5
    have t6 := congrArg Int32.toInt c5
    refine zi_iload_n (pc := 15) F dX4_cardEffect_15 1 rfl ?_
    refine zi_bipush (pc := 16) (v := 12) F dX4_cardEffect_16 rfl ?_
    refine zi_icmp_ne (pc := 18) (tgt := 34) F dX4_cardEffect_18 (by decide) (fun c7 => ?_) (fun c7 => ?_)
    · have hE := zite_f hE c7
      have t8 := zt_ne c7
      refine zi_aload_n (pc := 34) F dX4_cardEffect_34 0 rfl ?_
      refine zi_get (pc := 35) (C := RX4) (T := TX4) (N := 11) (v := .ref (G.2.2 2 0)) F (hw_X4_cardEffect_X4) 0 rfl rfl 2 (by decide) (List.mem_of_getElem? (i := 2) rfl) rfl rfl dX4_cardEffect_35 ?_
      refine zi_aload_n (pc := 38) F dX4_cardEffect_38 0 rfl ?_
      refine zi_get (pc := 39) (C := RX4) (T := TX4) (N := 11) (v := .ref (G.2.2 2 0)) F (hw_X4_cardEffect_X4) 0 rfl rfl 2 (by decide) (List.mem_of_getElem? (i := 2) rfl) rfl rfl dX4_cardEffect_39 ?_
      refine zi_aload_n (pc := 42) F dX4_cardEffect_42 0 rfl ?_
      refine zi_get (pc := 43) (C := RX4) (T := TX4) (N := 11) (v := .ref (G.2.2 2 0)) F (hw_X4_cardEffect_X4) 0 rfl rfl 2 (by decide) (List.mem_of_getElem? (i := 2) rfl) rfl rfl dX4_cardEffect_43 ?_
      refine zi_iload_n (pc := 46) F dX4_cardEffect_46 3 rfl ?_
      have hM11 := c_X0_placeOf l G target E (hIE)
      obtain ⟨r9, e10⟩ : ∃ z, mX0_placeOf target E = z := ⟨_, rfl⟩
      have hE := zbnd_cut hE e10
      rw [e10] at hM11
      refine zi_callVI (pc := 47) (rest := [.ref (G.2.2 2 0), .ref (G.2.2 2 0)]) (ws' := zWL G L T E V M K) F hM11 (cwV 1 F.1.2.2.2.2 gX4_cardEffect_X0_placeOf rfl rfl rfl hd_X0_placeOf ⟨Nat.le_of_ble_eq_true rfl, Nat.le_of_ble_eq_true rfl⟩) 0 rfl rfl _ _ (zwL_E G L T E V M K) (zwL_E G L T E V M K).symm rfl rfl (Nat.le_of_ble_eq_true rfl) dX4_cardEffect_47 ⟨Nat.zero_le _, Nat.zero_le _⟩ ?_
      have hM14 := c_X0_indexOf l G r9 E (hIE)
      have pp15 := pp_X0_indexOf r9 E (hIE)
      obtain ⟨r12, e13⟩ : ∃ z, mX0_indexOf r9 E = z := ⟨_, rfl⟩
      have hE := zbnd_cut hE e13
      rw [e13] at hM14
      rw [e13] at pp15
      have q16 := pp15
      refine zi_callVI (pc := 50) (rest := [.ref (G.2.2 2 0)]) (ws' := zWL G L T E V M K) F hM14 (cwV 1 F.1.2.2.2.2 gX4_cardEffect_X0_indexOf rfl rfl rfl hd_X0_indexOf ⟨Nat.le_of_ble_eq_true rfl, Nat.le_of_ble_eq_true rfl⟩) 0 rfl rfl _ _ (zwL_E G L T E V M K) (zwL_E G L T E V M K).symm rfl rfl (Nat.le_of_ble_eq_true rfl) dX4_cardEffect_50 ⟨Nat.zero_le _, Nat.zero_le _⟩ ?_
      have hM19 := c_X0_remove l G r12 E (hIE)
      have pp20 := pp_X0_remove r12 E (hIE)
      obtain ⟨E17, e18⟩ : ∃ z, mX0_remove r12 E = z := ⟨_, rfl⟩
      have hE := zbnd_cut hE e18
      rw [e18] at hM19
      rw [e18] at pp20
      have hIE17 := pp20
      obtain ⟨⟨i21, i22⟩, hIE17_b1⟩ := id hIE17
      refine zi_callVV (pc := 53) (rest := []) (ws' := zWL G L T E17 V M K) F hM19 (cwV 1 F.1.2.2.2.2 gX4_cardEffect_X0_remove rfl rfl rfl hd_X0_remove ⟨Nat.le_of_ble_eq_true rfl, Nat.le_of_ble_eq_true rfl⟩) 0 rfl rfl _ _ (zwL_E G L T E V M K) (zwL_E G L T E17 V M K).symm rfl rfl (Nat.le_of_ble_eq_true rfl) dX4_cardEffect_53 ⟨Nat.zero_le _, Nat.zero_le _⟩ ?_
      refine zi_iconst (pc := 56) (v := 0) F dX4_cardEffect_56 rfl ?_
      subst hE
      exact hret _ _ dX4_cardEffect_57
    · have hE := zite_t hE c7
      have t23 := congrArg Int32.toInt c7
      refine zi_aload_n (pc := 21) F dX4_cardEffect_21 0 rfl ?_
      refine zi_aload_n (pc := 22) F dX4_cardEffect_22 0 rfl ?_
      refine zi_get (pc := 23) (C := RX4) (T := TX4) (N := 11) (v := .ref (G.2.2 1 0)) F (hw_X4_cardEffect_X4) 0 rfl rfl 1 (by decide) (List.mem_of_getElem? (i := 1) rfl) rfl rfl dX4_cardEffect_23 ?_
      refine zi_iload_n (pc := 26) F dX4_cardEffect_26 3 rfl ?_
      have hM26 := c_X2_placeOf l G target T (hIT)
      obtain ⟨r24, e25⟩ : ∃ z, mX2_placeOf target T = z := ⟨_, rfl⟩
      have hE := zbnd_cut hE e25
      rw [e25] at hM26
      refine zi_callVI (pc := 27) (rest := [.ref (G.2.2 0 0)]) (ws' := zWL G L T E V M K) F hM26 (cwV 1 F.1.2.2.2.2 gX4_cardEffect_X2_placeOf rfl rfl rfl hd_X2_placeOf ⟨Nat.le_of_ble_eq_true rfl, Nat.le_of_ble_eq_true rfl⟩) 0 rfl rfl _ _ (zwL_T G L T E V M K) (zwL_T G L T E V M K).symm rfl rfl (Nat.le_of_ble_eq_true rfl) dX4_cardEffect_27 ⟨Nat.zero_le _, Nat.zero_le _⟩ ?_
      have hM31 := c_X4_strike l G r24 L T E V M K (hIT)
      have pp32 := pp_X4_strike r24 T V (hIT)
      obtain ⟨⟨r27, T28, V29⟩, e30⟩ : ∃ z, mX4_strike r24 T V = z := ⟨_, rfl⟩
      have hE := zbnd3_cut hE e30
      rw [e30] at hM31
      rw [e30] at pp32
      have hIT28 := pp32
      have hIT28 : zIT T28 := hIT28
      obtain ⟨i33, i34⟩ := id hIT28
      refine zi_callVI (pc := 30) (rest := []) (ws' := zWL G L T28 E V29 M K) F hM31 (cwV 1 F.1.2.2.2.2 gX4_cardEffect_X4_strike rfl rfl rfl hd_X4_strike ⟨Nat.le_of_ble_eq_true rfl, Nat.le_of_ble_eq_true rfl⟩) 0 rfl rfl _ _ (zw_nil _) (zw_nil _).symm rfl rfl (Nat.le_of_ble_eq_true rfl) dX4_cardEffect_30 ⟨Nat.zero_le _, Nat.zero_le _⟩ ?_
      subst hE
      exact hret _ _ dX4_cardEffect_33
  · have hE := zite_f hE c5
    have t35 := zt_ne c5
    refine zi_aload_n (pc := 7) F dX4_cardEffect_7 0 rfl ?_
    refine zi_iload_n (pc := 8) F dX4_cardEffect_8 1 rfl ?_
    refine zi_iload_n (pc := 9) F dX4_cardEffect_9 2 rfl ?_
    refine zi_iload_n (pc := 10) F dX4_cardEffect_10 3 rfl ?_
    have hM40 := c_X4_enter l G card player target L T E V M K (hIT)
    have pp41 := pp_X4_enter card player target L T (hIT)
    obtain ⟨⟨r36, L37, T38⟩, e39⟩ : ∃ z, mX4_enter card player target L T = z := ⟨_, rfl⟩
    have hE := zbnd3_cut hE e39
    rw [e39] at hM40
    rw [e39] at pp41
    have hIT38 := pp41
    have hIT38 : zIT T38 := hIT38
    obtain ⟨i42, i43⟩ := id hIT38
    refine zi_callVI (pc := 11) (rest := []) (ws' := zWL G L37 T38 E V M K) F hM40 (cwV 3 F.1.2.2.2.2 gX4_cardEffect_X4_enter rfl rfl rfl hd_X4_enter ⟨Nat.le_of_ble_eq_true rfl, Nat.le_of_ble_eq_true rfl⟩) 0 rfl rfl _ _ (zw_nil _) (zw_nil _).symm rfl rfl (Nat.le_of_ble_eq_true rfl) dX4_cardEffect_11 ⟨Nat.zero_le _, Nat.zero_le _⟩ ?_
    subst hE
    exact hret _ _ dX4_cardEffect_14
/-! X4_raiseTriggers -/
def mX4_raiseTriggers_S17 (event : Int32) (T : zS_t) : Int32 := if event = 1 then ((T 4 0) - 1) else (T 4 0)
def mX4_raiseTriggers_L59 (event : Int32) (w9 : Int32) (k3_132 : Int32) (T : zS_t) (V3 : zS_t) : Nat → Int32 → zS_t → zS_t → Int32 × zS_t × zS_t
  | 0, k5_187, L188, E189 => (k5_187, L188, E189)
  | n190 + 1, k5_187, L188, E189 => if w9 ≤ k5_187 then (k5_187, L188, E189) else (zbnd ((T 0 k5_187.toNatClampNeg)) (fun y203 => if (V3 0 k5_187.toNatClampNeg) = k3_132 then (zbnd (mX4_hasTrigger y203 event k3_132 L188) (fun r213 => if r213 = 0 then (zbnd ((k5_187 + 1)) (fun y219 => mX4_raiseTriggers_L59 event w9 k3_132 T V3 n190 y219 L188 E189)) else (zbnd2 (mX4_newId L188) (fun r224 L225 => zbnd (mX0_push y203 1 k3_132 (-1) r224 E189) (fun E228 => zbnd ((k5_187 + 1)) (fun y234 => mX4_raiseTriggers_L59 event w9 k3_132 T V3 n190 y234 L225 E228)))))) else (zbnd ((k5_187 + 1)) (fun y208 => mX4_raiseTriggers_L59 event w9 k3_132 T V3 n190 y208 L188 E189))))
def mX4_raiseTriggers_L50 (event : Int32) (w9 : Int32) (T : zS_t) (V3 : zS_t) : Nat → Int32 → Int32 → zS_t → zS_t → Int32 × Int32 × zS_t × zS_t
  | 0, k3_132, k4_133, L134, E135 => (k3_132, k4_133, L134, E135)
  | n136 + 1, k3_132, k4_133, L134, E135 => if 3 ≤ k4_133 then (k3_132, k4_133, L134, E135) else (zbnd3 (mX4_raiseTriggers_L59 event w9 k3_132 T V3 11 0 L134 E135) (fun k5_238 L239 E240 => zbnd (mX4_nextPlayer k3_132) (fun r247 => zbnd ((k4_133 + 1)) (fun y250 => mX4_raiseTriggers_L50 event w9 T V3 n136 r247 y250 L239 E240))))
def mX4_raiseTriggers (event : Int32) (L : zS_t) (T : zS_t) (E : zS_t) (V : zS_t) : zS_t × zS_t × zS_t := if event = 0 then (L, E, V) else (zbnd (mX3_find 5 T V) (fun V3 => zbnd (mX4_raiseTriggers_S17 event T) (fun w9 => zbnd ((L 5 0)) (fun y21 => zbnd4 (mX4_raiseTriggers_L50 event w9 T V3 4 y21 0 L E) (fun k3_254 k4_255 L256 E257 => (L256, E257, V3))))))
set_option maxHeartbeats 4000000 in
set_option maxRecDepth 100000 in
theorem pp_X4_raiseTriggers (event : Int32) (L : zS_t) (T : zS_t) (E : zS_t) (V : zS_t) (hIT : zIT T) (hIE : zIE E) : (zIE ((mX4_raiseTriggers event L T E V).2.1)) := by
  obtain ⟨X, hE⟩ : ∃ z, mX4_raiseTriggers event L T E V = z := ⟨_, rfl⟩
  rw [hE]
  have k_m1 : Int32.toInt (-1) = -1 := by decide
  have k_0 : Int32.toInt 0 = 0 := by decide
  have k_1 : Int32.toInt 1 = 1 := by decide
  have k_3 : Int32.toInt 3 = 3 := by decide
  have k_5 : Int32.toInt 5 = 5 := by decide
  obtain ⟨i261, i262⟩ := id hIT
  obtain ⟨⟨i263, i264⟩, hIE_b1⟩ := id hIE
  unfold mX4_raiseTriggers at hE
  by_cases c1 : event = 0
  · have hE := zite_t hE c1
    have t2 := congrArg Int32.toInt c1
    subst hE
    exact hIE
  · have hE := zite_f hE c1
    have t3 := zt_ne c1
    obtain ⟨V4, e5⟩ : ∃ z, mX3_find 5 T V = z := ⟨_, rfl⟩
    have hE := zbnd_cut hE e5
    obtain ⟨w10, e11⟩ : ∃ z, mX4_raiseTriggers_S17 event T = z := ⟨_, rfl⟩
    have hE := zbnd_cut hE e11
    have hQ12 : (Int32.toInt w10 ≤ 10) := by
      have hE := e11
      unfold mX4_raiseTriggers_S17 at hE
      by_cases c13 : event = 1
      · have hE := zite_t hE c13
        have t14 := congrArg Int32.toInt c13
        try have t15 := zt_sub (a := (T 4 0)) (b := 1) (by omega) (by omega)
        subst hE
        exact by (show Int32.toInt ((T 4 0) - 1) ≤ 10; omega)
      · have hE := zite_f hE c13
        have t16 := zt_ne c13
        subst hE
        exact by (show Int32.toInt (T 4 0) ≤ 10; omega)
    have i17 := hQ12
    obtain ⟨y18, e19⟩ : ∃ z : Int32, (L 5 0) = z := ⟨_, rfl⟩
    have hE := zbnd_cut hE e19
    have t20 := congrArg Int32.toInt e19
    have hL50 : ∀ (n133 : Nat) (k3_129 : Int32) (k4_130 : Int32) (L131 : zS_t) (E132 : zS_t), (0 ≤ Int32.toInt k4_130) ∧ (Int32.toInt k4_130 ≤ 3) ∧ (zIE E132) → 4 - Int32.toInt k4_130 ≤ (n133 : Int) → ∀ Y134, mX4_raiseTriggers_L50 event w10 T V4 n133 k3_129 k4_130 L131 E132 = Y134 → (0 ≤ Int32.toInt Y134.2.1) ∧ (Int32.toInt Y134.2.1 ≤ 3) ∧ (zIE (Y134.2.2.2)) := by
      intro n133
      induction n133 with
      | zero =>
        intro k3_129 k4_130 L131 E132 hI hM9
        obtain ⟨i135, i136, hIE132⟩ := id hI
        obtain ⟨⟨i137, i138⟩, hIE132_b1⟩ := id hIE132
        exact absurd hM9 (by omega)
      | succ n133 ih =>
        intro k3_129 k4_130 L131 E132 hI hM9 Y134 hE
        obtain ⟨i139, i140, hIE132⟩ := id hI
        obtain ⟨⟨i141, i142⟩, hIE132_b1⟩ := id hIE132
        rw [mX4_raiseTriggers_L50.eq_2] at hE
        by_cases c143 : 3 ≤ k4_130
        · have hE := zite_t hE c143
          have t144 := zt_le c143
          subst hE
          exact ⟨by (show 0 ≤ Int32.toInt k4_130; omega), by (show Int32.toInt k4_130 ≤ 3; omega), hIE132⟩
        · have hE := zite_f hE c143
          have t145 := zt_nle c143
          have hL59 : ∀ (n187 : Nat) (k5_184 : Int32) (L185 : zS_t) (E186 : zS_t), (0 ≤ Int32.toInt k5_184) ∧ (Int32.toInt k5_184 ≤ 10) ∧ (zIE E186) → 11 - Int32.toInt k5_184 ≤ (n187 : Int) → ∀ Y188, mX4_raiseTriggers_L59 event w10 k3_129 T V4 n187 k5_184 L185 E186 = Y188 → (0 ≤ Int32.toInt Y188.1) ∧ (Int32.toInt Y188.1 ≤ 10) ∧ (zIE (Y188.2.2)) := by
            intro n187
            induction n187 with
            | zero =>
              intro k5_184 L185 E186 hI hM9
              obtain ⟨i189, i190, hIE186⟩ := id hI
              obtain ⟨⟨i191, i192⟩, hIE186_b1⟩ := id hIE186
              exact absurd hM9 (by omega)
            | succ n187 ih =>
              intro k5_184 L185 E186 hI hM9 Y188 hE
              obtain ⟨i193, i194, hIE186⟩ := id hI
              obtain ⟨⟨i195, i196⟩, hIE186_b1⟩ := id hIE186
              rw [mX4_raiseTriggers_L59.eq_2] at hE
              by_cases c197 : w10 ≤ k5_184
              · have hE := zite_t hE c197
                have t198 := zt_le c197
                subst hE
                exact ⟨by (show 0 ≤ Int32.toInt k5_184; omega), by (show Int32.toInt k5_184 ≤ 10; omega), hIE186⟩
              · have hE := zite_f hE c197
                have t199 := zt_nle c197
                obtain ⟨y200, e201⟩ : ∃ z : Int32, (T 0 k5_184.toNatClampNeg) = z := ⟨_, rfl⟩
                have hE := zbnd_cut hE e201
                have t202 := congrArg Int32.toInt e201
                by_cases c203 : (V4 0 k5_184.toNatClampNeg) = k3_129
                · have hE := zite_t hE c203
                  have t204 := congrArg Int32.toInt c203
                  have pp208 := pp_X4_hasTrigger y200 event k3_129 L185 
                  obtain ⟨r205, e206⟩ : ∃ z, mX4_hasTrigger y200 event k3_129 L185 = z := ⟨_, rfl⟩
                  have hE := zbnd_cut hE e206
                  rw [e206] at pp208
                  have hbr205 := pp208
                  by_cases c209 : r205 = 0
                  · have hE := zite_t hE c209
                    have t210 := congrArg Int32.toInt c209
                    try have t213 := zt_add (a := k5_184) (b := 1) (by omega) (by omega)
                    obtain ⟨y211, e212⟩ : ∃ z : Int32, (k5_184 + 1) = z := ⟨_, rfl⟩
                    have hE := zbnd_cut hE e212
                    have t214 := congrArg Int32.toInt e212
                    exact ih y211 L185 E186 (⟨by (show 0 ≤ Int32.toInt y211; omega), by (show Int32.toInt y211 ≤ 10; omega), hIE186⟩) (by omega) _ hE
                  · have hE := zite_f hE c209
                    have t215 := zt_ne c209
                    obtain ⟨⟨r216, L217⟩, e218⟩ : ∃ z, mX4_newId L185 = z := ⟨_, rfl⟩
                    have hE := zbnd2_cut hE e218
                    have pp223 := pp_X0_push y200 1 k3_129 (-1) r216 E186 (hIE186)
                    obtain ⟨E220, e221⟩ : ∃ z, mX0_push y200 1 k3_129 (-1) r216 E186 = z := ⟨_, rfl⟩
                    have hE := zbnd_cut hE e221
                    rw [e221] at pp223
                    have hIE220 := pp223
                    obtain ⟨⟨i224, i225⟩, hIE220_b1⟩ := id hIE220
                    try have t228 := zt_add (a := k5_184) (b := 1) (by omega) (by omega)
                    obtain ⟨y226, e227⟩ : ∃ z : Int32, (k5_184 + 1) = z := ⟨_, rfl⟩
                    have hE := zbnd_cut hE e227
                    have t229 := congrArg Int32.toInt e227
                    exact ih y226 L217 E220 (⟨by (show 0 ≤ Int32.toInt y226; omega), by (show Int32.toInt y226 ≤ 10; omega), hIE220⟩) (by omega) _ hE
                · have hE := zite_f hE c203
                  have t230 := zt_ne c203
                  try have t233 := zt_add (a := k5_184) (b := 1) (by omega) (by omega)
                  obtain ⟨y231, e232⟩ : ∃ z : Int32, (k5_184 + 1) = z := ⟨_, rfl⟩
                  have hE := zbnd_cut hE e232
                  have t234 := congrArg Int32.toInt e232
                  exact ih y231 L185 E186 (⟨by (show 0 ≤ Int32.toInt y231; omega), by (show Int32.toInt y231 ≤ 10; omega), hIE186⟩) (by omega) _ hE
          obtain ⟨⟨k5_235, L236, E237⟩, e238⟩ : ∃ z, mX4_raiseTriggers_L59 event w10 k3_129 T V4 11 0 L131 E132 = z := ⟨_, rfl⟩
          have hE := zbnd3_cut hE e238
          have hI239 := hL59 11 0 L131 E132 (⟨by (show 0 ≤ Int32.toInt 0; omega), by (show Int32.toInt 0 ≤ 10; omega), hIE132⟩) (by omega) _ e238
          have hI239 : (0 ≤ Int32.toInt k5_235) ∧ (Int32.toInt k5_235 ≤ 10) ∧ (zIE E237) := hI239
          obtain ⟨i240, i241, hIE237⟩ := id hI239
          obtain ⟨⟨i242, i243⟩, hIE237_b1⟩ := id hIE237
          obtain ⟨r244, e245⟩ : ∃ z, mX4_nextPlayer k3_129 = z := ⟨_, rfl⟩
          have hE := zbnd_cut hE e245
          try have t249 := zt_add (a := k4_130) (b := 1) (by omega) (by omega)
          obtain ⟨y247, e248⟩ : ∃ z : Int32, (k4_130 + 1) = z := ⟨_, rfl⟩
          have hE := zbnd_cut hE e248
          have t250 := congrArg Int32.toInt e248
          exact ih r244 y247 L236 E237 (⟨by (show 0 ≤ Int32.toInt y247; omega), by (show Int32.toInt y247 ≤ 3; omega), hIE237⟩) (by omega) _ hE
    obtain ⟨⟨k3_251, k4_252, L253, E254⟩, e255⟩ : ∃ z, mX4_raiseTriggers_L50 event w10 T V4 4 y18 0 L E = z := ⟨_, rfl⟩
    have hE := zbnd4_cut hE e255
    have hI256 := hL50 4 y18 0 L E (⟨by (show 0 ≤ Int32.toInt 0; omega), by (show Int32.toInt 0 ≤ 3; omega), hIE⟩) (by omega) _ e255
    have hI256 : (0 ≤ Int32.toInt k4_252) ∧ (Int32.toInt k4_252 ≤ 3) ∧ (zIE E254) := hI256
    obtain ⟨i257, i258, hIE254⟩ := id hI256
    obtain ⟨⟨i259, i260⟩, hIE254_b1⟩ := id hIE254
    subst hE
    exact hIE254
theorem hw_X4_raiseTriggers_X2 : ∀ w ∈ wsX20, w ∈ wsX4_raiseTriggers := fun w h => List.mem_cons_of_mem _ (List.mem_append_left _ (List.mem_append_left _ (List.mem_append_right _ (h))))
theorem hw_X4_raiseTriggers_X3 : ∀ w ∈ wsX30, w ∈ wsX4_raiseTriggers := fun w h => List.mem_cons_of_mem _ (List.mem_append_left _ (List.mem_append_right _ (h)))
theorem hw_X4_raiseTriggers_X4 : ∀ w ∈ wsX40, w ∈ wsX4_raiseTriggers := fun w h => List.mem_cons_of_mem _ (List.mem_append_left _ (List.mem_append_left _ (List.mem_append_left _ (List.mem_append_right _ (h)))))
abbrev rmX4_raiseTriggers : Room := { frames := 3, cells := 0, slots := 0, locals := 73 }
theorem hd_X4_raiseTriggers : yX4_raiseTriggers.cls = RX4 ∧ yX4_raiseTriggers.cls ≠ "java/lang/invoke/MethodHandle" ∧ yX4_raiseTriggers.cls ≠ "java/lang/invoke/VarHandle" ∧ (parseMethodDescriptor yX4_raiseTriggers.desc).map (fun d => d.parameters.length) = some 1 := by decide +kernel
set_option maxHeartbeats 4000000 in
set_option maxRecDepth 100000 in
theorem c_X4_raiseTriggers (l : Launch) (G : zG_t) (event : Int32) (L : zS_t) (T : zS_t) (E : zS_t) (V : zS_t) (M : zS_t) (K : zS_t) (hIT : zIT T) (hIE : zIE E) : zCV l G.1 (zty G) yX4_raiseTriggers wsX4_raiseTriggers rmX4_raiseTriggers [.ref (G.2.2 0 0), .int event] (zWL G L T E V M K) (zWL G ((mX4_raiseTriggers event L T E V).1) T ((mX4_raiseTriggers event L T E V).2.1) ((mX4_raiseTriggers event L T E V).2.2) M K) := by
  obtain ⟨X, hE⟩ : ∃ z, mX4_raiseTriggers event L T E V = z := ⟨_, rfl⟩
  rw [hE]
  refine zb_V (cc := cX4_raiseTriggers) (maxL := 7) (by decide) rfl (Nat.le_of_ble_eq_true rfl) ?_
  intro p e s m args below meth c Q A F hret
  show zW p l e rmX4_raiseTriggers s m args below meth c 0 0 Q G.1 A 7 (zWL G L T E V M K) [(0, .ref (G.2.2 0 0)), (1, .int event)] 0 []
  have k_m1 : Int32.toInt (-1) = -1 := by decide
  have k_0 : Int32.toInt 0 = 0 := by decide
  have k_1 : Int32.toInt 1 = 1 := by decide
  have k_3 : Int32.toInt 3 = 3 := by decide
  have k_5 : Int32.toInt 5 = 5 := by decide
  obtain ⟨i265, i266⟩ := id hIT
  obtain ⟨⟨i267, i268⟩, hIE_b1⟩ := id hIE
  unfold mX4_raiseTriggers at hE
  refine zi_iload_n (pc := 0) F dX4_raiseTriggers_0 1 rfl ?_
  refine zi_if_ne (pc := 1) (tgt := 5) F dX4_raiseTriggers_1 (by decide) (fun c1 => ?_) (fun c1 => ?_)
  · have hE := zite_f hE c1
    have t2 := zt_ne c1
    refine zi_aload_n (pc := 5) F dX4_raiseTriggers_5 0 rfl ?_
    refine zi_get (pc := 6) (C := RX4) (T := TX4) (N := 11) (v := .ref (G.2.2 3 0)) F (hw_X4_raiseTriggers_X4) 0 rfl rfl 3 (by decide) (List.mem_of_getElem? (i := 1) rfl) rfl rfl dX4_raiseTriggers_6 ?_
    refine zi_aload_n (pc := 9) F dX4_raiseTriggers_9 0 rfl ?_
    refine zi_get (pc := 10) (C := RX4) (T := TX4) (N := 11) (v := .ref (G.2.2 1 0)) F (hw_X4_raiseTriggers_X4) 0 rfl rfl 1 (by decide) (List.mem_of_getElem? (i := 2) rfl) rfl rfl dX4_raiseTriggers_10 ?_
    refine zi_iconst (pc := 13) (v := 5) F dX4_raiseTriggers_13 rfl ?_
    have hM5 := c_X3_find l G 5 T V (hIT) (by first | omega | (show Int32.toInt 5 ≤ 5; omega))
    obtain ⟨V3, e4⟩ : ∃ z, mX3_find 5 T V = z := ⟨_, rfl⟩
    have hE := zbnd_cut hE e4
    rw [e4] at hM5
    refine zi_callVV (pc := 14) (rest := []) (ws' := zWL G L T E V3 M K) F hM5 (cwV 2 F.1.2.2.2.2 gX4_raiseTriggers_X3_find rfl rfl rfl hd_X3_find ⟨Nat.le_of_ble_eq_true rfl, Nat.le_of_ble_eq_true rfl⟩) 5 rfl rfl _ _ (zwL_V G L T E V M K) (zwL_V G L T E V3 M K).symm rfl rfl (Nat.le_of_ble_eq_true rfl) dX4_raiseTriggers_14 ⟨Nat.zero_le _, Nat.zero_le _⟩ ?_
    obtain ⟨w9, e10⟩ : ∃ z, mX4_raiseTriggers_S17 event T = z := ⟨_, rfl⟩
    have hE := zbnd_cut hE e10
    have hQ11 : (Int32.toInt w9 ≤ 10) := by
      have hE := e10
      unfold mX4_raiseTriggers_S17 at hE
      by_cases c12 : event = 1
      · have hE := zite_t hE c12
        have t13 := congrArg Int32.toInt c12
        try have t14 := zt_sub (a := (T 4 0)) (b := 1) (by omega) (by omega)
        subst hE
        exact by (show Int32.toInt ((T 4 0) - 1) ≤ 10; omega)
      · have hE := zite_f hE c12
        have t15 := zt_ne c12
        subst hE
        exact by (show Int32.toInt (T 4 0) ≤ 10; omega)
    have i16 := hQ11
    have hK17 : zW p l e rmX4_raiseTriggers s m args below meth c 0 0 Q G.1 A 7 (zWL G L T E V3 M K) [(0, .ref (G.2.2 0 0)), (1, .int event)] 41 [.int w9] → zW p l e rmX4_raiseTriggers s m args below meth c 0 0 Q G.1 A 7 (zWL G L T E V3 M K) [(0, .ref (G.2.2 0 0)), (1, .int event)] 17 [] := by
      intro hK
      have hE := e10
      unfold mX4_raiseTriggers_S17 at hE
      refine zi_iload_n (pc := 17) F dX4_raiseTriggers_17 1 rfl ?_
      refine zi_iconst (pc := 18) (v := 1) F dX4_raiseTriggers_18 rfl ?_
      refine zi_icmp_ne (pc := 19) (tgt := 34) F dX4_raiseTriggers_19 (by decide) (fun c18 => ?_) (fun c18 => ?_)
      · have hE := zite_f hE c18
        have t19 := zt_ne c18
        refine zi_aload_n (pc := 34) F dX4_raiseTriggers_34 0 rfl ?_
        refine zi_get (pc := 35) (C := RX4) (T := TX4) (N := 11) (v := .ref (G.2.2 1 0)) F (hw_X4_raiseTriggers_X4) 0 rfl rfl 1 (by decide) (List.mem_of_getElem? (i := 2) rfl) rfl rfl dX4_raiseTriggers_35 ?_
        refine zi_get (pc := 38) (C := RX2) (T := TX2) (N := 5) (v := .int (T 4 0)) F (hw_X4_raiseTriggers_X2) 8 rfl rfl 4 (by decide) (List.mem_of_getElem? (i := 3) rfl) rfl rfl dX4_raiseTriggers_38 ?_
        subst hE
        exact zi_sub [0, 1] rfl hK
      · have hE := zite_t hE c18
        have t20 := congrArg Int32.toInt c18
        refine zi_aload_n (pc := 22) F dX4_raiseTriggers_22 0 rfl ?_
        refine zi_get (pc := 23) (C := RX4) (T := TX4) (N := 11) (v := .ref (G.2.2 1 0)) F (hw_X4_raiseTriggers_X4) 0 rfl rfl 1 (by decide) (List.mem_of_getElem? (i := 2) rfl) rfl rfl dX4_raiseTriggers_23 ?_
        refine zi_get (pc := 26) (C := RX2) (T := TX2) (N := 5) (v := .int (T 4 0)) F (hw_X4_raiseTriggers_X2) 8 rfl rfl 4 (by decide) (List.mem_of_getElem? (i := 3) rfl) rfl rfl dX4_raiseTriggers_26 ?_
        refine zi_iconst (pc := 29) (v := 1) F dX4_raiseTriggers_29 rfl ?_
        refine zi_isub (pc := 30) F dX4_raiseTriggers_30 ?_
        refine zi_goto (pc := 31) (tgt := 41) F dX4_raiseTriggers_31 (by decide) ?_
        subst hE
        exact zi_sub [0, 1] rfl hK
    refine hK17 ?_
    refine zi_istore_n (pc := 41) (lv' := [(0, .ref (G.2.2 0 0)), (1, .int event), (2, .int w9)]) F dX4_raiseTriggers_41 (by decide) rfl ?_
    refine zi_aload_n (pc := 42) F dX4_raiseTriggers_42 0 rfl ?_
    refine zi_get (pc := 43) (C := RX4) (T := TX4) (N := 11) (v := .int (L 5 0)) F (hw_X4_raiseTriggers_X4) 0 rfl rfl 5 (by decide) (List.mem_of_getElem? (i := 4) rfl) rfl rfl dX4_raiseTriggers_43 ?_
    refine zi_topi (fun y21 e22 => ?_)
    have hE := zbnd_cut hE e22
    have t23 := congrArg Int32.toInt e22
    refine zi_istore_n (pc := 46) (lv' := [(0, .ref (G.2.2 0 0)), (1, .int event), (2, .int w9), (3, .int y21)]) F dX4_raiseTriggers_46 (by decide) rfl ?_
    refine zi_iconst (pc := 47) (v := 0) F dX4_raiseTriggers_47 rfl ?_
    refine zi_istore (pc := 48) (lv' := [(0, .ref (G.2.2 0 0)), (1, .int event), (2, .int w9), (3, .int y21), (4, .int 0)]) F dX4_raiseTriggers_48 (by decide) rfl ?_
    have hL50 : ∀ (n136 : Nat) (k3_132 : Int32) (k4_133 : Int32) (L134 : zS_t) (E135 : zS_t), (0 ≤ Int32.toInt k4_133) ∧ (Int32.toInt k4_133 ≤ 3) ∧ (zIE E135) → 4 - Int32.toInt k4_133 ≤ (n136 : Int) → ∀ Y137, mX4_raiseTriggers_L50 event w9 T V3 n136 k3_132 k4_133 L134 E135 = Y137 → (((0 ≤ Int32.toInt Y137.2.1) ∧ (Int32.toInt Y137.2.1 ≤ 3) ∧ (zIE (Y137.2.2.2))) → zW p l e rmX4_raiseTriggers s m args below meth c 0 0 Q G.1 A 7 (zWL G (Y137.2.2.1) T (Y137.2.2.2) V3 M K) [(0, .ref (G.2.2 0 0)), (1, .int event), (2, .int w9), (3, .int Y137.1), (4, .int Y137.2.1)] 135 []) → zW p l e rmX4_raiseTriggers s m args below meth c 0 0 Q G.1 A 7 (zWL G L134 T E135 V3 M K) [(0, .ref (G.2.2 0 0)), (1, .int event), (2, .int w9), (3, .int k3_132), (4, .int k4_133)] 50 [] := by
      intro n136
      induction n136 with
      | zero =>
        intro k3_132 k4_133 L134 E135 hI hM9
        obtain ⟨i138, i139, hIE135⟩ := id hI
        obtain ⟨⟨i140, i141⟩, hIE135_b1⟩ := id hIE135
        exact absurd hM9 (by omega)
      | succ n136 ih =>
        intro k3_132 k4_133 L134 E135 hI hM9 Y137 hE hK
        obtain ⟨i142, i143, hIE135⟩ := id hI
        obtain ⟨⟨i144, i145⟩, hIE135_b1⟩ := id hIE135
        rw [mX4_raiseTriggers_L50.eq_2] at hE
        refine zi_iload (pc := 50) F dX4_raiseTriggers_50 4 rfl ?_
        refine zi_iconst (pc := 52) (v := 3) F dX4_raiseTriggers_52 rfl ?_
        refine zi_icmp_ge (pc := 53) (tgt := 135) F dX4_raiseTriggers_53 (by decide) (fun c146 => ?_) (fun c146 => ?_)
        · have hE := zite_t hE c146
          have t147 := zt_le c146
          subst hE
          refine zi_sub [0, 1, 2, 3, 4] rfl ?_
          exact hK (⟨by (show 0 ≤ Int32.toInt k4_133; omega), by (show Int32.toInt k4_133 ≤ 3; omega), hIE135⟩)
        · have hE := zite_f hE c146
          have t148 := zt_nle c146
          refine zi_iconst (pc := 56) (v := 0) F dX4_raiseTriggers_56 rfl ?_
          refine zi_istore (pc := 57) (lv' := [(0, .ref (G.2.2 0 0)), (1, .int event), (2, .int w9), (3, .int k3_132), (4, .int k4_133), (5, .int 0)]) F dX4_raiseTriggers_57 (by decide) rfl ?_
          have hL59 : ∀ (n190 : Nat) (k5_187 : Int32) (L188 : zS_t) (E189 : zS_t), (0 ≤ Int32.toInt k5_187) ∧ (Int32.toInt k5_187 ≤ 10) ∧ (zIE E189) → 11 - Int32.toInt k5_187 ≤ (n190 : Int) → ∀ Y191, mX4_raiseTriggers_L59 event w9 k3_132 T V3 n190 k5_187 L188 E189 = Y191 → (((0 ≤ Int32.toInt Y191.1) ∧ (Int32.toInt Y191.1 ≤ 10) ∧ (zIE (Y191.2.2))) → zW p l e rmX4_raiseTriggers s m args below meth c 0 0 Q G.1 A 7 (zWL G (Y191.2.1) T (Y191.2.2) V3 M K) [(0, .ref (G.2.2 0 0)), (1, .int event), (2, .int w9), (3, .int k3_132), (4, .int k4_133), (5, .int Y191.1)] 124 []) → zW p l e rmX4_raiseTriggers s m args below meth c 0 0 Q G.1 A 7 (zWL G L188 T E189 V3 M K) [(0, .ref (G.2.2 0 0)), (1, .int event), (2, .int w9), (3, .int k3_132), (4, .int k4_133), (5, .int k5_187)] 59 [] := by
            intro n190
            induction n190 with
            | zero =>
              intro k5_187 L188 E189 hI hM9
              obtain ⟨i192, i193, hIE189⟩ := id hI
              obtain ⟨⟨i194, i195⟩, hIE189_b1⟩ := id hIE189
              exact absurd hM9 (by omega)
            | succ n190 ih =>
              intro k5_187 L188 E189 hI hM9 Y191 hE hK
              obtain ⟨i196, i197, hIE189⟩ := id hI
              obtain ⟨⟨i198, i199⟩, hIE189_b1⟩ := id hIE189
              rw [mX4_raiseTriggers_L59.eq_2] at hE
              refine zi_iload (pc := 59) F dX4_raiseTriggers_59 5 rfl ?_
              refine zi_iload_n (pc := 61) F dX4_raiseTriggers_61 2 rfl ?_
              refine zi_icmp_ge (pc := 62) (tgt := 124) F dX4_raiseTriggers_62 (by decide) (fun c200 => ?_) (fun c200 => ?_)
              · have hE := zite_t hE c200
                have t201 := zt_le c200
                subst hE
                refine zi_sub [0, 1, 2, 3, 4, 5] rfl ?_
                exact hK (⟨by (show 0 ≤ Int32.toInt k5_187; omega), by (show Int32.toInt k5_187 ≤ 10; omega), hIE189⟩)
              · have hE := zite_f hE c200
                have t202 := zt_nle c200
                refine zi_aload_n (pc := 65) F dX4_raiseTriggers_65 0 rfl ?_
                refine zi_get (pc := 66) (C := RX4) (T := TX4) (N := 11) (v := .ref (G.2.2 1 0)) F (hw_X4_raiseTriggers_X4) 0 rfl rfl 1 (by decide) (List.mem_of_getElem? (i := 2) rfl) rfl rfl dX4_raiseTriggers_66 ?_
                refine zi_get (pc := 69) (C := RX2) (T := TX2) (N := 5) (v := .ref (G.2.2 1 1)) F (hw_X4_raiseTriggers_X2) 8 rfl rfl 0 (by decide) (List.mem_of_getElem? (i := 5) rfl) rfl rfl dX4_raiseTriggers_69 ?_
                refine zi_iload (pc := 72) F dX4_raiseTriggers_72 5 rfl ?_
                refine zi_iald (pc := 74) (v := (T 0 k5_187.toNatClampNeg)) F 9 0 rfl rfl (zin (a := k5_187) (by omega) (by omega)) rfl dX4_raiseTriggers_74 ?_
                refine zi_topi (fun y203 e204 => ?_)
                have hE := zbnd_cut hE e204
                have t205 := congrArg Int32.toInt e204
                refine zi_istore (pc := 75) (lv' := [(0, .ref (G.2.2 0 0)), (1, .int event), (2, .int w9), (3, .int k3_132), (4, .int k4_133), (5, .int k5_187), (6, .int y203)]) F dX4_raiseTriggers_75 (by decide) rfl ?_
                refine zi_aload_n (pc := 77) F dX4_raiseTriggers_77 0 rfl ?_
                refine zi_get (pc := 78) (C := RX4) (T := TX4) (N := 11) (v := .ref (G.2.2 3 0)) F (hw_X4_raiseTriggers_X4) 0 rfl rfl 3 (by decide) (List.mem_of_getElem? (i := 1) rfl) rfl rfl dX4_raiseTriggers_78 ?_
                refine zi_get (pc := 81) (C := RX3) (T := TX3) (N := 5) (v := .ref (G.2.2 3 1)) F (hw_X4_raiseTriggers_X3) 13 rfl rfl 0 (by decide) (List.mem_of_getElem? (i := 6) rfl) rfl rfl dX4_raiseTriggers_81 ?_
                refine zi_iload (pc := 84) F dX4_raiseTriggers_84 5 rfl ?_
                refine zi_iald (pc := 86) (v := (V3 0 k5_187.toNatClampNeg)) F 14 0 rfl rfl (zin (a := k5_187) (by omega) (by omega)) rfl dX4_raiseTriggers_86 ?_
                refine zi_iload_n (pc := 87) F dX4_raiseTriggers_87 3 rfl ?_
                refine zi_icmp_ne (pc := 88) (tgt := 118) F dX4_raiseTriggers_88 (by decide) (fun c206 => ?_) (fun c206 => ?_)
                · have hE := zite_f hE c206
                  have t207 := zt_ne c206
                  try have t210 := zt_add (a := k5_187) (b := 1) (by omega) (by omega)
                  obtain ⟨y208, e209⟩ : ∃ z : Int32, (k5_187 + 1) = z := ⟨_, rfl⟩
                  have hE := zbnd_cut hE e209
                  have t211 := congrArg Int32.toInt e209
                  refine zi_iinc (pc := 118) (lv' := [(0, .ref (G.2.2 0 0)), (1, .int event), (2, .int w9), (3, .int k3_132), (4, .int k4_133), (5, .int y208), (6, .int y203)]) F dX4_raiseTriggers_118 5 rfl e209 (by decide) rfl ?_
                  refine zi_goto (pc := 121) (tgt := 59) F dX4_raiseTriggers_121 (by decide) ?_
                  refine zi_sub [0, 1, 2, 3, 4, 5] rfl ?_
                  exact ih y208 L188 E189 (⟨by (show 0 ≤ Int32.toInt y208; omega), by (show Int32.toInt y208 ≤ 10; omega), hIE189⟩) (by omega) _ hE hK
                · have hE := zite_t hE c206
                  have t212 := congrArg Int32.toInt c206
                  refine zi_aload_n (pc := 91) F dX4_raiseTriggers_91 0 rfl ?_
                  refine zi_iload (pc := 92) F dX4_raiseTriggers_92 6 rfl ?_
                  refine zi_iload_n (pc := 94) F dX4_raiseTriggers_94 1 rfl ?_
                  refine zi_iload_n (pc := 95) F dX4_raiseTriggers_95 3 rfl ?_
                  have hM215 := c_X4_hasTrigger l G y203 event k3_132 L188 T E189 V3 M K 
                  have pp216 := pp_X4_hasTrigger y203 event k3_132 L188 
                  obtain ⟨r213, e214⟩ : ∃ z, mX4_hasTrigger y203 event k3_132 L188 = z := ⟨_, rfl⟩
                  have hE := zbnd_cut hE e214
                  rw [e214] at hM215
                  rw [e214] at pp216
                  have hbr213 := pp216
                  refine zi_callVI (pc := 96) (rest := []) (ws' := zWL G L188 T E189 V3 M K) F hM215 (cwV 3 F.1.2.2.2.2 gX4_raiseTriggers_X4_hasTrigger rfl rfl rfl hd_X4_hasTrigger ⟨Nat.le_of_ble_eq_true rfl, Nat.le_of_ble_eq_true rfl⟩) 0 rfl rfl _ _ (zw_nil _) (zw_nil _).symm rfl rfl (Nat.le_of_ble_eq_true rfl) dX4_raiseTriggers_96 ⟨Nat.zero_le _, Nat.zero_le _⟩ ?_
                  refine zi_if_eq (pc := 99) (tgt := 118) F dX4_raiseTriggers_99 (by decide) (fun c217 => ?_) (fun c217 => ?_)
                  · have hE := zite_t hE c217
                    have t218 := congrArg Int32.toInt c217
                    try have t221 := zt_add (a := k5_187) (b := 1) (by omega) (by omega)
                    obtain ⟨y219, e220⟩ : ∃ z : Int32, (k5_187 + 1) = z := ⟨_, rfl⟩
                    have hE := zbnd_cut hE e220
                    have t222 := congrArg Int32.toInt e220
                    refine zi_iinc (pc := 118) (lv' := [(0, .ref (G.2.2 0 0)), (1, .int event), (2, .int w9), (3, .int k3_132), (4, .int k4_133), (5, .int y219), (6, .int y203)]) F dX4_raiseTriggers_118 5 rfl e220 (by decide) rfl ?_
                    refine zi_goto (pc := 121) (tgt := 59) F dX4_raiseTriggers_121 (by decide) ?_
                    refine zi_sub [0, 1, 2, 3, 4, 5] rfl ?_
                    exact ih y219 L188 E189 (⟨by (show 0 ≤ Int32.toInt y219; omega), by (show Int32.toInt y219 ≤ 10; omega), hIE189⟩) (by omega) _ hE hK
                  · have hE := zite_f hE c217
                    have t223 := zt_ne c217
                    refine zi_aload_n (pc := 102) F dX4_raiseTriggers_102 0 rfl ?_
                    refine zi_get (pc := 103) (C := RX4) (T := TX4) (N := 11) (v := .ref (G.2.2 2 0)) F (hw_X4_raiseTriggers_X4) 0 rfl rfl 2 (by decide) (List.mem_of_getElem? (i := 7) rfl) rfl rfl dX4_raiseTriggers_103 ?_
                    refine zi_iload (pc := 106) F dX4_raiseTriggers_106 6 rfl ?_
                    refine zi_iconst (pc := 108) (v := 1) F dX4_raiseTriggers_108 rfl ?_
                    refine zi_iload_n (pc := 109) F dX4_raiseTriggers_109 3 rfl ?_
                    refine zi_iconst (pc := 110) (v := (-1)) F dX4_raiseTriggers_110 rfl ?_
                    refine zi_aload_n (pc := 111) F dX4_raiseTriggers_111 0 rfl ?_
                    have hM227 := c_X4_newId l G  L188 T E189 V3 M K 
                    obtain ⟨⟨r224, L225⟩, e226⟩ : ∃ z, mX4_newId L188 = z := ⟨_, rfl⟩
                    have hE := zbnd2_cut hE e226
                    rw [e226] at hM227
                    refine zi_callVI (pc := 112) (rest := [.int (-1), .int k3_132, .int 1, .int y203, .ref (G.2.2 2 0)]) (ws' := zWL G L225 T E189 V3 M K) F hM227 (cwV 0 F.1.2.2.2.2 gX4_raiseTriggers_X4_newId rfl rfl rfl hd_X4_newId ⟨Nat.le_of_ble_eq_true rfl, Nat.le_of_ble_eq_true rfl⟩) 0 rfl rfl _ _ (zw_nil _) (zw_nil _).symm rfl rfl (Nat.le_of_ble_eq_true rfl) dX4_raiseTriggers_112 ⟨Nat.zero_le _, Nat.zero_le _⟩ ?_
                    have hM230 := c_X0_push l G y203 1 k3_132 (-1) r224 E189 (hIE189)
                    have pp231 := pp_X0_push y203 1 k3_132 (-1) r224 E189 (hIE189)
                    obtain ⟨E228, e229⟩ : ∃ z, mX0_push y203 1 k3_132 (-1) r224 E189 = z := ⟨_, rfl⟩
                    have hE := zbnd_cut hE e229
                    rw [e229] at hM230
                    rw [e229] at pp231
                    have hIE228 := pp231
                    obtain ⟨⟨i232, i233⟩, hIE228_b1⟩ := id hIE228
                    refine zi_callVV (pc := 115) (rest := []) (ws' := zWL G L225 T E228 V3 M K) F hM230 (cwV 5 F.1.2.2.2.2 gX4_raiseTriggers_X0_push rfl rfl rfl hd_X0_push ⟨Nat.le_of_ble_eq_true rfl, Nat.le_of_ble_eq_true rfl⟩) 0 rfl rfl _ _ (zwL_E G L225 T E189 V3 M K) (zwL_E G L225 T E228 V3 M K).symm rfl rfl (Nat.le_of_ble_eq_true rfl) dX4_raiseTriggers_115 ⟨Nat.zero_le _, Nat.zero_le _⟩ ?_
                    try have t236 := zt_add (a := k5_187) (b := 1) (by omega) (by omega)
                    obtain ⟨y234, e235⟩ : ∃ z : Int32, (k5_187 + 1) = z := ⟨_, rfl⟩
                    have hE := zbnd_cut hE e235
                    have t237 := congrArg Int32.toInt e235
                    refine zi_iinc (pc := 118) (lv' := [(0, .ref (G.2.2 0 0)), (1, .int event), (2, .int w9), (3, .int k3_132), (4, .int k4_133), (5, .int y234), (6, .int y203)]) F dX4_raiseTriggers_118 5 rfl e235 (by decide) rfl ?_
                    refine zi_goto (pc := 121) (tgt := 59) F dX4_raiseTriggers_121 (by decide) ?_
                    refine zi_sub [0, 1, 2, 3, 4, 5] rfl ?_
                    exact ih y234 L225 E228 (⟨by (show 0 ≤ Int32.toInt y234; omega), by (show Int32.toInt y234 ≤ 10; omega), hIE228⟩) (by omega) _ hE hK
          obtain ⟨⟨k5_238, L239, E240⟩, e241⟩ : ∃ z, mX4_raiseTriggers_L59 event w9 k3_132 T V3 11 0 L134 E135 = z := ⟨_, rfl⟩
          have hE := zbnd3_cut hE e241
          refine hL59 11 0 L134 E135 (⟨by (show 0 ≤ Int32.toInt 0; omega), by (show Int32.toInt 0 ≤ 10; omega), hIE135⟩) (by omega) _ e241 (fun hI242 => ?_)
          have hI242 : (0 ≤ Int32.toInt k5_238) ∧ (Int32.toInt k5_238 ≤ 10) ∧ (zIE E240) := hI242
          obtain ⟨i243, i244, hIE240⟩ := id hI242
          obtain ⟨⟨i245, i246⟩, hIE240_b1⟩ := id hIE240
          show zW p l e rmX4_raiseTriggers s m args below meth c 0 0 Q G.1 A 7 (zWL G L239 T E240 V3 M K) [(0, .ref (G.2.2 0 0)), (1, .int event), (2, .int w9), (3, .int k3_132), (4, .int k4_133), (5, .int k5_238)] 124 []
          refine zi_iload_n (pc := 124) F dX4_raiseTriggers_124 3 rfl ?_
          have hM249 := c_X4_nextPlayer l G k3_132  
          obtain ⟨r247, e248⟩ : ∃ z, mX4_nextPlayer k3_132 = z := ⟨_, rfl⟩
          have hE := zbnd_cut hE e248
          rw [e248] at hM249
          refine zi_callSI (pc := 125) (rest := []) (ws' := zWL G L239 T E240 V3 M K) F hM249 (va_cwS 1 F.1.2.2.2.2 gX4_raiseTriggers_X4_nextPlayer rfl rfl rfl hd_X4_nextPlayer.2 ⟨Nat.le_of_ble_eq_true rfl, Nat.le_of_ble_eq_true rfl⟩) _ _ rfl rfl rfl rfl (Nat.le_of_ble_eq_true rfl) dX4_raiseTriggers_125 ⟨Nat.zero_le _, Nat.zero_le _⟩ ?_
          refine zi_istore_n (pc := 128) (lv' := [(0, .ref (G.2.2 0 0)), (1, .int event), (2, .int w9), (3, .int r247), (4, .int k4_133), (5, .int k5_238)]) F dX4_raiseTriggers_128 (by decide) rfl ?_
          try have t252 := zt_add (a := k4_133) (b := 1) (by omega) (by omega)
          obtain ⟨y250, e251⟩ : ∃ z : Int32, (k4_133 + 1) = z := ⟨_, rfl⟩
          have hE := zbnd_cut hE e251
          have t253 := congrArg Int32.toInt e251
          refine zi_iinc (pc := 129) (lv' := [(0, .ref (G.2.2 0 0)), (1, .int event), (2, .int w9), (3, .int r247), (4, .int y250), (5, .int k5_238)]) F dX4_raiseTriggers_129 4 rfl e251 (by decide) rfl ?_
          refine zi_goto (pc := 132) (tgt := 50) F dX4_raiseTriggers_132 (by decide) ?_
          refine zi_sub [0, 1, 2, 3, 4] rfl ?_
          exact ih r247 y250 L239 E240 (⟨by (show 0 ≤ Int32.toInt y250; omega), by (show Int32.toInt y250 ≤ 3; omega), hIE240⟩) (by omega) _ hE hK
    obtain ⟨⟨k3_254, k4_255, L256, E257⟩, e258⟩ : ∃ z, mX4_raiseTriggers_L50 event w9 T V3 4 y21 0 L E = z := ⟨_, rfl⟩
    have hE := zbnd4_cut hE e258
    refine hL50 4 y21 0 L E (⟨by (show 0 ≤ Int32.toInt 0; omega), by (show Int32.toInt 0 ≤ 3; omega), hIE⟩) (by omega) _ e258 (fun hI259 => ?_)
    have hI259 : (0 ≤ Int32.toInt k4_255) ∧ (Int32.toInt k4_255 ≤ 3) ∧ (zIE E257) := hI259
    obtain ⟨i260, i261, hIE257⟩ := id hI259
    obtain ⟨⟨i262, i263⟩, hIE257_b1⟩ := id hIE257
    show zW p l e rmX4_raiseTriggers s m args below meth c 0 0 Q G.1 A 7 (zWL G L256 T E257 V3 M K) [(0, .ref (G.2.2 0 0)), (1, .int event), (2, .int w9), (3, .int k3_254), (4, .int k4_255)] 135 []
    subst hE
    exact hret _ _ dX4_raiseTriggers_135
  · have hE := zite_t hE c1
    have t264 := congrArg Int32.toInt c1
    subst hE
    exact hret _ _ dX4_raiseTriggers_4
