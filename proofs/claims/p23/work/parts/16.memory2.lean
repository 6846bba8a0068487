/-! X1_isState -/
def mX1_isState_L2 (j : Nat) (M : zS_t) (K : zS_t) : Nat → Int32 → Int32
  | 0, k2_11 => 0
  | n12 + 1, k2_11 => if (M 2 0) ≤ k2_11 then 1 else (if (K j k2_11.toNatClampNeg) = (M 0 k2_11.toNatClampNeg) then (zbnd ((k2_11 + 1)) (fun y23 => mX1_isState_L2 j M K n12 y23)) else 0)
def mX1_isState (j : Nat) (M : zS_t) (K : zS_t) : Int32 := mX1_isState_L2 j M K 25 0
set_option maxHeartbeats 4000000 in
set_option maxRecDepth 100000 in
theorem pp_X1_isState (j : Nat) (M : zS_t) (K : zS_t) (hIM : zIM M) (hx0 : j < 40) : ((mX1_isState j M K) = 0 ∨ (mX1_isState j M K) = 1) := by
  obtain ⟨X, hE⟩ : ∃ z, mX1_isState j M K = z := ⟨_, rfl⟩
  rw [hE]
  have k_0 : Int32.toInt 0 = 0 := by decide
  have k_1 : Int32.toInt 1 = 1 := by decide
  obtain ⟨⟨i28, i29⟩, ⟨i30, i31⟩, ⟨i32, i33⟩⟩ := id hIM
  unfold mX1_isState at hE
  have hL2 : ∀ (n12 : Nat) (k2_11 : Int32), (0 ≤ Int32.toInt k2_11) ∧ (Int32.toInt k2_11 ≤ 24) → 25 - Int32.toInt k2_11 ≤ (n12 : Int) → mX1_isState_L2 j M K n12 k2_11 = X → (X = 0 ∨ X = 1) := by
    intro n12
    induction n12 with
    | zero =>
      intro k2_11 hI hM9
      obtain ⟨i14, i15⟩ := id hI
      exact absurd hM9 (by omega)
    | succ n12 ih =>
      intro k2_11 hI hM9 hE
      obtain ⟨i16, i17⟩ := id hI
      rw [mX1_isState_L2.eq_2] at hE
      by_cases c18 : (M 2 0) ≤ k2_11
      · have hE := zite_t hE c18
        have t19 := zt_le c18
        subst hE
        exact Or.inr rfl
      · have hE := zite_f hE c18
        have t20 := zt_nle c18
        by_cases c21 : (K j k2_11.toNatClampNeg) = (M 0 k2_11.toNatClampNeg)
        · have hE := zite_t hE c21
          have t22 := congrArg Int32.toInt c21
          try have t25 := zt_add (a := k2_11) (b := 1) (by omega) (by omega)
          obtain ⟨y23, e24⟩ : ∃ z : Int32, (k2_11 + 1) = z := ⟨_, rfl⟩
          have hE := zbnd_cut hE e24
          have t26 := congrArg Int32.toInt e24
          exact ih y23 (⟨by (show 0 ≤ Int32.toInt y23; omega), by (show Int32.toInt y23 ≤ 24; omega)⟩) (by omega) hE
        · have hE := zite_f hE c21
          have t27 := zt_ne c21
          subst hE
          exact Or.inl rfl
  exact hL2 25 0 (⟨by (show 0 ≤ Int32.toInt 0; omega), by (show Int32.toInt 0 ≤ 24; omega)⟩) (by omega) hE
theorem hw_X1_isState_X1 : ∀ w ∈ wsX10, w ∈ wsX1_isState := fun w h => List.mem_cons_of_mem _ (List.mem_append_right _ (h))
abbrev rmX1_isState : Room := { frames := 0, cells := 0, slots := 0, locals := 0 }
theorem hd_X1_isState : yX1_isState.cls = RX1 ∧ yX1_isState.cls ≠ "java/lang/invoke/MethodHandle" ∧ yX1_isState.cls ≠ "java/lang/invoke/VarHandle" ∧ (parseMethodDescriptor yX1_isState.desc).map (fun d => d.parameters.length) = some 1 := by decide +kernel
set_option maxHeartbeats 4000000 in
set_option maxRecDepth 100000 in
theorem c_X1_isState (l : Launch) (G : zG_t) (j : Nat) (M : zS_t) (K : zS_t) (hIM : zIM M) (hx0 : j < 40) : zCI l G.1 (zty G) yX1_isState wsX1_isState rmX1_isState [.ref (G.2.2 4 0), .ref (G.2.2 5 j)] (zWM G M K) ((mX1_isState j M K)) (zWM G M K) := by
  obtain ⟨X, hE⟩ : ∃ z, mX1_isState j M K = z := ⟨_, rfl⟩
  rw [hE]
  refine zb_Z (cc := cX1_isState) (maxL := 3) (by decide) rfl (Nat.le_of_ble_eq_true rfl) ?_
  intro p e s m args below meth c Q A F hret
  show zW p l e rmX1_isState s m args below meth c 0 0 Q G.1 A 3 (zWM G M K) [(0, .ref (G.2.2 4 0)), (1, .ref (G.2.2 5 j))] 0 []
  have k_0 : Int32.toInt 0 = 0 := by decide
  have k_1 : Int32.toInt 1 = 1 := by decide
  obtain ⟨⟨i34, i35⟩, ⟨i36, i37⟩, ⟨i38, i39⟩⟩ := id hIM
  unfold mX1_isState at hE
  refine zi_iconst (pc := 0) (v := 0) F dX1_isState_0 rfl ?_
  refine zi_istore_n (pc := 1) (lv' := [(0, .ref (G.2.2 4 0)), (1, .ref (G.2.2 5 j)), (2, .int 0)]) F dX1_isState_1 (by decide) rfl ?_
  have hL2 : ∀ (n12 : Nat) (k2_11 : Int32), (0 ≤ Int32.toInt k2_11) ∧ (Int32.toInt k2_11 ≤ 24) → 25 - Int32.toInt k2_11 ≤ (n12 : Int) → mX1_isState_L2 j M K n12 k2_11 = X → zW p l e rmX1_isState s m args below meth c 0 0 Q G.1 A 3 (zWM G M K) [(0, .ref (G.2.2 4 0)), (1, .ref (G.2.2 5 j)), (2, .int k2_11)] 2 [] := by
    intro n12
    induction n12 with
    | zero =>
      intro k2_11 hI hM9
      obtain ⟨i14, i15⟩ := id hI
      exact absurd hM9 (by omega)
    | succ n12 ih =>
      intro k2_11 hI hM9 hE
      obtain ⟨i16, i17⟩ := id hI
      rw [mX1_isState_L2.eq_2] at hE
      refine zi_iload_n (pc := 2) F dX1_isState_2 2 rfl ?_
      refine zi_aload_n (pc := 3) F dX1_isState_3 0 rfl ?_
      refine zi_get (pc := 4) (C := RX1) (T := TX1) (N := 5) (v := .int (M 2 0)) F (hw_X1_isState_X1) 0 rfl rfl 2 (by decide) (List.mem_of_getElem? (i := 1) rfl) rfl rfl dX1_isState_4 ?_
      refine zi_icmp_ge (pc := 7) (tgt := 30) F dX1_isState_7 (by decide) (fun c18 => ?_) (fun c18 => ?_)
      · have hE := zite_t hE c18
        have t19 := zt_le c18
        refine zi_iconst (pc := 30) (v := 1) F dX1_isState_30 rfl ?_
        subst hE
        exact hret _ _ dX1_isState_31 (znb (Or.inr rfl))
      · have hE := zite_f hE c18
        have t20 := zt_nle c18
        refine zi_aload_n (pc := 10) F dX1_isState_10 1 rfl ?_
        refine zi_iload_n (pc := 11) F dX1_isState_11 2 rfl ?_
        refine zi_iald (pc := 12) (v := (K j k2_11.toNatClampNeg)) F (3 + j) 0 (zwM_row G M K hx0) rfl (zin (a := k2_11) (by omega) (by omega)) rfl dX1_isState_12 ?_
        refine zi_aload_n (pc := 13) F dX1_isState_13 0 rfl ?_
        refine zi_get (pc := 14) (C := RX1) (T := TX1) (N := 5) (v := .ref (G.2.2 4 1)) F (hw_X1_isState_X1) 0 rfl rfl 0 (by decide) (List.mem_of_getElem? (i := 2) rfl) rfl rfl dX1_isState_14 ?_
        refine zi_iload_n (pc := 17) F dX1_isState_17 2 rfl ?_
        refine zi_iald (pc := 18) (v := (M 0 k2_11.toNatClampNeg)) F 1 0 rfl rfl (zin (a := k2_11) (by omega) (by omega)) rfl dX1_isState_18 ?_
        refine zi_icmp_eq (pc := 19) (tgt := 24) F dX1_isState_19 (by decide) (fun c21 => ?_) (fun c21 => ?_)
        · have hE := zite_t hE c21
          have t22 := congrArg Int32.toInt c21
          try have t25 := zt_add (a := k2_11) (b := 1) (by omega) (by omega)
          obtain ⟨y23, e24⟩ : ∃ z : Int32, (k2_11 + 1) = z := ⟨_, rfl⟩
          have hE := zbnd_cut hE e24
          have t26 := congrArg Int32.toInt e24
          refine zi_iinc (pc := 24) (lv' := [(0, .ref (G.2.2 4 0)), (1, .ref (G.2.2 5 j)), (2, .int y23)]) F dX1_isState_24 2 rfl e24 (by decide) rfl ?_
          refine zi_goto (pc := 27) (tgt := 2) F dX1_isState_27 (by decide) ?_
          refine zi_sub [0, 1, 2] rfl ?_
          exact ih y23 (⟨by (show 0 ≤ Int32.toInt y23; omega), by (show Int32.toInt y23 ≤ 24; omega)⟩) (by omega) hE
        · have hE := zite_f hE c21
          have t27 := zt_ne c21
          refine zi_iconst (pc := 22) (v := 0) F dX1_isState_22 rfl ?_
          subst hE
          exact hret _ _ dX1_isState_23 (znb (Or.inl rfl))
  exact hL2 25 0 (⟨by (show 0 ≤ Int32.toInt 0; omega), by (show Int32.toInt 0 ≤ 24; omega)⟩) (by omega) hE
/-! X1_knowsState -/
def mX1_knowsState_L2 (M : zS_t) (K : zS_t) : Nat → Int32 → Int32
  | 0, k1_16 => 0
  | n17 + 1, k1_16 => if (M 3 0) ≤ k1_16 then 0 else (zbnd (mX1_isState (k1_16.toNatClampNeg) M K) (fun r27 => if r27 = 0 then (zbnd ((k1_16 + 1)) (fun y33 => mX1_knowsState_L2 M K n17 y33)) else 1))
def mX1_knowsState  (M : zS_t) (K : zS_t) : Int32 := mX1_knowsState_L2 M K 41 0
set_option maxHeartbeats 4000000 in
set_option maxRecDepth 100000 in
theorem pp_X1_knowsState  (M : zS_t) (K : zS_t) (hIM : zIM M) : ((mX1_knowsState M K) = 0 ∨ (mX1_knowsState M K) = 1) := by
  obtain ⟨X, hE⟩ : ∃ z, mX1_knowsState M K = z := ⟨_, rfl⟩
  rw [hE]
  have k_0 : Int32.toInt 0 = 0 := by decide
  have k_1 : Int32.toInt 1 = 1 := by decide
  obtain ⟨⟨i38, i39⟩, ⟨i40, i41⟩, ⟨i42, i43⟩⟩ := id hIM
  unfold mX1_knowsState at hE
  have hL2 : ∀ (n17 : Nat) (k1_16 : Int32), (0 ≤ Int32.toInt k1_16) ∧ (Int32.toInt k1_16 ≤ 40) → 41 - Int32.toInt k1_16 ≤ (n17 : Int) → mX1_knowsState_L2 M K n17 k1_16 = X → (X = 0 ∨ X = 1) := by
    intro n17
    induction n17 with
    | zero =>
      intro k1_16 hI hM9
      obtain ⟨i19, i20⟩ := id hI
      exact absurd hM9 (by omega)
    | succ n17 ih =>
      intro k1_16 hI hM9 hE
      obtain ⟨i21, i22⟩ := id hI
      rw [mX1_knowsState_L2.eq_2] at hE
      by_cases c23 : (M 3 0) ≤ k1_16
      · have hE := zite_t hE c23
        have t24 := zt_le c23
        subst hE
        exact Or.inl rfl
      · have hE := zite_f hE c23
        have t25 := zt_nle c23
        have hr26 : (k1_16.toNatClampNeg) < 40 := zclamp (a := k1_16) (by omega) (by omega)
        have pp30 := pp_X1_isState (k1_16.toNatClampNeg) M K (hIM) (by first | omega | (show (k1_16.toNatClampNeg) < 40; omega))
        obtain ⟨r27, e28⟩ : ∃ z, mX1_isState (k1_16.toNatClampNeg) M K = z := ⟨_, rfl⟩
        have hE := zbnd_cut hE e28
        rw [e28] at pp30
        have hbr27 := pp30
        by_cases c31 : r27 = 0
        · have hE := zite_t hE c31
          have t32 := congrArg Int32.toInt c31
          try have t35 := zt_add (a := k1_16) (b := 1) (by omega) (by omega)
          obtain ⟨y33, e34⟩ : ∃ z : Int32, (k1_16 + 1) = z := ⟨_, rfl⟩
          have hE := zbnd_cut hE e34
          have t36 := congrArg Int32.toInt e34
          exact ih y33 (⟨by (show 0 ≤ Int32.toInt y33; omega), by (show Int32.toInt y33 ≤ 40; omega)⟩) (by omega) hE
        · have hE := zite_f hE c31
          have t37 := zt_ne c31
          subst hE
          exact Or.inr rfl
  exact hL2 41 0 (⟨by (show 0 ≤ Int32.toInt 0; omega), by (show Int32.toInt 0 ≤ 40; omega)⟩) (by omega) hE
theorem hw_X1_knowsState_X1 : ∀ w ∈ wsX10, w ∈ wsX1_knowsState := fun w h => List.mem_cons_of_mem _ (List.mem_append_right _ (h))
abbrev rmX1_knowsState : Room := { frames := 1, cells := 0, slots := 0, locals := 22 }
theorem hd_X1_knowsState : yX1_knowsState.cls = RX1 ∧ yX1_knowsState.cls ≠ "java/lang/invoke/MethodHandle" ∧ yX1_knowsState.cls ≠ "java/lang/invoke/VarHandle" ∧ (parseMethodDescriptor yX1_knowsState.desc).map (fun d => d.parameters.length) = some 0 := by decide +kernel
set_option maxHeartbeats 4000000 in
set_option maxRecDepth 100000 in
theorem c_X1_knowsState (l : Launch) (G : zG_t)  (M : zS_t) (K : zS_t) (hIM : zIM M) : zCI l G.1 (zty G) yX1_knowsState wsX1_knowsState rmX1_knowsState [.ref (G.2.2 4 0)] (zWM G M K) ((mX1_knowsState M K)) (zWM G M K) := by
  obtain ⟨X, hE⟩ : ∃ z, mX1_knowsState M K = z := ⟨_, rfl⟩
  rw [hE]
  refine zb_Z (cc := cX1_knowsState) (maxL := 2) (by decide) rfl (Nat.le_of_ble_eq_true rfl) ?_
  intro p e s m args below meth c Q A F hret
  show zW p l e rmX1_knowsState s m args below meth c 0 0 Q G.1 A 2 (zWM G M K) [(0, .ref (G.2.2 4 0))] 0 []
  have k_0 : Int32.toInt 0 = 0 := by decide
  have k_1 : Int32.toInt 1 = 1 := by decide
  obtain ⟨⟨i44, i45⟩, ⟨i46, i47⟩, ⟨i48, i49⟩⟩ := id hIM
  unfold mX1_knowsState at hE
  refine zi_iconst (pc := 0) (v := 0) F dX1_knowsState_0 rfl ?_
  refine zi_istore_n (pc := 1) (lv' := [(0, .ref (G.2.2 4 0)), (1, .int 0)]) F dX1_knowsState_1 (by decide) rfl ?_
  have hL2 : ∀ (n17 : Nat) (k1_16 : Int32), (0 ≤ Int32.toInt k1_16) ∧ (Int32.toInt k1_16 ≤ 40) → 41 - Int32.toInt k1_16 ≤ (n17 : Int) → mX1_knowsState_L2 M K n17 k1_16 = X → zW p l e rmX1_knowsState s m args below meth c 0 0 Q G.1 A 2 (zWM G M K) [(0, .ref (G.2.2 4 0)), (1, .int k1_16)] 2 [] := by
    intro n17
    induction n17 with
    | zero =>
      intro k1_16 hI hM9
      obtain ⟨i19, i20⟩ := id hI
      exact absurd hM9 (by omega)
    | succ n17 ih =>
      intro k1_16 hI hM9 hE
      obtain ⟨i21, i22⟩ := id hI
      rw [mX1_knowsState_L2.eq_2] at hE
      refine zi_iload_n (pc := 2) F dX1_knowsState_2 1 rfl ?_
      refine zi_aload_n (pc := 3) F dX1_knowsState_3 0 rfl ?_
      refine zi_get (pc := 4) (C := RX1) (T := TX1) (N := 5) (v := .int (M 3 0)) F (hw_X1_knowsState_X1) 0 rfl rfl 3 (by decide) (List.mem_of_getElem? (i := 1) rfl) rfl rfl dX1_knowsState_4 ?_
      refine zi_icmp_ge (pc := 7) (tgt := 31) F dX1_knowsState_7 (by decide) (fun c23 => ?_) (fun c23 => ?_)
      · have hE := zite_t hE c23
        have t24 := zt_le c23
        refine zi_iconst (pc := 31) (v := 0) F dX1_knowsState_31 rfl ?_
        subst hE
        exact hret _ _ dX1_knowsState_32 (znb (Or.inl rfl))
      · have hE := zite_f hE c23
        have t25 := zt_nle c23
        refine zi_aload_n (pc := 10) F dX1_knowsState_10 0 rfl ?_
        refine zi_aload_n (pc := 11) F dX1_knowsState_11 0 rfl ?_
        refine zi_get (pc := 12) (C := RX1) (T := TX1) (N := 5) (v := .ref (G.2.2 4 2)) F (hw_X1_knowsState_X1) 0 rfl rfl 1 (by decide) (List.mem_of_getElem? (i := 2) rfl) rfl rfl dX1_knowsState_12 ?_
        refine zi_iload_n (pc := 15) F dX1_knowsState_15 1 rfl ?_
        have hr26 : (k1_16.toNatClampNeg) < 40 := zclamp (a := k1_16) (by omega) (by omega)
        refine zi_kept (pc := 16) (ad := fun i => G.2.2 5 i) F 2 2 rfl rfl (zin (a := k1_16) (by omega) (by omega)) dX1_knowsState_16 ?_
        have hM29 := c_X1_isState l G (k1_16.toNatClampNeg) M K (hIM) (by first | omega | (show (k1_16.toNatClampNeg) < 40; omega))
        have pp30 := pp_X1_isState (k1_16.toNatClampNeg) M K (hIM) (by first | omega | (show (k1_16.toNatClampNeg) < 40; omega))
        obtain ⟨r27, e28⟩ : ∃ z, mX1_isState (k1_16.toNatClampNeg) M K = z := ⟨_, rfl⟩
        have hE := zbnd_cut hE e28
        rw [e28] at hM29
        rw [e28] at pp30
        have hbr27 := pp30
        refine zi_callVI (pc := 17) (rest := []) (ws' := zWM G M K) F hM29 (cwV 1 F.1.2.2.2.2 gX1_knowsState_X1_isState rfl rfl rfl hd_X1_isState ⟨Nat.le_of_ble_eq_true rfl, Nat.le_of_ble_eq_true rfl⟩) 0 rfl rfl _ _ (zw_nil _) (zw_nil _).symm rfl rfl (Nat.le_of_ble_eq_true rfl) dX1_knowsState_17 ⟨Nat.zero_le _, Nat.zero_le _⟩ ?_
        refine zi_if_eq (pc := 20) (tgt := 25) F dX1_knowsState_20 (by decide) (fun c31 => ?_) (fun c31 => ?_)
        · have hE := zite_t hE c31
          have t32 := congrArg Int32.toInt c31
          try have t35 := zt_add (a := k1_16) (b := 1) (by omega) (by omega)
          obtain ⟨y33, e34⟩ : ∃ z : Int32, (k1_16 + 1) = z := ⟨_, rfl⟩
          have hE := zbnd_cut hE e34
          have t36 := congrArg Int32.toInt e34
          refine zi_iinc (pc := 25) (lv' := [(0, .ref (G.2.2 4 0)), (1, .int y33)]) F dX1_knowsState_25 1 rfl e34 (by decide) rfl ?_
          refine zi_goto (pc := 28) (tgt := 2) F dX1_knowsState_28 (by decide) ?_
          refine zi_sub [0, 1] rfl ?_
          exact ih y33 (⟨by (show 0 ≤ Int32.toInt y33; omega), by (show Int32.toInt y33 ≤ 40; omega)⟩) (by omega) hE
        · have hE := zite_f hE c31
          have t37 := zt_ne c31
          refine zi_iconst (pc := 23) (v := 1) F dX1_knowsState_23 rfl ?_
          subst hE
          exact hret _ _ dX1_knowsState_24 (znb (Or.inr rfl))
  exact hL2 41 0 (⟨by (show 0 ≤ Int32.toInt 0; omega), by (show Int32.toInt 0 ≤ 40; omega)⟩) (by omega) hE
/-! X1_keepState -/
def mX1_keepState  (M : zS_t) (K : zS_t) : zS_t × zS_t := if 40 ≤ ((M 4 0) + 1) then (if 40 ≤ (M 3 0) then ((zsI M 4 0), (zsF K ((M 4 0).toNatClampNeg) (va_cpy (M 0) (K ((M 4 0).toNatClampNeg)) (0 : Int32).toNatClampNeg (0 : Int32).toNatClampNeg (24 : Int32).toNatClampNeg))) else ((zsI (zsI M 3 ((M 3 0) + 1)) 4 0), (zsF K ((M 4 0).toNatClampNeg) (va_cpy (M 0) (K ((M 4 0).toNatClampNeg)) (0 : Int32).toNatClampNeg (0 : Int32).toNatClampNeg (24 : Int32).toNatClampNeg)))) else (if 40 ≤ (M 3 0) then ((zsI M 4 ((M 4 0) + 1)), (zsF K ((M 4 0).toNatClampNeg) (va_cpy (M 0) (K ((M 4 0).toNatClampNeg)) (0 : Int32).toNatClampNeg (0 : Int32).toNatClampNeg (24 : Int32).toNatClampNeg))) else ((zsI (zsI M 3 ((M 3 0) + 1)) 4 ((M 4 0) + 1)), (zsF K ((M 4 0).toNatClampNeg) (va_cpy (M 0) (K ((M 4 0).toNatClampNeg)) (0 : Int32).toNatClampNeg (0 : Int32).toNatClampNeg (24 : Int32).toNatClampNeg))))
set_option maxHeartbeats 4000000 in
set_option maxRecDepth 100000 in
theorem pp_X1_keepState  (M : zS_t) (K : zS_t) (hIM : zIM M) : (zIM ((mX1_keepState M K).1)) := by
  obtain ⟨X, hE⟩ : ∃ z, mX1_keepState M K = z := ⟨_, rfl⟩
  rw [hE]
  have k_0 : Int32.toInt 0 = 0 := by decide
  have k_1 : Int32.toInt 1 = 1 := by decide
  have k_24 : Int32.toInt 24 = 24 := by decide
  have k_40 : Int32.toInt 40 = 40 := by decide
  obtain ⟨⟨i17, i18⟩, ⟨i19, i20⟩, ⟨i21, i22⟩⟩ := id hIM
  unfold mX1_keepState at hE
  have hr1 : ((M 4 0).toNatClampNeg) < 40 := zclamp (a := (M 4 0)) (by omega) (by omega)
  by_cases c2 : 40 ≤ ((M 4 0) + 1)
  · have hE := zite_t hE c2
    try have t3 := zt_add (a := (M 4 0)) (b := 1) (by omega) (by omega)
    have t4 := zt_le c2
    by_cases c5 : 40 ≤ (M 3 0)
    · have hE := zite_t hE c5
      have t6 := zt_le c5
      subst hE
      exact ⟨⟨by (show (0:Int) ≤ Int32.toInt (M 2 0)); omega, by (show Int32.toInt (M 2 0) ≤ (24:Int)); omega⟩, ⟨by (show (0:Int) ≤ Int32.toInt (M 3 0)); omega, by (show Int32.toInt (M 3 0) ≤ (40:Int)); omega⟩, ⟨by (show (0:Int) ≤ Int32.toInt 0); omega, by (show Int32.toInt 0 ≤ (39:Int)); omega⟩⟩
    · have hE := zite_f hE c5
      have t7 := zt_nle c5
      subst hE
      try have t8 := zt_add (a := (M 3 0)) (b := 1) (by omega) (by omega)
      exact ⟨⟨by (show (0:Int) ≤ Int32.toInt (M 2 0)); omega, by (show Int32.toInt (M 2 0) ≤ (24:Int)); omega⟩, ⟨by (show (0:Int) ≤ Int32.toInt ((M 3 0) + 1)); omega, by (show Int32.toInt ((M 3 0) + 1) ≤ (40:Int)); omega⟩, ⟨by (show (0:Int) ≤ Int32.toInt 0); omega, by (show Int32.toInt 0 ≤ (39:Int)); omega⟩⟩
  · have hE := zite_f hE c2
    try have t9 := zt_add (a := (M 4 0)) (b := 1) (by omega) (by omega)
    have t10 := zt_nle c2
    by_cases c11 : 40 ≤ (M 3 0)
    · have hE := zite_t hE c11
      have t12 := zt_le c11
      subst hE
      try have t13 := zt_add (a := (M 4 0)) (b := 1) (by omega) (by omega)
      exact ⟨⟨by (show (0:Int) ≤ Int32.toInt (M 2 0)); omega, by (show Int32.toInt (M 2 0) ≤ (24:Int)); omega⟩, ⟨by (show (0:Int) ≤ Int32.toInt (M 3 0)); omega, by (show Int32.toInt (M 3 0) ≤ (40:Int)); omega⟩, ⟨by (show (0:Int) ≤ Int32.toInt ((M 4 0) + 1)); omega, by (show Int32.toInt ((M 4 0) + 1) ≤ (39:Int)); omega⟩⟩
    · have hE := zite_f hE c11
      have t14 := zt_nle c11
      subst hE
      try have t15 := zt_add (a := (M 3 0)) (b := 1) (by omega) (by omega)
      try have t16 := zt_add (a := (M 4 0)) (b := 1) (by omega) (by omega)
      exact ⟨⟨by (show (0:Int) ≤ Int32.toInt (M 2 0)); omega, by (show Int32.toInt (M 2 0) ≤ (24:Int)); omega⟩, ⟨by (show (0:Int) ≤ Int32.toInt ((M 3 0) + 1)); omega, by (show Int32.toInt ((M 3 0) + 1) ≤ (40:Int)); omega⟩, ⟨by (show (0:Int) ≤ Int32.toInt ((M 4 0) + 1)); omega, by (show Int32.toInt ((M 4 0) + 1) ≤ (39:Int)); omega⟩⟩
theorem hw_X1_keepState_X1 : ∀ w ∈ wsX10, w ∈ wsX1_keepState := fun w h => List.mem_cons_of_mem _ (List.mem_append_right _ (h))
abbrev rmX1_keepState : Room := { frames := 1, cells := 0, slots := 0, locals := 60 }
theorem hd_X1_keepState : yX1_keepState.cls = RX1 ∧ yX1_keepState.cls ≠ "java/lang/invoke/MethodHandle" ∧ yX1_keepState.cls ≠ "java/lang/invoke/VarHandle" ∧ (parseMethodDescriptor yX1_keepState.desc).map (fun d => d.parameters.length) = some 0 := by decide +kernel
set_option maxHeartbeats 4000000 in
set_option maxRecDepth 100000 in
theorem c_X1_keepState (l : Launch) (G : zG_t)  (M : zS_t) (K : zS_t) (hIM : zIM M) : zCV l G.1 (zty G) yX1_keepState wsX1_keepState rmX1_keepState [.ref (G.2.2 4 0)] (zWM G M K) (zWM G ((mX1_keepState M K).1) ((mX1_keepState M K).2)) := by
  obtain ⟨X, hE⟩ : ∃ z, mX1_keepState M K = z := ⟨_, rfl⟩
  rw [hE]
  refine zb_V (cc := cX1_keepState) (maxL := 1) (by decide) rfl (Nat.le_of_ble_eq_true rfl) ?_
  intro p e s m args below meth c Q A F hret
  show zW p l e rmX1_keepState s m args below meth c 0 0 Q G.1 A 1 (zWM G M K) [(0, .ref (G.2.2 4 0))] 0 []
  have k_0 : Int32.toInt 0 = 0 := by decide
  have k_1 : Int32.toInt 1 = 1 := by decide
  have k_24 : Int32.toInt 24 = 24 := by decide
  have k_40 : Int32.toInt 40 = 40 := by decide
  obtain ⟨⟨i23, i24⟩, ⟨i25, i26⟩, ⟨i27, i28⟩⟩ := id hIM
  unfold mX1_keepState at hE
  refine zi_aload_n (pc := 0) F dX1_keepState_0 0 rfl ?_
  refine zi_get (pc := 1) (C := RX1) (T := TX1) (N := 5) (v := .ref (G.2.2 4 1)) F (hw_X1_keepState_X1) 0 rfl rfl 0 (by decide) (List.mem_of_getElem? (i := 1) rfl) rfl rfl dX1_keepState_1 ?_
  refine zi_iconst (pc := 4) (v := 0) F dX1_keepState_4 rfl ?_
  refine zi_aload_n (pc := 5) F dX1_keepState_5 0 rfl ?_
  refine zi_get (pc := 6) (C := RX1) (T := TX1) (N := 5) (v := .ref (G.2.2 4 2)) F (hw_X1_keepState_X1) 0 rfl rfl 1 (by decide) (List.mem_of_getElem? (i := 2) rfl) rfl rfl dX1_keepState_6 ?_
  refine zi_aload_n (pc := 9) F dX1_keepState_9 0 rfl ?_
  refine zi_get (pc := 10) (C := RX1) (T := TX1) (N := 5) (v := .int (M 4 0)) F (hw_X1_keepState_X1) 0 rfl rfl 4 (by decide) (List.mem_of_getElem? (i := 3) rfl) rfl rfl dX1_keepState_10 ?_
  have hr1 : ((M 4 0).toNatClampNeg) < 40 := zclamp (a := (M 4 0)) (by omega) (by omega)
  refine zi_kept (pc := 13) (ad := fun i => G.2.2 5 i) F 2 2 rfl rfl (zin (a := (M 4 0)) (by omega) (by omega)) dX1_keepState_13 ?_
  refine zi_iconst (pc := 14) (v := 0) F dX1_keepState_14 rfl ?_
  refine zi_bipush (pc := 15) (v := 24) F dX1_keepState_15 rfl ?_
  refine zi_copy (pc := 17) (ws' := zWM G M (zsF K ((M 4 0).toNatClampNeg) (va_cpy (M 0) (K ((M 4 0).toNatClampNeg)) (0 : Int32).toNatClampNeg (0 : Int32).toNatClampNeg (24 : Int32).toNatClampNeg))) F (List.mem_of_getElem? (i := 4) rfl) (List.mem_of_getElem? (i := 5) rfl) (List.mem_of_getElem? (i := 6) rfl) (List.mem_of_getElem? (i := 7) rfl) 1 (3 + ((M 4 0).toNatClampNeg)) rfl (zwM_row G M K hr1) rfl rfl (by decide) (by decide) (by decide) (by decide) (by decide) (zwM_set hr1 _) (Nat.le_of_ble_eq_true rfl) (Nat.le_of_ble_eq_true rfl) dX1_keepState_17 ?_
  refine zi_aload_n (pc := 20) F dX1_keepState_20 0 rfl ?_
  refine zi_aload_n (pc := 21) F dX1_keepState_21 0 rfl ?_
  refine zi_get (pc := 22) (C := RX1) (T := TX1) (N := 5) (v := .int (M 4 0)) F (hw_X1_keepState_X1) 0 rfl rfl 4 (by decide) (List.mem_of_getElem? (i := 3) rfl) rfl rfl dX1_keepState_22 ?_
  refine zi_iconst (pc := 25) (v := 1) F dX1_keepState_25 rfl ?_
  refine zi_iadd (pc := 26) F dX1_keepState_26 ?_
  refine zi_bipush (pc := 27) (v := 40) F dX1_keepState_27 rfl ?_
  refine zi_icmp_ge (pc := 29) (tgt := 41) F dX1_keepState_29 (by decide) (fun c2 => ?_) (fun c2 => ?_)
  · have hE := zite_t hE c2
    try have t3 := zt_add (a := (M 4 0)) (b := 1) (by omega) (by omega)
    have t4 := zt_le c2
    refine zi_iconst (pc := 41) (v := 0) F dX1_keepState_41 rfl ?_
    refine zi_put (pc := 42) (C := RX1) (T := TX1) (N := 5) (ty := .int) (ws' := zWM G (zsI M 4 0) (zsF K ((M 4 0).toNatClampNeg) (va_cpy (M 0) (K ((M 4 0).toNatClampNeg)) (0 : Int32).toNatClampNeg (0 : Int32).toNatClampNeg (24 : Int32).toNatClampNeg))) F (hw_X1_keepState_X1) tyX1 tyX1_ok nmX1 0 rfl rfl 4 (by decide) (List.mem_of_getElem? (i := 3) rfl) rfl rfl rfl rfl rfl (Nat.le_of_ble_eq_true rfl) rfl dX1_keepState_42 ?_
    refine zi_aload_n (pc := 45) F dX1_keepState_45 0 rfl ?_
    refine zi_get (pc := 46) (C := RX1) (T := TX1) (N := 5) (v := .int (M 3 0)) F (hw_X1_keepState_X1) 0 rfl rfl 3 (by decide) (List.mem_of_getElem? (i := 8) rfl) rfl rfl dX1_keepState_46 ?_
    refine zi_bipush (pc := 49) (v := 40) F dX1_keepState_49 rfl ?_
    refine zi_icmp_ge (pc := 51) (tgt := 64) F dX1_keepState_51 (by decide) (fun c5 => ?_) (fun c5 => ?_)
    · have hE := zite_t hE c5
      have t6 := zt_le c5
      subst hE
      exact hret _ _ dX1_keepState_64
    · have hE := zite_f hE c5
      have t7 := zt_nle c5
      refine zi_aload_n (pc := 54) F dX1_keepState_54 0 rfl ?_
      refine zi_dup (pc := 55) F dX1_keepState_55 rfl ?_
      refine zi_get (pc := 56) (C := RX1) (T := TX1) (N := 5) (v := .int (M 3 0)) F (hw_X1_keepState_X1) 0 rfl rfl 3 (by decide) (List.mem_of_getElem? (i := 8) rfl) rfl rfl dX1_keepState_56 ?_
      refine zi_iconst (pc := 59) (v := 1) F dX1_keepState_59 rfl ?_
      refine zi_iadd (pc := 60) F dX1_keepState_60 ?_
      refine zi_put (pc := 61) (C := RX1) (T := TX1) (N := 5) (ty := .int) (ws' := zWM G (zsI (zsI M 3 ((M 3 0) + 1)) 4 0) (zsF K ((M 4 0).toNatClampNeg) (va_cpy (M 0) (K ((M 4 0).toNatClampNeg)) (0 : Int32).toNatClampNeg (0 : Int32).toNatClampNeg (24 : Int32).toNatClampNeg))) F (hw_X1_keepState_X1) tyX1 tyX1_ok nmX1 0 rfl rfl 3 (by decide) (List.mem_of_getElem? (i := 8) rfl) rfl rfl rfl rfl rfl (Nat.le_of_ble_eq_true rfl) rfl dX1_keepState_61 ?_
      subst hE
      exact hret _ _ dX1_keepState_64
  · have hE := zite_f hE c2
    try have t8 := zt_add (a := (M 4 0)) (b := 1) (by omega) (by omega)
    have t9 := zt_nle c2
    refine zi_aload_n (pc := 32) F dX1_keepState_32 0 rfl ?_
    refine zi_get (pc := 33) (C := RX1) (T := TX1) (N := 5) (v := .int (M 4 0)) F (hw_X1_keepState_X1) 0 rfl rfl 4 (by decide) (List.mem_of_getElem? (i := 3) rfl) rfl rfl dX1_keepState_33 ?_
    refine zi_iconst (pc := 36) (v := 1) F dX1_keepState_36 rfl ?_
    refine zi_iadd (pc := 37) F dX1_keepState_37 ?_
    refine zi_goto (pc := 38) (tgt := 42) F dX1_keepState_38 (by decide) ?_
    refine zi_put (pc := 42) (C := RX1) (T := TX1) (N := 5) (ty := .int) (ws' := zWM G (zsI M 4 ((M 4 0) + 1)) (zsF K ((M 4 0).toNatClampNeg) (va_cpy (M 0) (K ((M 4 0).toNatClampNeg)) (0 : Int32).toNatClampNeg (0 : Int32).toNatClampNeg (24 : Int32).toNatClampNeg))) F (hw_X1_keepState_X1) tyX1 tyX1_ok nmX1 0 rfl rfl 4 (by decide) (List.mem_of_getElem? (i := 3) rfl) rfl rfl rfl rfl rfl (Nat.le_of_ble_eq_true rfl) rfl dX1_keepState_42 ?_
    refine zi_aload_n (pc := 45) F dX1_keepState_45 0 rfl ?_
    refine zi_get (pc := 46) (C := RX1) (T := TX1) (N := 5) (v := .int (M 3 0)) F (hw_X1_keepState_X1) 0 rfl rfl 3 (by decide) (List.mem_of_getElem? (i := 8) rfl) rfl rfl dX1_keepState_46 ?_
    refine zi_bipush (pc := 49) (v := 40) F dX1_keepState_49 rfl ?_
    refine zi_icmp_ge (pc := 51) (tgt := 64) F dX1_keepState_51 (by decide) (fun c10 => ?_) (fun c10 => ?_)
    · have hE := zite_t hE c10
      have t11 := zt_le c10
      subst hE
      exact hret _ _ dX1_keepState_64
    · have hE := zite_f hE c10
      have t12 := zt_nle c10
      refine zi_aload_n (pc := 54) F dX1_keepState_54 0 rfl ?_
      refine zi_dup (pc := 55) F dX1_keepState_55 rfl ?_
      refine zi_get (pc := 56) (C := RX1) (T := TX1) (N := 5) (v := .int (M 3 0)) F (hw_X1_keepState_X1) 0 rfl rfl 3 (by decide) (List.mem_of_getElem? (i := 8) rfl) rfl rfl dX1_keepState_56 ?_
      refine zi_iconst (pc := 59) (v := 1) F dX1_keepState_59 rfl ?_
      refine zi_iadd (pc := 60) F dX1_keepState_60 ?_
      refine zi_put (pc := 61) (C := RX1) (T := TX1) (N := 5) (ty := .int) (ws' := zWM G (zsI (zsI M 3 ((M 3 0) + 1)) 4 ((M 4 0) + 1)) (zsF K ((M 4 0).toNatClampNeg) (va_cpy (M 0) (K ((M 4 0).toNatClampNeg)) (0 : Int32).toNatClampNeg (0 : Int32).toNatClampNeg (24 : Int32).toNatClampNeg))) F (hw_X1_keepState_X1) tyX1 tyX1_ok nmX1 0 rfl rfl 3 (by decide) (List.mem_of_getElem? (i := 8) rfl) rfl rfl rfl rfl rfl (Nat.le_of_ble_eq_true rfl) rfl dX1_keepState_61 ?_
      subst hE
      exact hret _ _ dX1_keepState_64
