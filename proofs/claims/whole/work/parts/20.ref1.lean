/-! X5_isIn -/
def mX5_isIn (number : Int32) (low : Int32) (high : Int32)  : Int32 := if number < low then 0 else (if high < number then 0 else 1)
set_option maxHeartbeats 4000000 in
set_option maxRecDepth 100000 in
theorem pp_X5_isIn (number : Int32) (low : Int32) (high : Int32)   : ((mX5_isIn number low high) = 0 ∨ (mX5_isIn number low high) = 1) ∧ (Int32.toInt (mX5_isIn number low high) = 0 ∨ (Int32.toInt low ≤ Int32.toInt number ∧ Int32.toInt number ≤ Int32.toInt high)) := by
  obtain ⟨X, hE⟩ : ∃ z, mX5_isIn number low high = z := ⟨_, rfl⟩
  rw [hE]
  have k_0 : Int32.toInt 0 = 0 := by decide
  have k_1 : Int32.toInt 1 = 1 := by decide
  unfold mX5_isIn at hE
  by_cases c1 : number < low
  · have hE := zite_t hE c1
    have t2 := zt_lt c1
    subst hE
    exact ⟨Or.inl rfl, (by first | omega | (show Int32.toInt 0 = 0 ∨ (Int32.toInt low ≤ Int32.toInt number ∧ Int32.toInt number ≤ Int32.toInt high); omega) | (show Int32.toInt 0 = 0 ∨ (Int32.toInt low ≤ Int32.toInt number ∧ Int32.toInt number ≤ Int32.toInt high); simp))⟩
  · have hE := zite_f hE c1
    have t3 := zt_nlt c1
    by_cases c4 : high < number
    · have hE := zite_t hE c4
      have t5 := zt_lt c4
      subst hE
      exact ⟨Or.inl rfl, (by first | omega | (show Int32.toInt 0 = 0 ∨ (Int32.toInt low ≤ Int32.toInt number ∧ Int32.toInt number ≤ Int32.toInt high); omega) | (show Int32.toInt 0 = 0 ∨ (Int32.toInt low ≤ Int32.toInt number ∧ Int32.toInt number ≤ Int32.toInt high); simp))⟩
    · have hE := zite_f hE c4
      have t6 := zt_nlt c4
      subst hE
      exact ⟨Or.inr rfl, (by first | omega | (show Int32.toInt 1 = 0 ∨ (Int32.toInt low ≤ Int32.toInt number ∧ Int32.toInt number ≤ Int32.toInt high); omega) | (show Int32.toInt 1 = 0 ∨ (Int32.toInt low ≤ Int32.toInt number ∧ Int32.toInt number ≤ Int32.toInt high); simp))⟩
abbrev rmX5_isIn : Room := { frames := 0, cells := 0, slots := 0, locals := 0 }
theorem hd_X5_isIn : yX5_isIn.cls = RX5 ∧ yX5_isIn.cls ≠ "java/lang/invoke/MethodHandle" ∧ yX5_isIn.cls ≠ "java/lang/invoke/VarHandle" ∧ (parseMethodDescriptor yX5_isIn.desc).map (fun d => d.parameters.length) = some 3 := by decide +kernel
set_option maxHeartbeats 4000000 in
set_option maxRecDepth 100000 in
theorem c_X5_isIn (l : Launch) (G : zG_t) (number : Int32) (low : Int32) (high : Int32)   : zCI l G.1 (zty G) yX5_isIn wsX5_isIn rmX5_isIn [.int number, .int low, .int high] ([]) ((mX5_isIn number low high)) ([]) := by
  obtain ⟨X, hE⟩ : ∃ z, mX5_isIn number low high = z := ⟨_, rfl⟩
  rw [hE]
  refine zb_Z (cc := cX5_isIn) (maxL := 3) (by decide) rfl (Nat.le_of_ble_eq_true rfl) ?_
  intro p e s m args below meth c Q A F hret
  show zW p l e rmX5_isIn s m args below meth c 0 0 Q G.1 A 3 ([]) [(0, .int number), (1, .int low), (2, .int high)] 0 []
  have k_0 : Int32.toInt 0 = 0 := by decide
  have k_1 : Int32.toInt 1 = 1 := by decide
  unfold mX5_isIn at hE
  refine zi_iload_n (pc := 0) F dX5_isIn_0 0 rfl ?_
  refine zi_iload_n (pc := 1) F dX5_isIn_1 1 rfl ?_
  refine zi_icmp_lt (pc := 2) (tgt := 14) F dX5_isIn_2 (by decide) (fun c1 => ?_) (fun c1 => ?_)
  · have hE := zite_t hE c1
    have t2 := zt_lt c1
    refine zi_iconst (pc := 14) (v := 0) F dX5_isIn_14 rfl ?_
    subst hE
    exact hret _ _ dX5_isIn_15 (znb (Or.inl rfl))
  · have hE := zite_f hE c1
    have t3 := zt_nlt c1
    refine zi_iload_n (pc := 5) F dX5_isIn_5 0 rfl ?_
    refine zi_iload_n (pc := 6) F dX5_isIn_6 2 rfl ?_
    refine zi_icmp_gt (pc := 7) (tgt := 14) F dX5_isIn_7 (by decide) (fun c4 => ?_) (fun c4 => ?_)
    · have hE := zite_t hE c4
      have t5 := zt_lt c4
      refine zi_iconst (pc := 14) (v := 0) F dX5_isIn_14 rfl ?_
      subst hE
      exact hret _ _ dX5_isIn_15 (znb (Or.inl rfl))
    · have hE := zite_f hE c4
      have t6 := zt_nlt c4
      refine zi_iconst (pc := 10) (v := 1) F dX5_isIn_10 rfl ?_
      refine zi_goto (pc := 11) (tgt := 15) F dX5_isIn_11 (by decide) ?_
      subst hE
      exact hret _ _ dX5_isIn_15 (znb (Or.inr rfl))
/-! X5_cost -/
def mX5_cost (its : Int32)  : Int32 := if its = 0 then 2 else (if its = 5 then 2 else (if its = 6 then 2 else (if its = 9 then 2 else (if its = 7 then 4 else (if its ≤ 11 then 3 else 1)))))
abbrev rmX5_cost : Room := { frames := 0, cells := 0, slots := 0, locals := 0 }
theorem hd_X5_cost : yX5_cost.cls = RX5 ∧ yX5_cost.cls ≠ "java/lang/invoke/MethodHandle" ∧ yX5_cost.cls ≠ "java/lang/invoke/VarHandle" ∧ (parseMethodDescriptor yX5_cost.desc).map (fun d => d.parameters.length) = some 1 := by decide +kernel
set_option maxHeartbeats 4000000 in
set_option maxRecDepth 100000 in
theorem c_X5_cost (l : Launch) (G : zG_t) (its : Int32)   : zCI l G.1 (zty G) yX5_cost wsX5_cost rmX5_cost [.int its] ([]) ((mX5_cost its)) ([]) := by
  obtain ⟨X, hE⟩ : ∃ z, mX5_cost its = z := ⟨_, rfl⟩
  rw [hE]
  refine zb_I (cc := cX5_cost) (maxL := 1) (by decide) rfl (Nat.le_of_ble_eq_true rfl) ?_
  intro p e s m args below meth c Q A F hret
  show zW p l e rmX5_cost s m args below meth c 0 0 Q G.1 A 1 ([]) [(0, .int its)] 0 []
  have k_0 : Int32.toInt 0 = 0 := by decide
  have k_1 : Int32.toInt 1 = 1 := by decide
  have k_2 : Int32.toInt 2 = 2 := by decide
  have k_3 : Int32.toInt 3 = 3 := by decide
  have k_4 : Int32.toInt 4 = 4 := by decide
  have k_5 : Int32.toInt 5 = 5 := by decide
  have k_6 : Int32.toInt 6 = 6 := by decide
  have k_7 : Int32.toInt 7 = 7 := by decide
  have k_9 : Int32.toInt 9 = 9 := by decide
  have k_11 : Int32.toInt 11 = 11 := by decide
  unfold mX5_cost at hE
  refine zi_iload_n (pc := 0) F dX5_cost_0 0 rfl ?_
  refine zi_if_eq (pc := 1) (tgt := 21) F dX5_cost_1 (by decide) (fun c1 => ?_) (fun c1 => ?_)
  · have hE := zite_t hE c1
    have t2 := congrArg Int32.toInt c1
    refine zi_iconst (pc := 21) (v := 2) F dX5_cost_21 rfl ?_
    refine zi_goto (pc := 22) (tgt := 46) F dX5_cost_22 (by decide) ?_
    subst hE
    exact hret _ _ dX5_cost_46
  · have hE := zite_f hE c1
    have t3 := zt_ne c1
    refine zi_iload_n (pc := 4) F dX5_cost_4 0 rfl ?_
    refine zi_iconst (pc := 5) (v := 5) F dX5_cost_5 rfl ?_
    refine zi_icmp_eq (pc := 6) (tgt := 21) F dX5_cost_6 (by decide) (fun c4 => ?_) (fun c4 => ?_)
    · have hE := zite_t hE c4
      have t5 := congrArg Int32.toInt c4
      refine zi_iconst (pc := 21) (v := 2) F dX5_cost_21 rfl ?_
      refine zi_goto (pc := 22) (tgt := 46) F dX5_cost_22 (by decide) ?_
      subst hE
      exact hret _ _ dX5_cost_46
    · have hE := zite_f hE c4
      have t6 := zt_ne c4
      refine zi_iload_n (pc := 9) F dX5_cost_9 0 rfl ?_
      refine zi_bipush (pc := 10) (v := 6) F dX5_cost_10 rfl ?_
      refine zi_icmp_eq (pc := 12) (tgt := 21) F dX5_cost_12 (by decide) (fun c7 => ?_) (fun c7 => ?_)
      · have hE := zite_t hE c7
        have t8 := congrArg Int32.toInt c7
        refine zi_iconst (pc := 21) (v := 2) F dX5_cost_21 rfl ?_
        refine zi_goto (pc := 22) (tgt := 46) F dX5_cost_22 (by decide) ?_
        subst hE
        exact hret _ _ dX5_cost_46
      · have hE := zite_f hE c7
        have t9 := zt_ne c7
        refine zi_iload_n (pc := 15) F dX5_cost_15 0 rfl ?_
        refine zi_bipush (pc := 16) (v := 9) F dX5_cost_16 rfl ?_
        refine zi_icmp_ne (pc := 18) (tgt := 25) F dX5_cost_18 (by decide) (fun c10 => ?_) (fun c10 => ?_)
        · have hE := zite_f hE c10
          have t11 := zt_ne c10
          refine zi_iload_n (pc := 25) F dX5_cost_25 0 rfl ?_
          refine zi_bipush (pc := 26) (v := 7) F dX5_cost_26 rfl ?_
          refine zi_icmp_ne (pc := 28) (tgt := 35) F dX5_cost_28 (by decide) (fun c12 => ?_) (fun c12 => ?_)
          · have hE := zite_f hE c12
            have t13 := zt_ne c12
            refine zi_iload_n (pc := 35) F dX5_cost_35 0 rfl ?_
            refine zi_bipush (pc := 36) (v := 11) F dX5_cost_36 rfl ?_
            refine zi_icmp_le (pc := 38) (tgt := 45) F dX5_cost_38 (by decide) (fun c14 => ?_) (fun c14 => ?_)
            · have hE := zite_t hE c14
              have t15 := zt_le c14
              refine zi_iconst (pc := 45) (v := 3) F dX5_cost_45 rfl ?_
              subst hE
              exact hret _ _ dX5_cost_46
            · have hE := zite_f hE c14
              have t16 := zt_nle c14
              refine zi_iconst (pc := 41) (v := 1) F dX5_cost_41 rfl ?_
              refine zi_goto (pc := 42) (tgt := 46) F dX5_cost_42 (by decide) ?_
              subst hE
              exact hret _ _ dX5_cost_46
          · have hE := zite_t hE c12
            have t17 := congrArg Int32.toInt c12
            refine zi_iconst (pc := 31) (v := 4) F dX5_cost_31 rfl ?_
            refine zi_goto (pc := 32) (tgt := 46) F dX5_cost_32 (by decide) ?_
            subst hE
            exact hret _ _ dX5_cost_46
        · have hE := zite_t hE c10
          have t18 := congrArg Int32.toInt c10
          refine zi_iconst (pc := 21) (v := 2) F dX5_cost_21 rfl ?_
          refine zi_goto (pc := 22) (tgt := 46) F dX5_cost_22 (by decide) ?_
          subst hE
          exact hret _ _ dX5_cost_46
/-! X5_thrown -/
def mX5_thrown  (R : zS_t) : Int32 := (R 26 0)
theorem hw_X5_thrown_X5 : ∀ w ∈ wsX50, w ∈ wsX5_thrown := fun w h => List.mem_cons_of_mem _ (List.mem_append_right _ (h))
abbrev rmX5_thrown : Room := { frames := 0, cells := 0, slots := 0, locals := 0 }
theorem hd_X5_thrown : yX5_thrown.cls = RX5 ∧ yX5_thrown.cls ≠ "java/lang/invoke/MethodHandle" ∧ yX5_thrown.cls ≠ "java/lang/invoke/VarHandle" ∧ (parseMethodDescriptor yX5_thrown.desc).map (fun d => d.parameters.length) = some 0 := by decide +kernel
set_option maxHeartbeats 4000000 in
set_option maxRecDepth 100000 in
theorem c_X5_thrown (l : Launch) (G : zG_t)  (R : zS_t)  : zCI l G.1 (zty G) yX5_thrown wsX5_thrown rmX5_thrown [.ref (G.2.2 6 0)] (zWR G R) ((mX5_thrown R)) (zWR G R) := by
  obtain ⟨X, hE⟩ : ∃ z, mX5_thrown R = z := ⟨_, rfl⟩
  rw [hE]
  refine zb_I (cc := cX5_thrown) (maxL := 1) (by decide) rfl (Nat.le_of_ble_eq_true rfl) ?_
  intro p e s m args below meth c Q A F hret
  show zW p l e rmX5_thrown s m args below meth c 0 0 Q G.1 A 1 (zWR G R) [(0, .ref (G.2.2 6 0))] 0 []
  have k_0 : Int32.toInt 0 = 0 := by decide
  have k_1 : Int32.toInt 1 = 1 := by decide
  unfold mX5_thrown at hE
  refine zi_aload_n (pc := 0) F dX5_thrown_0 0 rfl ?_
  refine zi_get (pc := 1) (C := RX5) (T := TX5) (N := 27) (v := .int (R 26 0)) F (hw_X5_thrown_X5) 0 rfl rfl 26 (by decide) (List.mem_of_getElem? (i := 1) rfl) rfl rfl dX5_thrown_1 ?_
  subst hE
  exact hret _ _ dX5_thrown_4
/-! X5_thingOf -/
def mX5_thingOf_L4 (itsName : Int32) (R : zS_t) : Nat → Int32 → Int32 → Int32 × Int32
  | 0, k2_15, k3_16 => (k2_15, k3_16)
  | n17 + 1, k2_15, k3_16 => if (R 6 0) ≤ k3_16 then (k2_15, k3_16) else (if (R 9 k3_16.toNatClampNeg) = itsName then (zbnd ((k3_16 + 1)) (fun y37 => mX5_thingOf_L4 itsName R n17 k3_16 y37)) else (zbnd ((k3_16 + 1)) (fun y32 => mX5_thingOf_L4 itsName R n17 k2_15 y32)))
def mX5_thingOf (itsName : Int32) (R : zS_t) : Int32 := zbnd2 (mX5_thingOf_L4 itsName R 11 (-1) 0) (fun k2_41 k3_42 => k2_41)
set_option maxHeartbeats 4000000 in
set_option maxRecDepth 100000 in
theorem pp_X5_thingOf (itsName : Int32) (R : zS_t) (hIR : zIR R) : (-1 ≤ Int32.toInt (mX5_thingOf itsName R) ∧ Int32.toInt (mX5_thingOf itsName R) < Int32.toInt (R 6 0)) := by
  obtain ⟨X, hE⟩ : ∃ z, mX5_thingOf itsName R = z := ⟨_, rfl⟩
  rw [hE]
  have k_m1 : Int32.toInt (-1) = -1 := by decide
  have k_0 : Int32.toInt 0 = 0 := by decide
  have k_1 : Int32.toInt 1 = 1 := by decide
  obtain ⟨⟨i49, i50⟩, ⟨i51, i52⟩, ⟨i53, i54⟩, ⟨i55, i56⟩, ⟨i57, i58⟩, hIR_b14, hIR_p15⟩ := id hIR
  unfold mX5_thingOf at hE
  have hL4 : ∀ (n17 : Nat) (k2_15 : Int32) (k3_16 : Int32), (0 ≤ Int32.toInt k3_16) ∧ (Int32.toInt k3_16 ≤ 10) ∧ (-1 ≤ Int32.toInt k2_15) ∧ (Int32.toInt k2_15 < Int32.toInt (R 6 0)) → 11 - Int32.toInt k3_16 ≤ (n17 : Int) → ∀ Y18, mX5_thingOf_L4 itsName R n17 k2_15 k3_16 = Y18 → (0 ≤ Int32.toInt Y18.2) ∧ (Int32.toInt Y18.2 ≤ 10) ∧ (-1 ≤ Int32.toInt Y18.1) ∧ (Int32.toInt Y18.1 < Int32.toInt (R 6 0)) := by
    intro n17
    induction n17 with
    | zero =>
      intro k2_15 k3_16 hI hM9
      obtain ⟨i19, i20, i21, i22⟩ := id hI
      exact absurd hM9 (by omega)
    | succ n17 ih =>
      intro k2_15 k3_16 hI hM9 Y18 hE
      obtain ⟨i23, i24, i25, i26⟩ := id hI
      rw [mX5_thingOf_L4.eq_2] at hE
      by_cases c27 : (R 6 0) ≤ k3_16
      · have hE := zite_t hE c27
        have t28 := zt_le c27
        subst hE
        exact ⟨by (show 0 ≤ Int32.toInt k3_16; omega), by (show Int32.toInt k3_16 ≤ 10; omega), by (show -1 ≤ Int32.toInt k2_15; omega), by (show Int32.toInt k2_15 < Int32.toInt (R 6 0); omega)⟩
      · have hE := zite_f hE c27
        have t29 := zt_nle c27
        by_cases c30 : (R 9 k3_16.toNatClampNeg) = itsName
        · have hE := zite_t hE c30
          have t31 := congrArg Int32.toInt c30
          try have t34 := zt_add (a := k3_16) (b := 1) (by omega) (by omega)
          obtain ⟨y32, e33⟩ : ∃ z : Int32, (k3_16 + 1) = z := ⟨_, rfl⟩
          have hE := zbnd_cut hE e33
          have t35 := congrArg Int32.toInt e33
          exact ih k3_16 y32 (⟨by (show 0 ≤ Int32.toInt y32; omega), by (show Int32.toInt y32 ≤ 10; omega), by (show -1 ≤ Int32.toInt k3_16; omega), by (show Int32.toInt k3_16 < Int32.toInt (R 6 0); omega)⟩) (by omega) _ hE
        · have hE := zite_f hE c30
          have t36 := zt_ne c30
          try have t39 := zt_add (a := k3_16) (b := 1) (by omega) (by omega)
          obtain ⟨y37, e38⟩ : ∃ z : Int32, (k3_16 + 1) = z := ⟨_, rfl⟩
          have hE := zbnd_cut hE e38
          have t40 := congrArg Int32.toInt e38
          exact ih k2_15 y37 (⟨by (show 0 ≤ Int32.toInt y37; omega), by (show Int32.toInt y37 ≤ 10; omega), by (show -1 ≤ Int32.toInt k2_15; omega), by (show Int32.toInt k2_15 < Int32.toInt (R 6 0); omega)⟩) (by omega) _ hE
  obtain ⟨⟨k2_41, k3_42⟩, e43⟩ : ∃ z, mX5_thingOf_L4 itsName R 11 (-1) 0 = z := ⟨_, rfl⟩
  have hE := zbnd2_cut hE e43
  have hI44 := hL4 11 (-1) 0 (⟨by (show 0 ≤ Int32.toInt 0; omega), by (show Int32.toInt 0 ≤ 10; omega), by (show -1 ≤ Int32.toInt (-1); omega), by (show Int32.toInt (-1) < Int32.toInt (R 6 0); omega)⟩) (by omega) _ e43
  have hI44 : (0 ≤ Int32.toInt k3_42) ∧ (Int32.toInt k3_42 ≤ 10) ∧ (-1 ≤ Int32.toInt k2_41) ∧ (Int32.toInt k2_41 < Int32.toInt (R 6 0)) := hI44
  obtain ⟨i45, i46, i47, i48⟩ := id hI44
  subst hE
  exact (by first | omega | (show -1 ≤ Int32.toInt k2_41 ∧ Int32.toInt k2_41 < Int32.toInt (R 6 0); omega) | (show -1 ≤ Int32.toInt k2_41 ∧ Int32.toInt k2_41 < Int32.toInt (R 6 0); simp))
theorem hw_X5_thingOf_X5 : ∀ w ∈ wsX50, w ∈ wsX5_thingOf := fun w h => List.mem_cons_of_mem _ (List.mem_append_right _ (h))
abbrev rmX5_thingOf : Room := { frames := 0, cells := 0, slots := 0, locals := 0 }
theorem hd_X5_thingOf : yX5_thingOf.cls = RX5 ∧ yX5_thingOf.cls ≠ "java/lang/invoke/MethodHandle" ∧ yX5_thingOf.cls ≠ "java/lang/invoke/VarHandle" ∧ (parseMethodDescriptor yX5_thingOf.desc).map (fun d => d.parameters.length) = some 1 := by decide +kernel
set_option maxHeartbeats 4000000 in
set_option maxRecDepth 100000 in
theorem c_X5_thingOf (l : Launch) (G : zG_t) (itsName : Int32) (R : zS_t) (hIR : zIR R) : zCI l G.1 (zty G) yX5_thingOf wsX5_thingOf rmX5_thingOf [.ref (G.2.2 6 0), .int itsName] (zWR G R) ((mX5_thingOf itsName R)) (zWR G R) := by
  obtain ⟨X, hE⟩ : ∃ z, mX5_thingOf itsName R = z := ⟨_, rfl⟩
  rw [hE]
  refine zb_I (cc := cX5_thingOf) (maxL := 4) (by decide) rfl (Nat.le_of_ble_eq_true rfl) ?_
  intro p e s m args below meth c Q A F hret
  show zW p l e rmX5_thingOf s m args below meth c 0 0 Q G.1 A 4 (zWR G R) [(0, .ref (G.2.2 6 0)), (1, .int itsName)] 0 []
  have k_m1 : Int32.toInt (-1) = -1 := by decide
  have k_0 : Int32.toInt 0 = 0 := by decide
  have k_1 : Int32.toInt 1 = 1 := by decide
  obtain ⟨⟨i59, i60⟩, ⟨i61, i62⟩, ⟨i63, i64⟩, ⟨i65, i66⟩, ⟨i67, i68⟩, hIR_b14, hIR_p15⟩ := id hIR
  unfold mX5_thingOf at hE
  refine zi_iconst (pc := 0) (v := (-1)) F dX5_thingOf_0 rfl ?_
  refine zi_istore_n (pc := 1) (lv' := [(0, .ref (G.2.2 6 0)), (1, .int itsName), (2, .int (-1))]) F dX5_thingOf_1 (by decide) rfl ?_
  refine zi_iconst (pc := 2) (v := 0) F dX5_thingOf_2 rfl ?_
  refine zi_istore_n (pc := 3) (lv' := [(0, .ref (G.2.2 6 0)), (1, .int itsName), (2, .int (-1)), (3, .int 0)]) F dX5_thingOf_3 (by decide) rfl ?_
  have hL4 : ∀ (n17 : Nat) (k2_15 : Int32) (k3_16 : Int32), (0 ≤ Int32.toInt k3_16) ∧ (Int32.toInt k3_16 ≤ 10) ∧ (-1 ≤ Int32.toInt k2_15) ∧ (Int32.toInt k2_15 < Int32.toInt (R 6 0)) → 11 - Int32.toInt k3_16 ≤ (n17 : Int) → ∀ Y18, mX5_thingOf_L4 itsName R n17 k2_15 k3_16 = Y18 → (((0 ≤ Int32.toInt Y18.2) ∧ (Int32.toInt Y18.2 ≤ 10) ∧ (-1 ≤ Int32.toInt Y18.1) ∧ (Int32.toInt Y18.1 < Int32.toInt (R 6 0))) → zW p l e rmX5_thingOf s m args below meth c 0 0 Q G.1 A 4 (zWR G R) [(0, .ref (G.2.2 6 0)), (1, .int itsName), (2, .int Y18.1), (3, .int Y18.2)] 34 []) → zW p l e rmX5_thingOf s m args below meth c 0 0 Q G.1 A 4 (zWR G R) [(0, .ref (G.2.2 6 0)), (1, .int itsName), (2, .int k2_15), (3, .int k3_16)] 4 [] := by
    intro n17
    induction n17 with
    | zero =>
      intro k2_15 k3_16 hI hM9
      obtain ⟨i19, i20, i21, i22⟩ := id hI
      exact absurd hM9 (by omega)
    | succ n17 ih =>
      intro k2_15 k3_16 hI hM9 Y18 hE hK
      obtain ⟨i23, i24, i25, i26⟩ := id hI
      rw [mX5_thingOf_L4.eq_2] at hE
      refine zi_iload_n (pc := 4) F dX5_thingOf_4 3 rfl ?_
      refine zi_aload_n (pc := 5) F dX5_thingOf_5 0 rfl ?_
      refine zi_get (pc := 6) (C := RX5) (T := TX5) (N := 27) (v := .int (R 6 0)) F (hw_X5_thingOf_X5) 0 rfl rfl 6 (by decide) (List.mem_of_getElem? (i := 1) rfl) rfl rfl dX5_thingOf_6 ?_
      refine zi_icmp_ge (pc := 9) (tgt := 34) F dX5_thingOf_9 (by decide) (fun c27 => ?_) (fun c27 => ?_)
      · have hE := zite_t hE c27
        have t28 := zt_le c27
        subst hE
        refine zi_sub [0, 1, 2, 3] rfl ?_
        exact hK (⟨by (show 0 ≤ Int32.toInt k3_16; omega), by (show Int32.toInt k3_16 ≤ 10; omega), by (show -1 ≤ Int32.toInt k2_15; omega), by (show Int32.toInt k2_15 < Int32.toInt (R 6 0); omega)⟩)
      · have hE := zite_f hE c27
        have t29 := zt_nle c27
        refine zi_aload_n (pc := 12) F dX5_thingOf_12 0 rfl ?_
        refine zi_get (pc := 13) (C := RX5) (T := TX5) (N := 27) (v := .ref (G.2.2 6 4)) F (hw_X5_thingOf_X5) 0 rfl rfl 9 (by decide) (List.mem_of_getElem? (i := 2) rfl) rfl rfl dX5_thingOf_13 ?_
        refine zi_iload_n (pc := 16) F dX5_thingOf_16 3 rfl ?_
        refine zi_iald (pc := 17) (v := (R 9 k3_16.toNatClampNeg)) F 4 0 rfl rfl (zin (a := k3_16) (by omega) (by omega)) rfl dX5_thingOf_17 ?_
        refine zi_iload_n (pc := 18) F dX5_thingOf_18 1 rfl ?_
        refine zi_icmp_ne (pc := 19) (tgt := 26) F dX5_thingOf_19 (by decide) (fun c30 => ?_) (fun c30 => ?_)
        · have hE := zite_f hE c30
          have t31 := zt_ne c30
          refine zi_iload_n (pc := 26) F dX5_thingOf_26 2 rfl ?_
          refine zi_istore_n (pc := 27) (lv' := [(0, .ref (G.2.2 6 0)), (1, .int itsName), (2, .int k2_15), (3, .int k3_16)]) F dX5_thingOf_27 (by decide) rfl ?_
          try have t34 := zt_add (a := k3_16) (b := 1) (by omega) (by omega)
          obtain ⟨y32, e33⟩ : ∃ z : Int32, (k3_16 + 1) = z := ⟨_, rfl⟩
          have hE := zbnd_cut hE e33
          have t35 := congrArg Int32.toInt e33
          refine zi_iinc (pc := 28) (lv' := [(0, .ref (G.2.2 6 0)), (1, .int itsName), (2, .int k2_15), (3, .int y32)]) F dX5_thingOf_28 3 rfl e33 (by decide) rfl ?_
          refine zi_goto (pc := 31) (tgt := 4) F dX5_thingOf_31 (by decide) ?_
          refine zi_sub [0, 1, 2, 3] rfl ?_
          exact ih k2_15 y32 (⟨by (show 0 ≤ Int32.toInt y32; omega), by (show Int32.toInt y32 ≤ 10; omega), by (show -1 ≤ Int32.toInt k2_15; omega), by (show Int32.toInt k2_15 < Int32.toInt (R 6 0); omega)⟩) (by omega) _ hE hK
        · have hE := zite_t hE c30
          have t36 := congrArg Int32.toInt c30
          refine zi_iload_n (pc := 22) F dX5_thingOf_22 3 rfl ?_
          refine zi_goto (pc := 23) (tgt := 27) F dX5_thingOf_23 (by decide) ?_
          refine zi_istore_n (pc := 27) (lv' := [(0, .ref (G.2.2 6 0)), (1, .int itsName), (2, .int k3_16), (3, .int k3_16)]) F dX5_thingOf_27 (by decide) rfl ?_
          try have t39 := zt_add (a := k3_16) (b := 1) (by omega) (by omega)
          obtain ⟨y37, e38⟩ : ∃ z : Int32, (k3_16 + 1) = z := ⟨_, rfl⟩
          have hE := zbnd_cut hE e38
          have t40 := congrArg Int32.toInt e38
          refine zi_iinc (pc := 28) (lv' := [(0, .ref (G.2.2 6 0)), (1, .int itsName), (2, .int k3_16), (3, .int y37)]) F dX5_thingOf_28 3 rfl e38 (by decide) rfl ?_
          refine zi_goto (pc := 31) (tgt := 4) F dX5_thingOf_31 (by decide) ?_
          refine zi_sub [0, 1, 2, 3] rfl ?_
          exact ih k3_16 y37 (⟨by (show 0 ≤ Int32.toInt y37; omega), by (show Int32.toInt y37 ≤ 10; omega), by (show -1 ≤ Int32.toInt k3_16; omega), by (show Int32.toInt k3_16 < Int32.toInt (R 6 0); omega)⟩) (by omega) _ hE hK
  obtain ⟨⟨k2_41, k3_42⟩, e43⟩ : ∃ z, mX5_thingOf_L4 itsName R 11 (-1) 0 = z := ⟨_, rfl⟩
  have hE := zbnd2_cut hE e43
  refine hL4 11 (-1) 0 (⟨by (show 0 ≤ Int32.toInt 0; omega), by (show Int32.toInt 0 ≤ 10; omega), by (show -1 ≤ Int32.toInt (-1); omega), by (show Int32.toInt (-1) < Int32.toInt (R 6 0); omega)⟩) (by omega) _ e43 (fun hI44 => ?_)
  have hI44 : (0 ≤ Int32.toInt k3_42) ∧ (Int32.toInt k3_42 ≤ 10) ∧ (-1 ≤ Int32.toInt k2_41) ∧ (Int32.toInt k2_41 < Int32.toInt (R 6 0)) := hI44
  obtain ⟨i45, i46, i47, i48⟩ := id hI44
  show zW p l e rmX5_thingOf s m args below meth c 0 0 Q G.1 A 4 (zWR G R) [(0, .ref (G.2.2 6 0)), (1, .int itsName), (2, .int k2_41), (3, .int k3_42)] 34 []
  refine zi_iload_n (pc := 34) F dX5_thingOf_34 2 rfl ?_
  subst hE
  exact hret _ _ dX5_thingOf_35
/-! X5_entryOf -/
def mX5_entryOf_L4 (itsMark : Int32) (R : zS_t) : Nat → Int32 → Int32 → Int32 × Int32
  | 0, k2_20, k3_21 => (k2_20, k3_21)
  | n22 + 1, k2_20, k3_21 => if (R 12 0) ≤ k3_21 then (k2_20, k3_21) else (if (R 16 k3_21.toNatClampNeg) = itsMark then (zbnd ((((R 12 0) - 1) - k3_21)) (fun y42 => zbnd ((k3_21 + 1)) (fun y47 => mX5_entryOf_L4 itsMark R n22 y42 y47))) else (zbnd ((k3_21 + 1)) (fun y37 => mX5_entryOf_L4 itsMark R n22 k2_20 y37)))
def mX5_entryOf (itsMark : Int32) (R : zS_t) : Int32 := zbnd2 (mX5_entryOf_L4 itsMark R 13 (-1) 0) (fun k2_51 k3_52 => k2_51)
set_option maxHeartbeats 4000000 in
set_option maxRecDepth 100000 in
theorem pp_X5_entryOf (itsMark : Int32) (R : zS_t) (hIR : zIR R) : (-1 ≤ Int32.toInt (mX5_entryOf itsMark R) ∧ Int32.toInt (mX5_entryOf itsMark R) < Int32.toInt (R 12 0)) := by
  obtain ⟨X, hE⟩ : ∃ z, mX5_entryOf itsMark R = z := ⟨_, rfl⟩
  rw [hE]
  have k_m1 : Int32.toInt (-1) = -1 := by decide
  have k_0 : Int32.toInt 0 = 0 := by decide
  have k_1 : Int32.toInt 1 = 1 := by decide
  obtain ⟨⟨i59, i60⟩, ⟨i61, i62⟩, ⟨i63, i64⟩, ⟨i65, i66⟩, ⟨i67, i68⟩, hIR_b14, hIR_p15⟩ := id hIR
  unfold mX5_entryOf at hE
  have hL4 : ∀ (n22 : Nat) (k2_20 : Int32) (k3_21 : Int32), (0 ≤ Int32.toInt k3_21) ∧ (Int32.toInt k3_21 ≤ 12) ∧ (-1 ≤ Int32.toInt k2_20) ∧ (Int32.toInt k2_20 < Int32.toInt (R 12 0)) → 13 - Int32.toInt k3_21 ≤ (n22 : Int) → ∀ Y23, mX5_entryOf_L4 itsMark R n22 k2_20 k3_21 = Y23 → (0 ≤ Int32.toInt Y23.2) ∧ (Int32.toInt Y23.2 ≤ 12) ∧ (-1 ≤ Int32.toInt Y23.1) ∧ (Int32.toInt Y23.1 < Int32.toInt (R 12 0)) := by
    intro n22
    induction n22 with
    | zero =>
      intro k2_20 k3_21 hI hM9
      obtain ⟨i24, i25, i26, i27⟩ := id hI
      exact absurd hM9 (by omega)
    | succ n22 ih =>
      intro k2_20 k3_21 hI hM9 Y23 hE
      obtain ⟨i28, i29, i30, i31⟩ := id hI
      rw [mX5_entryOf_L4.eq_2] at hE
      by_cases c32 : (R 12 0) ≤ k3_21
      · have hE := zite_t hE c32
        have t33 := zt_le c32
        subst hE
        exact ⟨by (show 0 ≤ Int32.toInt k3_21; omega), by (show Int32.toInt k3_21 ≤ 12; omega), by (show -1 ≤ Int32.toInt k2_20; omega), by (show Int32.toInt k2_20 < Int32.toInt (R 12 0); omega)⟩
      · have hE := zite_f hE c32
        have t34 := zt_nle c32
        by_cases c35 : (R 16 k3_21.toNatClampNeg) = itsMark
        · have hE := zite_t hE c35
          have t36 := congrArg Int32.toInt c35
          try have t39 := zt_sub (a := (R 12 0)) (b := 1) (by omega) (by omega)
          try have t40 := zt_sub (a := ((R 12 0) - 1)) (b := k3_21) (by omega) (by omega)
          obtain ⟨y37, e38⟩ : ∃ z : Int32, (((R 12 0) - 1) - k3_21) = z := ⟨_, rfl⟩
          have hE := zbnd_cut hE e38
          have t41 := congrArg Int32.toInt e38
          try have t44 := zt_add (a := k3_21) (b := 1) (by omega) (by omega)
          obtain ⟨y42, e43⟩ : ∃ z : Int32, (k3_21 + 1) = z := ⟨_, rfl⟩
          have hE := zbnd_cut hE e43
          have t45 := congrArg Int32.toInt e43
          exact ih y37 y42 (⟨by (show 0 ≤ Int32.toInt y42; omega), by (show Int32.toInt y42 ≤ 12; omega), by (show -1 ≤ Int32.toInt y37; omega), by (show Int32.toInt y37 < Int32.toInt (R 12 0); omega)⟩) (by omega) _ hE
        · have hE := zite_f hE c35
          have t46 := zt_ne c35
          try have t49 := zt_add (a := k3_21) (b := 1) (by omega) (by omega)
          obtain ⟨y47, e48⟩ : ∃ z : Int32, (k3_21 + 1) = z := ⟨_, rfl⟩
          have hE := zbnd_cut hE e48
          have t50 := congrArg Int32.toInt e48
          exact ih k2_20 y47 (⟨by (show 0 ≤ Int32.toInt y47; omega), by (show Int32.toInt y47 ≤ 12; omega), by (show -1 ≤ Int32.toInt k2_20; omega), by (show Int32.toInt k2_20 < Int32.toInt (R 12 0); omega)⟩) (by omega) _ hE
  obtain ⟨⟨k2_51, k3_52⟩, e53⟩ : ∃ z, mX5_entryOf_L4 itsMark R 13 (-1) 0 = z := ⟨_, rfl⟩
  have hE := zbnd2_cut hE e53
  have hI54 := hL4 13 (-1) 0 (⟨by (show 0 ≤ Int32.toInt 0; omega), by (show Int32.toInt 0 ≤ 12; omega), by (show -1 ≤ Int32.toInt (-1); omega), by (show Int32.toInt (-1) < Int32.toInt (R 12 0); omega)⟩) (by omega) _ e53
  have hI54 : (0 ≤ Int32.toInt k3_52) ∧ (Int32.toInt k3_52 ≤ 12) ∧ (-1 ≤ Int32.toInt k2_51) ∧ (Int32.toInt k2_51 < Int32.toInt (R 12 0)) := hI54
  obtain ⟨i55, i56, i57, i58⟩ := id hI54
  subst hE
  exact (by first | omega | (show -1 ≤ Int32.toInt k2_51 ∧ Int32.toInt k2_51 < Int32.toInt (R 12 0); omega) | (show -1 ≤ Int32.toInt k2_51 ∧ Int32.toInt k2_51 < Int32.toInt (R 12 0); simp))
theorem hw_X5_entryOf_X5 : ∀ w ∈ wsX50, w ∈ wsX5_entryOf := fun w h => List.mem_cons_of_mem _ (List.mem_append_right _ (h))
abbrev rmX5_entryOf : Room := { frames := 0, cells := 0, slots := 0, locals := 0 }
theorem hd_X5_entryOf : yX5_entryOf.cls = RX5 ∧ yX5_entryOf.cls ≠ "java/lang/invoke/MethodHandle" ∧ yX5_entryOf.cls ≠ "java/lang/invoke/VarHandle" ∧ (parseMethodDescriptor yX5_entryOf.desc).map (fun d => d.parameters.length) = some 1 := by decide +kernel
set_option maxHeartbeats 4000000 in
set_option maxRecDepth 100000 in
theorem c_X5_entryOf (l : Launch) (G : zG_t) (itsMark : Int32) (R : zS_t) (hIR : zIR R) : zCI l G.1 (zty G) yX5_entryOf wsX5_entryOf rmX5_entryOf [.ref (G.2.2 6 0), .int itsMark] (zWR G R) ((mX5_entryOf itsMark R)) (zWR G R) := by
  obtain ⟨X, hE⟩ : ∃ z, mX5_entryOf itsMark R = z := ⟨_, rfl⟩
  rw [hE]
  refine zb_I (cc := cX5_entryOf) (maxL := 4) (by decide) rfl (Nat.le_of_ble_eq_true rfl) ?_
  intro p e s m args below meth c Q A F hret
  show zW p l e rmX5_entryOf s m args below meth c 0 0 Q G.1 A 4 (zWR G R) [(0, .ref (G.2.2 6 0)), (1, .int itsMark)] 0 []
  have k_m1 : Int32.toInt (-1) = -1 := by decide
  have k_0 : Int32.toInt 0 = 0 := by decide
  have k_1 : Int32.toInt 1 = 1 := by decide
  obtain ⟨⟨i69, i70⟩, ⟨i71, i72⟩, ⟨i73, i74⟩, ⟨i75, i76⟩, ⟨i77, i78⟩, hIR_b14, hIR_p15⟩ := id hIR
  unfold mX5_entryOf at hE
  refine zi_iconst (pc := 0) (v := (-1)) F dX5_entryOf_0 rfl ?_
  refine zi_istore_n (pc := 1) (lv' := [(0, .ref (G.2.2 6 0)), (1, .int itsMark), (2, .int (-1))]) F dX5_entryOf_1 (by decide) rfl ?_
  refine zi_iconst (pc := 2) (v := 0) F dX5_entryOf_2 rfl ?_
  refine zi_istore_n (pc := 3) (lv' := [(0, .ref (G.2.2 6 0)), (1, .int itsMark), (2, .int (-1)), (3, .int 0)]) F dX5_entryOf_3 (by decide) rfl ?_
  have hL4 : ∀ (n22 : Nat) (k2_20 : Int32) (k3_21 : Int32), (0 ≤ Int32.toInt k3_21) ∧ (Int32.toInt k3_21 ≤ 12) ∧ (-1 ≤ Int32.toInt k2_20) ∧ (Int32.toInt k2_20 < Int32.toInt (R 12 0)) → 13 - Int32.toInt k3_21 ≤ (n22 : Int) → ∀ Y23, mX5_entryOf_L4 itsMark R n22 k2_20 k3_21 = Y23 → (((0 ≤ Int32.toInt Y23.2) ∧ (Int32.toInt Y23.2 ≤ 12) ∧ (-1 ≤ Int32.toInt Y23.1) ∧ (Int32.toInt Y23.1 < Int32.toInt (R 12 0))) → zW p l e rmX5_entryOf s m args below meth c 0 0 Q G.1 A 4 (zWR G R) [(0, .ref (G.2.2 6 0)), (1, .int itsMark), (2, .int Y23.1), (3, .int Y23.2)] 41 []) → zW p l e rmX5_entryOf s m args below meth c 0 0 Q G.1 A 4 (zWR G R) [(0, .ref (G.2.2 6 0)), (1, .int itsMark), (2, .int k2_20), (3, .int k3_21)] 4 [] := by
    intro n22
    induction n22 with
    | zero =>
      intro k2_20 k3_21 hI hM9
      obtain ⟨i24, i25, i26, i27⟩ := id hI
      exact absurd hM9 (by omega)
    | succ n22 ih =>
      intro k2_20 k3_21 hI hM9 Y23 hE hK
      obtain ⟨i28, i29, i30, i31⟩ := id hI
      rw [mX5_entryOf_L4.eq_2] at hE
      refine zi_iload_n (pc := 4) F dX5_entryOf_4 3 rfl ?_
      refine zi_aload_n (pc := 5) F dX5_entryOf_5 0 rfl ?_
      refine zi_get (pc := 6) (C := RX5) (T := TX5) (N := 27) (v := .int (R 12 0)) F (hw_X5_entryOf_X5) 0 rfl rfl 12 (by decide) (List.mem_of_getElem? (i := 1) rfl) rfl rfl dX5_entryOf_6 ?_
      refine zi_icmp_ge (pc := 9) (tgt := 41) F dX5_entryOf_9 (by decide) (fun c32 => ?_) (fun c32 => ?_)
      · have hE := zite_t hE c32
        have t33 := zt_le c32
        subst hE
        refine zi_sub [0, 1, 2, 3] rfl ?_
        exact hK (⟨by (show 0 ≤ Int32.toInt k3_21; omega), by (show Int32.toInt k3_21 ≤ 12; omega), by (show -1 ≤ Int32.toInt k2_20; omega), by (show Int32.toInt k2_20 < Int32.toInt (R 12 0); omega)⟩)
      · have hE := zite_f hE c32
        have t34 := zt_nle c32
        refine zi_aload_n (pc := 12) F dX5_entryOf_12 0 rfl ?_
        refine zi_get (pc := 13) (C := RX5) (T := TX5) (N := 27) (v := .ref (G.2.2 6 9)) F (hw_X5_entryOf_X5) 0 rfl rfl 16 (by decide) (List.mem_of_getElem? (i := 2) rfl) rfl rfl dX5_entryOf_13 ?_
        refine zi_iload_n (pc := 16) F dX5_entryOf_16 3 rfl ?_
        refine zi_iald (pc := 17) (v := (R 16 k3_21.toNatClampNeg)) F 9 0 rfl rfl (zin (a := k3_21) (by omega) (by omega)) rfl dX5_entryOf_17 ?_
        refine zi_iload_n (pc := 18) F dX5_entryOf_18 1 rfl ?_
        refine zi_icmp_ne (pc := 19) (tgt := 33) F dX5_entryOf_19 (by decide) (fun c35 => ?_) (fun c35 => ?_)
        · have hE := zite_f hE c35
          have t36 := zt_ne c35
          refine zi_iload_n (pc := 33) F dX5_entryOf_33 2 rfl ?_
          refine zi_istore_n (pc := 34) (lv' := [(0, .ref (G.2.2 6 0)), (1, .int itsMark), (2, .int k2_20), (3, .int k3_21)]) F dX5_entryOf_34 (by decide) rfl ?_
          try have t39 := zt_add (a := k3_21) (b := 1) (by omega) (by omega)
          obtain ⟨y37, e38⟩ : ∃ z : Int32, (k3_21 + 1) = z := ⟨_, rfl⟩
          have hE := zbnd_cut hE e38
          have t40 := congrArg Int32.toInt e38
          refine zi_iinc (pc := 35) (lv' := [(0, .ref (G.2.2 6 0)), (1, .int itsMark), (2, .int k2_20), (3, .int y37)]) F dX5_entryOf_35 3 rfl e38 (by decide) rfl ?_
          refine zi_goto (pc := 38) (tgt := 4) F dX5_entryOf_38 (by decide) ?_
          refine zi_sub [0, 1, 2, 3] rfl ?_
          exact ih k2_20 y37 (⟨by (show 0 ≤ Int32.toInt y37; omega), by (show Int32.toInt y37 ≤ 12; omega), by (show -1 ≤ Int32.toInt k2_20; omega), by (show Int32.toInt k2_20 < Int32.toInt (R 12 0); omega)⟩) (by omega) _ hE hK
        · have hE := zite_t hE c35
          have t41 := congrArg Int32.toInt c35
          refine zi_aload_n (pc := 22) F dX5_entryOf_22 0 rfl ?_
          refine zi_get (pc := 23) (C := RX5) (T := TX5) (N := 27) (v := .int (R 12 0)) F (hw_X5_entryOf_X5) 0 rfl rfl 12 (by decide) (List.mem_of_getElem? (i := 1) rfl) rfl rfl dX5_entryOf_23 ?_
          refine zi_iconst (pc := 26) (v := 1) F dX5_entryOf_26 rfl ?_
          refine zi_isub (pc := 27) F dX5_entryOf_27 ?_
          refine zi_iload_n (pc := 28) F dX5_entryOf_28 3 rfl ?_
          refine zi_isub (pc := 29) F dX5_entryOf_29 ?_
          refine zi_goto (pc := 30) (tgt := 34) F dX5_entryOf_30 (by decide) ?_
          try have t44 := zt_sub (a := (R 12 0)) (b := 1) (by omega) (by omega)
          try have t45 := zt_sub (a := ((R 12 0) - 1)) (b := k3_21) (by omega) (by omega)
          refine zi_topi (fun y42 e43 => ?_)
          have hE := zbnd_cut hE e43
          have t46 := congrArg Int32.toInt e43
          refine zi_istore_n (pc := 34) (lv' := [(0, .ref (G.2.2 6 0)), (1, .int itsMark), (2, .int y42), (3, .int k3_21)]) F dX5_entryOf_34 (by decide) rfl ?_
          try have t49 := zt_add (a := k3_21) (b := 1) (by omega) (by omega)
          obtain ⟨y47, e48⟩ : ∃ z : Int32, (k3_21 + 1) = z := ⟨_, rfl⟩
          have hE := zbnd_cut hE e48
          have t50 := congrArg Int32.toInt e48
          refine zi_iinc (pc := 35) (lv' := [(0, .ref (G.2.2 6 0)), (1, .int itsMark), (2, .int y42), (3, .int y47)]) F dX5_entryOf_35 3 rfl e48 (by decide) rfl ?_
          refine zi_goto (pc := 38) (tgt := 4) F dX5_entryOf_38 (by decide) ?_
          refine zi_sub [0, 1, 2, 3] rfl ?_
          exact ih y42 y47 (⟨by (show 0 ≤ Int32.toInt y47; omega), by (show Int32.toInt y47 ≤ 12; omega), by (show -1 ≤ Int32.toInt y42; omega), by (show Int32.toInt y42 < Int32.toInt (R 12 0); omega)⟩) (by omega) _ hE hK
  obtain ⟨⟨k2_51, k3_52⟩, e53⟩ : ∃ z, mX5_entryOf_L4 itsMark R 13 (-1) 0 = z := ⟨_, rfl⟩
  have hE := zbnd2_cut hE e53
  refine hL4 13 (-1) 0 (⟨by (show 0 ≤ Int32.toInt 0; omega), by (show Int32.toInt 0 ≤ 12; omega), by (show -1 ≤ Int32.toInt (-1); omega), by (show Int32.toInt (-1) < Int32.toInt (R 12 0); omega)⟩) (by omega) _ e53 (fun hI54 => ?_)
  have hI54 : (0 ≤ Int32.toInt k3_52) ∧ (Int32.toInt k3_52 ≤ 12) ∧ (-1 ≤ Int32.toInt k2_51) ∧ (Int32.toInt k2_51 < Int32.toInt (R 12 0)) := hI54
  obtain ⟨i55, i56, i57, i58⟩ := id hI54
  show zW p l e rmX5_entryOf s m args below meth c 0 0 Q G.1 A 4 (zWR G R) [(0, .ref (G.2.2 6 0)), (1, .int itsMark), (2, .int k2_51), (3, .int k3_52)] 41 []
  refine zi_iload_n (pc := 41) F dX5_entryOf_41 2 rfl ?_
  subst hE
  exact hret _ _ dX5_entryOf_42
/-! X5_layer -/
def mX5_layer_S7 (which : Int32) (byi : Int32) (y1 : Int32) (R : zS_t) : Int32 := if which = 1 then (if y1 = 7 then (zbnd (mX5_thingOf (R 10 byi.toNatClampNeg) R) (fun r37 => r37)) else (-1)) else (-1)
def mX5_layer_S34 (byi : Int32) (w15 : Int32) (R : zS_t) : zS_t := if w15 < 0 then R else (zsF R 18 (upd (R 18) w15.toNatClampNeg (R 8 byi.toNatClampNeg)))
def mX5_layer_S64 (k5_337 : Int32) (R338 : zS_t) : Int32 := if ((R338 21 k5_337.toNatClampNeg) &&& 1) = 1 then 1 else 0
def mX5_layer_S84 (which : Int32) (y1 : Int32) (k5_337 : Int32) (R338 : zS_t) : zS_t := if which = 2 then (if y1 = 5 then (if ((R338 21 k5_337.toNatClampNeg) &&& 2) = 2 then (zsF R338 19 (upd (R338 19) k5_337.toNatClampNeg ((R338 19 k5_337.toNatClampNeg) ||| 1))) else R338) else R338) else R338
def mX5_layer_S118 (which : Int32) (y1 : Int32) (k5_337 : Int32) (w373 : Int32) (R388 : zS_t) : zS_t := if which = 2 then (if y1 = 6 then (if w373 = 0 then R388 else (zsF R388 19 (upd (R388 19) k5_337.toNatClampNeg (((R388 19 k5_337.toNatClampNeg) &&& 4) ||| 2)))) else R388) else R388
def mX5_layer_S152 (which : Int32) (y1 : Int32) (k5_337 : Int32) (w373 : Int32) (R430 : zS_t) : zS_t := if which = 3 then (if w373 = 0 then R430 else (if y1 = 3 then (if y1 = 3 then (zsF R430 20 (upd (R430 20) k5_337.toNatClampNeg 1)) else (zsF R430 20 (upd (R430 20) k5_337.toNatClampNeg 4))) else (if y1 = 4 then (if y1 = 3 then (zsF R430 20 (upd (R430 20) k5_337.toNatClampNeg 1)) else (zsF R430 20 (upd (R430 20) k5_337.toNatClampNeg 4))) else R430))) else R430
def mX5_layer_S189 (which : Int32) (byi : Int32) (y1 : Int32) (k5_337 : Int32) (w373 : Int32) (R481 : zS_t) : zS_t := if which = 4 then (if w373 = 0 then R481 else (if y1 = 2 then (if (R481 18 k5_337.toNatClampNeg) = (R481 18 byi.toNatClampNeg) then (zsF R481 20 (upd (R481 20) k5_337.toNatClampNeg ((R481 20 k5_337.toNatClampNeg) + 2))) else R481) else R481)) else R481
def mX5_layer_S231 (which : Int32) (y1 : Int32) (k5_337 : Int32) (w373 : Int32) (R544 : zS_t) : zS_t := if which = 5 then (if w373 = 0 then R544 else (if y1 = 8 then (if (R544 22 k5_337.toNatClampNeg) < 3 then R544 else (zsF R544 20 (upd (R544 20) k5_337.toNatClampNeg ((R544 20 k5_337.toNatClampNeg) * 2)))) else R544)) else R544
def mX5_layer_L55 (which : Int32) (byi : Int32) (y1 : Int32) : Nat → Int32 → zS_t → Int32 × zS_t
  | 0, k5_337, R338 => (k5_337, R338)
  | n339 + 1, k5_337, R338 => if (R338 6 0) ≤ k5_337 then (k5_337, R338) else (zbnd (mX5_layer_S64 k5_337 R338) (fun w373 => zbnd (mX5_layer_S84 which y1 k5_337 R338) (fun R388 => zbnd (mX5_layer_S118 which y1 k5_337 w373 R388) (fun R430 => zbnd (mX5_layer_S152 which y1 k5_337 w373 R430) (fun R481 => zbnd (mX5_layer_S189 which byi y1 k5_337 w373 R481) (fun R544 => zbnd (mX5_layer_S231 which y1 k5_337 w373 R544) (fun R595 => zbnd ((k5_337 + 1)) (fun y634 => mX5_layer_L55 which byi y1 n339 y634 R595))))))))
def mX5_layer (which : Int32) (byi : Int32) (R : zS_t) : zS_t := zbnd ((R 7 byi.toNatClampNeg)) (fun y1 => zbnd (mX5_layer_S7 which byi y1 R) (fun w15 => zbnd (mX5_layer_S34 byi w15 R) (fun R45 => zbnd2 (mX5_layer_L55 which byi y1 11 0 R45) (fun k5_638 R639 => R639))))
set_option maxHeartbeats 4000000 in
set_option maxRecDepth 100000 in
theorem pp_X5_layer (which : Int32) (byi : Int32) (R : zS_t) (hIR : zIR R) (hx0 : 0 ≤ Int32.toInt byi ∧ Int32.toInt byi < 10) : (zIR (mX5_layer which byi R)) ∧ (Int32.toInt ((mX5_layer which byi R) 6 0) = Int32.toInt (R 6 0)) := by
  obtain ⟨X, hE⟩ : ∃ z, mX5_layer which byi R = z := ⟨_, rfl⟩
  rw [hE]
  have k_m1 : Int32.toInt (-1) = -1 := by decide
  have k_0 : Int32.toInt 0 = 0 := by decide
  have k_1 : Int32.toInt 1 = 1 := by decide
  have k_2 : Int32.toInt 2 = 2 := by decide
  have k_3 : Int32.toInt 3 = 3 := by decide
  have k_4 : Int32.toInt 4 = 4 := by decide
  have k_5 : Int32.toInt 5 = 5 := by decide
  have k_6 : Int32.toInt 6 = 6 := by decide
  have k_7 : Int32.toInt 7 = 7 := by decide
  have k_8 : Int32.toInt 8 = 8 := by decide
  obtain ⟨⟨i507, i508⟩, ⟨i509, i510⟩, ⟨i511, i512⟩, ⟨i513, i514⟩, ⟨i515, i516⟩, hIR_b14, hIR_p15⟩ := id hIR
  unfold mX5_layer at hE
  obtain ⟨y1, e2⟩ : ∃ z : Int32, (R 7 byi.toNatClampNeg) = z := ⟨_, rfl⟩
  have hE := zbnd_cut hE e2
  have t3 := congrArg Int32.toInt e2
  obtain ⟨w15, e16⟩ : ∃ z, mX5_layer_S7 which byi y1 R = z := ⟨_, rfl⟩
  have hE := zbnd_cut hE e16
  have hQ17 : (Int32.toInt w15 < Int32.toInt (R 6 0)) := by
    have hE := e16
    unfold mX5_layer_S7 at hE
    by_cases c18 : which = 1
    · have hE := zite_t hE c18
      have t19 := congrArg Int32.toInt c18
      by_cases c20 : y1 = 7
      · have hE := zite_t hE c20
        have t21 := congrArg Int32.toInt c20
        have pp25 := pp_X5_thingOf (R 10 byi.toNatClampNeg) R (hIR)
        obtain ⟨r22, e23⟩ : ∃ z, mX5_thingOf (R 10 byi.toNatClampNeg) R = z := ⟨_, rfl⟩
        have hE := zbnd_cut hE e23
        rw [e23] at pp25
        have q26 := pp25
        subst hE
        exact by (show Int32.toInt r22 < Int32.toInt (R 6 0); omega)
      · have hE := zite_f hE c20
        have t27 := zt_ne c20
        subst hE
        exact by (show Int32.toInt (-1) < Int32.toInt (R 6 0); omega)
    · have hE := zite_f hE c18
      have t28 := zt_ne c18
      subst hE
      exact by (show Int32.toInt (-1) < Int32.toInt (R 6 0); omega)
  have i29 := hQ17
  obtain ⟨R33, e34⟩ : ∃ z, mX5_layer_S34 byi w15 R = z := ⟨_, rfl⟩
  have hE := zbnd_cut hE e34
  have hQ35 : (Int32.toInt (R33 6 0) = Int32.toInt (R 6 0)) ∧ (zIR R33) := by
    have hE := e34
    unfold mX5_layer_S34 at hE
    by_cases c36 : w15 < 0
    · have hE := zite_t hE c36
      have t37 := zt_lt c36
      subst hE
      exact ⟨by (show Int32.toInt (R 6 0) = Int32.toInt (R 6 0); omega), hIR⟩
    · have hE := zite_f hE c36
      have t38 := zt_nlt c36
      subst hE
      exact ⟨by (show Int32.toInt (R 6 0) = Int32.toInt (R 6 0); omega), hIR⟩
  obtain ⟨i39, hIR33⟩ := hQ35
  obtain ⟨⟨i40, i41⟩, ⟨i42, i43⟩, ⟨i44, i45⟩, ⟨i46, i47⟩, ⟨i48, i49⟩, hIR33_b14, hIR33_p15⟩ := id hIR33
  have hL55 : ∀ (n257 : Nat) (k5_255 : Int32) (R256 : zS_t), (0 ≤ Int32.toInt k5_255) ∧ (Int32.toInt k5_255 ≤ 10) ∧ (Int32.toInt (R256 6 0) = Int32.toInt (R 6 0)) ∧ (zIR R256) → 11 - Int32.toInt k5_255 ≤ (n257 : Int) → ∀ Y258, mX5_layer_L55 which byi y1 n257 k5_255 R256 = Y258 → (0 ≤ Int32.toInt Y258.1) ∧ (Int32.toInt Y258.1 ≤ 10) ∧ (Int32.toInt ((Y258.2) 6 0) = Int32.toInt (R 6 0)) ∧ (zIR (Y258.2)) := by
    intro n257
    induction n257 with
    | zero =>
      intro k5_255 R256 hI hM9
      obtain ⟨i259, i260, i261, hIR256⟩ := id hI
      obtain ⟨⟨i262, i263⟩, ⟨i264, i265⟩, ⟨i266, i267⟩, ⟨i268, i269⟩, ⟨i270, i271⟩, hIR256_b14, hIR256_p15⟩ := id hIR256
      exact absurd hM9 (by omega)
    | succ n257 ih =>
      intro k5_255 R256 hI hM9 Y258 hE
      obtain ⟨i272, i273, i274, hIR256⟩ := id hI
      obtain ⟨⟨i275, i276⟩, ⟨i277, i278⟩, ⟨i279, i280⟩, ⟨i281, i282⟩, ⟨i283, i284⟩, hIR256_b14, hIR256_p15⟩ := id hIR256
      rw [mX5_layer_L55.eq_2] at hE
      by_cases c285 : (R256 6 0) ≤ k5_255
      · have hE := zite_t hE c285
        have t286 := zt_le c285
        subst hE
        exact ⟨by (show 0 ≤ Int32.toInt k5_255; omega), by (show Int32.toInt k5_255 ≤ 10; omega), by (show Int32.toInt (R256 6 0) = Int32.toInt (R 6 0); omega), hIR256⟩
      · have hE := zite_f hE c285
        have t287 := zt_nle c285
        obtain ⟨w291, e292⟩ : ∃ z, mX5_layer_S64 k5_255 R256 = z := ⟨_, rfl⟩
        have hE := zbnd_cut hE e292
        obtain ⟨R305, e306⟩ : ∃ z, mX5_layer_S84 which y1 k5_255 R256 = z := ⟨_, rfl⟩
        have hE := zbnd_cut hE e306
        have hQ307 : (Int32.toInt (R305 6 0) = Int32.toInt (R256 6 0)) ∧ (zIR R305) := by
          have hE := e306
          unfold mX5_layer_S84 at hE
          by_cases c308 : which = 2
          · have hE := zite_t hE c308
            have t309 := congrArg Int32.toInt c308
            by_cases c310 : y1 = 5
            · have hE := zite_t hE c310
              have t311 := congrArg Int32.toInt c310
              by_cases c312 : ((R256 21 k5_255.toNatClampNeg) &&& 2) = 2
              · have hE := zite_t hE c312
                have t313 := congrArg Int32.toInt c312
                subst hE
                exact ⟨by (show Int32.toInt (R256 6 0) = Int32.toInt (R256 6 0); omega), hIR256⟩
              · have hE := zite_f hE c312
                have t314 := zt_ne c312
                subst hE
                exact ⟨by (show Int32.toInt (R256 6 0) = Int32.toInt (R256 6 0); omega), hIR256⟩
            · have hE := zite_f hE c310
              have t315 := zt_ne c310
              subst hE
              exact ⟨by (show Int32.toInt (R256 6 0) = Int32.toInt (R256 6 0); omega), hIR256⟩
          · have hE := zite_f hE c308
            have t316 := zt_ne c308
            subst hE
            exact ⟨by (show Int32.toInt (R256 6 0) = Int32.toInt (R256 6 0); omega), hIR256⟩
        obtain ⟨i317, hIR305⟩ := hQ307
        obtain ⟨⟨i318, i319⟩, ⟨i320, i321⟩, ⟨i322, i323⟩, ⟨i324, i325⟩, ⟨i326, i327⟩, hIR305_b14, hIR305_p15⟩ := id hIR305
        obtain ⟨R337, e338⟩ : ∃ z, mX5_layer_S118 which y1 k5_255 w291 R305 = z := ⟨_, rfl⟩
        have hE := zbnd_cut hE e338
        have hQ339 : (Int32.toInt (R337 6 0) = Int32.toInt (R305 6 0)) ∧ (zIR R337) := by
          have hE := e338
          unfold mX5_layer_S118 at hE
          by_cases c340 : which = 2
          · have hE := zite_t hE c340
            have t341 := congrArg Int32.toInt c340
            by_cases c342 : y1 = 6
            · have hE := zite_t hE c342
              have t343 := congrArg Int32.toInt c342
              by_cases c344 : w291 = 0
              · have hE := zite_t hE c344
                have t345 := congrArg Int32.toInt c344
                subst hE
                exact ⟨by (show Int32.toInt (R305 6 0) = Int32.toInt (R305 6 0); omega), hIR305⟩
              · have hE := zite_f hE c344
                have t346 := zt_ne c344
                subst hE
                exact ⟨by (show Int32.toInt (R305 6 0) = Int32.toInt (R305 6 0); omega), hIR305⟩
            · have hE := zite_f hE c342
              have t347 := zt_ne c342
              subst hE
              exact ⟨by (show Int32.toInt (R305 6 0) = Int32.toInt (R305 6 0); omega), hIR305⟩
          · have hE := zite_f hE c340
            have t348 := zt_ne c340
            subst hE
            exact ⟨by (show Int32.toInt (R305 6 0) = Int32.toInt (R305 6 0); omega), hIR305⟩
        obtain ⟨i349, hIR337⟩ := hQ339
        obtain ⟨⟨i350, i351⟩, ⟨i352, i353⟩, ⟨i354, i355⟩, ⟨i356, i357⟩, ⟨i358, i359⟩, hIR337_b14, hIR337_p15⟩ := id hIR337
        obtain ⟨R378, e379⟩ : ∃ z, mX5_layer_S152 which y1 k5_255 w291 R337 = z := ⟨_, rfl⟩
        have hE := zbnd_cut hE e379
        have hQ380 : (Int32.toInt (R378 6 0) = Int32.toInt (R337 6 0)) ∧ (zIR R378) := by
          have hE := e379
          unfold mX5_layer_S152 at hE
          by_cases c381 : which = 3
          · have hE := zite_t hE c381
            have t382 := congrArg Int32.toInt c381
            by_cases c383 : w291 = 0
            · have hE := zite_t hE c383
              have t384 := congrArg Int32.toInt c383
              subst hE
              exact ⟨by (show Int32.toInt (R337 6 0) = Int32.toInt (R337 6 0); omega), hIR337⟩
            · have hE := zite_f hE c383
              have t385 := zt_ne c383
              by_cases c386 : y1 = 3
              · have hE := zite_t hE c386
                have t387 := congrArg Int32.toInt c386
                by_cases c388 : y1 = 3
                · have hE := zite_t hE c388
                  have t389 := congrArg Int32.toInt c388
                  subst hE
                  exact ⟨by (show Int32.toInt (R337 6 0) = Int32.toInt (R337 6 0); omega), hIR337⟩
                · have hE := zite_f hE c388
                  have t390 := zt_ne c388
                  subst hE
                  exact ⟨by (show Int32.toInt (R337 6 0) = Int32.toInt (R337 6 0); omega), hIR337⟩
              · have hE := zite_f hE c386
                have t391 := zt_ne c386
                by_cases c392 : y1 = 4
                · have hE := zite_t hE c392
                  have t393 := congrArg Int32.toInt c392
                  by_cases c394 : y1 = 3
                  · have hE := zite_t hE c394
                    have t395 := congrArg Int32.toInt c394
                    subst hE
                    exact ⟨by (show Int32.toInt (R337 6 0) = Int32.toInt (R337 6 0); omega), hIR337⟩
                  · have hE := zite_f hE c394
                    have t396 := zt_ne c394
                    subst hE
                    exact ⟨by (show Int32.toInt (R337 6 0) = Int32.toInt (R337 6 0); omega), hIR337⟩
                · have hE := zite_f hE c392
                  have t397 := zt_ne c392
                  subst hE
                  exact ⟨by (show Int32.toInt (R337 6 0) = Int32.toInt (R337 6 0); omega), hIR337⟩
          · have hE := zite_f hE c381
            have t398 := zt_ne c381
            subst hE
            exact ⟨by (show Int32.toInt (R337 6 0) = Int32.toInt (R337 6 0); omega), hIR337⟩
        obtain ⟨i399, hIR378⟩ := hQ380
        obtain ⟨⟨i400, i401⟩, ⟨i402, i403⟩, ⟨i404, i405⟩, ⟨i406, i407⟩, ⟨i408, i409⟩, hIR378_b14, hIR378_p15⟩ := id hIR378
        obtain ⟨R422, e423⟩ : ∃ z, mX5_layer_S189 which byi y1 k5_255 w291 R378 = z := ⟨_, rfl⟩
        have hE := zbnd_cut hE e423
        have hQ424 : (Int32.toInt (R422 6 0) = Int32.toInt (R378 6 0)) ∧ (zIR R422) := by
          have hE := e423
          unfold mX5_layer_S189 at hE
          by_cases c425 : which = 4
          · have hE := zite_t hE c425
            have t426 := congrArg Int32.toInt c425
            by_cases c427 : w291 = 0
            · have hE := zite_t hE c427
              have t428 := congrArg Int32.toInt c427
              subst hE
              exact ⟨by (show Int32.toInt (R378 6 0) = Int32.toInt (R378 6 0); omega), hIR378⟩
            · have hE := zite_f hE c427
              have t429 := zt_ne c427
              by_cases c430 : y1 = 2
              · have hE := zite_t hE c430
                have t431 := congrArg Int32.toInt c430
                by_cases c432 : (R378 18 k5_255.toNatClampNeg) = (R378 18 byi.toNatClampNeg)
                · have hE := zite_t hE c432
                  have t433 := congrArg Int32.toInt c432
                  subst hE
                  exact ⟨by (show Int32.toInt (R378 6 0) = Int32.toInt (R378 6 0); omega), hIR378⟩
                · have hE := zite_f hE c432
                  have t434 := zt_ne c432
                  subst hE
                  exact ⟨by (show Int32.toInt (R378 6 0) = Int32.toInt (R378 6 0); omega), hIR378⟩
              · have hE := zite_f hE c430
                have t435 := zt_ne c430
                subst hE
                exact ⟨by (show Int32.toInt (R378 6 0) = Int32.toInt (R378 6 0); omega), hIR378⟩
          · have hE := zite_f hE c425
            have t436 := zt_ne c425
            subst hE
            exact ⟨by (show Int32.toInt (R378 6 0) = Int32.toInt (R378 6 0); omega), hIR378⟩
        obtain ⟨i437, hIR422⟩ := hQ424
        obtain ⟨⟨i438, i439⟩, ⟨i440, i441⟩, ⟨i442, i443⟩, ⟨i444, i445⟩, ⟨i446, i447⟩, hIR422_b14, hIR422_p15⟩ := id hIR422
        obtain ⟨R460, e461⟩ : ∃ z, mX5_layer_S231 which y1 k5_255 w291 R422 = z := ⟨_, rfl⟩
        have hE := zbnd_cut hE e461
        have hQ462 : (Int32.toInt (R460 6 0) = Int32.toInt (R422 6 0)) ∧ (zIR R460) := by
          have hE := e461
          unfold mX5_layer_S231 at hE
          by_cases c463 : which = 5
          · have hE := zite_t hE c463
            have t464 := congrArg Int32.toInt c463
            by_cases c465 : w291 = 0
            · have hE := zite_t hE c465
              have t466 := congrArg Int32.toInt c465
              subst hE
              exact ⟨by (show Int32.toInt (R422 6 0) = Int32.toInt (R422 6 0); omega), hIR422⟩
            · have hE := zite_f hE c465
              have t467 := zt_ne c465
              by_cases c468 : y1 = 8
              · have hE := zite_t hE c468
                have t469 := congrArg Int32.toInt c468
                by_cases c470 : (R422 22 k5_255.toNatClampNeg) < 3
                · have hE := zite_t hE c470
                  have t471 := zt_lt c470
                  subst hE
                  exact ⟨by (show Int32.toInt (R422 6 0) = Int32.toInt (R422 6 0); omega), hIR422⟩
                · have hE := zite_f hE c470
                  have t472 := zt_nlt c470
                  subst hE
                  exact ⟨by (show Int32.toInt (R422 6 0) = Int32.toInt (R422 6 0); omega), hIR422⟩
              · have hE := zite_f hE c468
                have t473 := zt_ne c468
                subst hE
                exact ⟨by (show Int32.toInt (R422 6 0) = Int32.toInt (R422 6 0); omega), hIR422⟩
          · have hE := zite_f hE c463
            have t474 := zt_ne c463
            subst hE
            exact ⟨by (show Int32.toInt (R422 6 0) = Int32.toInt (R422 6 0); omega), hIR422⟩
        obtain ⟨i475, hIR460⟩ := hQ462
        obtain ⟨⟨i476, i477⟩, ⟨i478, i479⟩, ⟨i480, i481⟩, ⟨i482, i483⟩, ⟨i484, i485⟩, hIR460_b14, hIR460_p15⟩ := id hIR460
        try have t488 := zt_add (a := k5_255) (b := 1) (by omega) (by omega)
        obtain ⟨y486, e487⟩ : ∃ z : Int32, (k5_255 + 1) = z := ⟨_, rfl⟩
        have hE := zbnd_cut hE e487
        have t489 := congrArg Int32.toInt e487
        exact ih y486 R460 (⟨by (show 0 ≤ Int32.toInt y486; omega), by (show Int32.toInt y486 ≤ 10; omega), by (show Int32.toInt (R460 6 0) = Int32.toInt (R 6 0); omega), hIR460⟩) (by omega) _ hE
  obtain ⟨⟨k5_490, R491⟩, e492⟩ : ∃ z, mX5_layer_L55 which byi y1 11 0 R33 = z := ⟨_, rfl⟩
  have hE := zbnd2_cut hE e492
  have hI493 := hL55 11 0 R33 (⟨by (show 0 ≤ Int32.toInt 0; omega), by (show Int32.toInt 0 ≤ 10; omega), by (show Int32.toInt (R33 6 0) = Int32.toInt (R 6 0); omega), hIR33⟩) (by omega) _ e492
  have hI493 : (0 ≤ Int32.toInt k5_490) ∧ (Int32.toInt k5_490 ≤ 10) ∧ (Int32.toInt (R491 6 0) = Int32.toInt (R 6 0)) ∧ (zIR R491) := hI493
  obtain ⟨i494, i495, i496, hIR491⟩ := id hI493
  obtain ⟨⟨i497, i498⟩, ⟨i499, i500⟩, ⟨i501, i502⟩, ⟨i503, i504⟩, ⟨i505, i506⟩, hIR491_b14, hIR491_p15⟩ := id hIR491
  subst hE
  exact ⟨hIR491, (by first | omega | (show Int32.toInt (R491 6 0) = Int32.toInt (R 6 0); omega) | (show Int32.toInt (R491 6 0) = Int32.toInt (R 6 0); simp))⟩
theorem hw_X5_layer_X5 : ∀ w ∈ wsX50, w ∈ wsX5_layer := fun w h => List.mem_cons_of_mem _ (List.mem_append_right _ (h))
abbrev rmX5_layer : Room := { frames := 1, cells := 0, slots := 0, locals := 23 }
theorem hd_X5_layer : yX5_layer.cls = RX5 ∧ yX5_layer.cls ≠ "java/lang/invoke/MethodHandle" ∧ yX5_layer.cls ≠ "java/lang/invoke/VarHandle" ∧ (parseMethodDescriptor yX5_layer.desc).map (fun d => d.parameters.length) = some 2 := by decide +kernel
set_option maxHeartbeats 4000000 in
set_option maxRecDepth 100000 in
theorem c_X5_layer (l : Launch) (G : zG_t) (which : Int32) (byi : Int32) (R : zS_t) (hIR : zIR R) (hx0 : 0 ≤ Int32.toInt byi ∧ Int32.toInt byi < 10) : zCV l G.1 (zty G) yX5_layer wsX5_layer rmX5_layer [.ref (G.2.2 6 0), .int which, .int byi] (zWR G R) (zWR G (mX5_layer which byi R)) := by
  obtain ⟨X, hE⟩ : ∃ z, mX5_layer which byi R = z := ⟨_, rfl⟩
  rw [hE]
  refine zb_V (cc := cX5_layer) (maxL := 7) (by decide) rfl (Nat.le_of_ble_eq_true rfl) ?_
  intro p e s m args below meth c Q A F hret
  show zW p l e rmX5_layer s m args below meth c 0 0 Q G.1 A 7 (zWR G R) [(0, .ref (G.2.2 6 0)), (1, .int which), (2, .int byi)] 0 []
  have k_m1 : Int32.toInt (-1) = -1 := by decide
  have k_0 : Int32.toInt 0 = 0 := by decide
  have k_1 : Int32.toInt 1 = 1 := by decide
  have k_2 : Int32.toInt 2 = 2 := by decide
  have k_3 : Int32.toInt 3 = 3 := by decide
  have k_4 : Int32.toInt 4 = 4 := by decide
  have k_5 : Int32.toInt 5 = 5 := by decide
  have k_6 : Int32.toInt 6 = 6 := by decide
  have k_7 : Int32.toInt 7 = 7 := by decide
  have k_8 : Int32.toInt 8 = 8 := by decide
  obtain ⟨⟨i517, i518⟩, ⟨i519, i520⟩, ⟨i521, i522⟩, ⟨i523, i524⟩, ⟨i525, i526⟩, hIR_b14, hIR_p15⟩ := id hIR
  unfold mX5_layer at hE
  refine zi_aload_n (pc := 0) F dX5_layer_0 0 rfl ?_
  refine zi_get (pc := 1) (C := RX5) (T := TX5) (N := 27) (v := .ref (G.2.2 6 2)) F (hw_X5_layer_X5) 0 rfl rfl 7 (by decide) (List.mem_of_getElem? (i := 1) rfl) rfl rfl dX5_layer_1 ?_
  refine zi_iload_n (pc := 4) F dX5_layer_4 2 rfl ?_
  refine zi_iald (pc := 5) (v := (R 7 byi.toNatClampNeg)) F 2 0 rfl rfl (zin (a := byi) (by omega) (by omega)) rfl dX5_layer_5 ?_
  refine zi_topi (fun y1 e2 => ?_)
  have hE := zbnd_cut hE e2
  have t3 := congrArg Int32.toInt e2
  refine zi_istore_n (pc := 6) (lv' := [(0, .ref (G.2.2 6 0)), (1, .int which), (2, .int byi), (3, .int y1)]) F dX5_layer_6 (by decide) rfl ?_
  obtain ⟨w15, e16⟩ : ∃ z, mX5_layer_S7 which byi y1 R = z := ⟨_, rfl⟩
  have hE := zbnd_cut hE e16
  have hQ17 : (Int32.toInt w15 < Int32.toInt (R 6 0)) := by
    have hE := e16
    unfold mX5_layer_S7 at hE
    by_cases c18 : which = 1
    · have hE := zite_t hE c18
      have t19 := congrArg Int32.toInt c18
      by_cases c20 : y1 = 7
      · have hE := zite_t hE c20
        have t21 := congrArg Int32.toInt c20
        have pp25 := pp_X5_thingOf (R 10 byi.toNatClampNeg) R (hIR)
        obtain ⟨r22, e23⟩ : ∃ z, mX5_thingOf (R 10 byi.toNatClampNeg) R = z := ⟨_, rfl⟩
        have hE := zbnd_cut hE e23
        rw [e23] at pp25
        have q26 := pp25
        subst hE
        exact by (show Int32.toInt r22 < Int32.toInt (R 6 0); omega)
      · have hE := zite_f hE c20
        have t27 := zt_ne c20
        subst hE
        exact by (show Int32.toInt (-1) < Int32.toInt (R 6 0); omega)
    · have hE := zite_f hE c18
      have t28 := zt_ne c18
      subst hE
      exact by (show Int32.toInt (-1) < Int32.toInt (R 6 0); omega)
  have i29 := hQ17
  have hK30 : zW p l e rmX5_layer s m args below meth c 0 0 Q G.1 A 7 (zWR G R) [(0, .ref (G.2.2 6 0)), (1, .int which), (2, .int byi), (3, .int y1)] 32 [.int w15] → zW p l e rmX5_layer s m args below meth c 0 0 Q G.1 A 7 (zWR G R) [(0, .ref (G.2.2 6 0)), (1, .int which), (2, .int byi), (3, .int y1)] 7 [] := by
    intro hK
    have hE := e16
    unfold mX5_layer_S7 at hE
    refine zi_iload_n (pc := 7) F dX5_layer_7 1 rfl ?_
    refine zi_iconst (pc := 8) (v := 1) F dX5_layer_8 rfl ?_
    refine zi_icmp_ne (pc := 9) (tgt := 31) F dX5_layer_9 (by decide) (fun c31 => ?_) (fun c31 => ?_)
    · have hE := zite_f hE c31
      have t32 := zt_ne c31
      refine zi_iconst (pc := 31) (v := (-1)) F dX5_layer_31 rfl ?_
      subst hE
      exact zi_sub [0, 1, 2, 3] rfl hK
    · have hE := zite_t hE c31
      have t33 := congrArg Int32.toInt c31
      refine zi_iload_n (pc := 12) F dX5_layer_12 3 rfl ?_
      refine zi_bipush (pc := 13) (v := 7) F dX5_layer_13 rfl ?_
      refine zi_icmp_ne (pc := 15) (tgt := 31) F dX5_layer_15 (by decide) (fun c34 => ?_) (fun c34 => ?_)
      · have hE := zite_f hE c34
        have t35 := zt_ne c34
        refine zi_iconst (pc := 31) (v := (-1)) F dX5_layer_31 rfl ?_
        subst hE
        exact zi_sub [0, 1, 2, 3] rfl hK
      · have hE := zite_t hE c34
        have t36 := congrArg Int32.toInt c34
        refine zi_aload_n (pc := 18) F dX5_layer_18 0 rfl ?_
        refine zi_aload_n (pc := 19) F dX5_layer_19 0 rfl ?_
        refine zi_get (pc := 20) (C := RX5) (T := TX5) (N := 27) (v := .ref (G.2.2 6 5)) F (hw_X5_layer_X5) 0 rfl rfl 10 (by decide) (List.mem_of_getElem? (i := 2) rfl) rfl rfl dX5_layer_20 ?_
        refine zi_iload_n (pc := 23) F dX5_layer_23 2 rfl ?_
        refine zi_iald (pc := 24) (v := (R 10 byi.toNatClampNeg)) F 5 0 rfl rfl (zin (a := byi) (by omega) (by omega)) rfl dX5_layer_24 ?_
        have hM39 := c_X5_thingOf l G (R 10 byi.toNatClampNeg) R (hIR)
        have pp40 := pp_X5_thingOf (R 10 byi.toNatClampNeg) R (hIR)
        obtain ⟨r37, e38⟩ : ∃ z, mX5_thingOf (R 10 byi.toNatClampNeg) R = z := ⟨_, rfl⟩
        have hE := zbnd_cut hE e38
        rw [e38] at hM39
        rw [e38] at pp40
        have q41 := pp40
        refine zi_callVI (pc := 25) (rest := []) (ws' := zWR G R) F hM39 (cwV 1 F.1.2.2.2.2 gX5_layer_X5_thingOf rfl rfl rfl hd_X5_thingOf ⟨Nat.le_of_ble_eq_true rfl, Nat.le_of_ble_eq_true rfl⟩) 0 rfl rfl _ _ (zw_nil _) (zw_nil _).symm rfl rfl (Nat.le_of_ble_eq_true rfl) dX5_layer_25 ⟨Nat.zero_le _, Nat.zero_le _⟩ ?_
        refine zi_goto (pc := 28) (tgt := 32) F dX5_layer_28 (by decide) ?_
        subst hE
        exact zi_sub [0, 1, 2, 3] rfl hK
  refine hK30 ?_
  refine zi_istore (pc := 32) (lv' := [(0, .ref (G.2.2 6 0)), (1, .int which), (2, .int byi), (3, .int y1), (4, .int w15)]) F dX5_layer_32 (by decide) rfl ?_
  obtain ⟨R45, e46⟩ : ∃ z, mX5_layer_S34 byi w15 R = z := ⟨_, rfl⟩
  have hE := zbnd_cut hE e46
  have hQ47 : (Int32.toInt (R45 6 0) = Int32.toInt (R 6 0)) ∧ (zIR R45) := by
    have hE := e46
    unfold mX5_layer_S34 at hE
    by_cases c48 : w15 < 0
    · have hE := zite_t hE c48
      have t49 := zt_lt c48
      subst hE
      exact ⟨by (show Int32.toInt (R 6 0) = Int32.toInt (R 6 0); omega), hIR⟩
    · have hE := zite_f hE c48
      have t50 := zt_nlt c48
      subst hE
      exact ⟨by (show Int32.toInt (R 6 0) = Int32.toInt (R 6 0); omega), hIR⟩
  obtain ⟨i51, hIR45⟩ := hQ47
  obtain ⟨⟨i52, i53⟩, ⟨i54, i55⟩, ⟨i56, i57⟩, ⟨i58, i59⟩, ⟨i60, i61⟩, hIR45_b14, hIR45_p15⟩ := id hIR45
  have hK62 : zW p l e rmX5_layer s m args below meth c 0 0 Q G.1 A 7 (zWR G R45) [(0, .ref (G.2.2 6 0)), (1, .int which), (2, .int byi), (3, .int y1), (4, .int w15)] 52 [] → zW p l e rmX5_layer s m args below meth c 0 0 Q G.1 A 7 (zWR G R) [(0, .ref (G.2.2 6 0)), (1, .int which), (2, .int byi), (3, .int y1), (4, .int w15)] 34 [] := by
    intro hK
    have hE := e46
    unfold mX5_layer_S34 at hE
    refine zi_iload (pc := 34) F dX5_layer_34 4 rfl ?_
    refine zi_if_lt (pc := 36) (tgt := 52) F dX5_layer_36 (by decide) (fun c63 => ?_) (fun c63 => ?_)
    · have hE := zite_t hE c63
      have t64 := zt_lt c63
      subst hE
      exact zi_sub [0, 1, 2, 3, 4] rfl hK
    · have hE := zite_f hE c63
      have t65 := zt_nlt c63
      refine zi_aload_n (pc := 39) F dX5_layer_39 0 rfl ?_
      refine zi_get (pc := 40) (C := RX5) (T := TX5) (N := 27) (v := .ref (G.2.2 6 11)) F (hw_X5_layer_X5) 0 rfl rfl 18 (by decide) (List.mem_of_getElem? (i := 3) rfl) rfl rfl dX5_layer_40 ?_
      refine zi_iload (pc := 43) F dX5_layer_43 4 rfl ?_
      refine zi_aload_n (pc := 45) F dX5_layer_45 0 rfl ?_
      refine zi_get (pc := 46) (C := RX5) (T := TX5) (N := 27) (v := .ref (G.2.2 6 3)) F (hw_X5_layer_X5) 0 rfl rfl 8 (by decide) (List.mem_of_getElem? (i := 4) rfl) rfl rfl dX5_layer_46 ?_
      refine zi_iload_n (pc := 49) F dX5_layer_49 2 rfl ?_
      refine zi_iald (pc := 50) (v := (R 8 byi.toNatClampNeg)) F 3 0 rfl rfl (zin (a := byi) (by omega) (by omega)) rfl dX5_layer_50 ?_
      refine zi_iast (pc := 51) (ws' := zWR G (zsF R 18 (upd (R 18) w15.toNatClampNeg (R 8 byi.toNatClampNeg)))) F 11 0 rfl rfl (zin (a := w15) (by omega) (by omega)) rfl dX5_layer_51 ?_
      subst hE
      exact zi_sub [0, 1, 2, 3, 4] rfl hK
  refine hK62 ?_
  refine zi_iconst (pc := 52) (v := 0) F dX5_layer_52 rfl ?_
  refine zi_istore (pc := 53) (lv' := [(0, .ref (G.2.2 6 0)), (1, .int which), (2, .int byi), (3, .int y1), (4, .int w15), (5, .int 0)]) F dX5_layer_53 (by decide) rfl ?_
  have hL55 : ∀ (n339 : Nat) (k5_337 : Int32) (R338 : zS_t), (0 ≤ Int32.toInt k5_337) ∧ (Int32.toInt k5_337 ≤ 10) ∧ (Int32.toInt (R338 6 0) = Int32.toInt (R 6 0)) ∧ (zIR R338) → 11 - Int32.toInt k5_337 ≤ (n339 : Int) → ∀ Y340, mX5_layer_L55 which byi y1 n339 k5_337 R338 = Y340 → (((0 ≤ Int32.toInt Y340.1) ∧ (Int32.toInt Y340.1 ≤ 10) ∧ (Int32.toInt ((Y340.2) 6 0) = Int32.toInt (R 6 0)) ∧ (zIR (Y340.2))) → zW p l e rmX5_layer s m args below meth c 0 0 Q G.1 A 7 (zWR G (Y340.2)) [(0, .ref (G.2.2 6 0)), (1, .int which), (2, .int byi), (3, .int y1), (4, .int w15), (5, .int Y340.1)] 275 []) → zW p l e rmX5_layer s m args below meth c 0 0 Q G.1 A 7 (zWR G R338) [(0, .ref (G.2.2 6 0)), (1, .int which), (2, .int byi), (3, .int y1), (4, .int w15), (5, .int k5_337)] 55 [] := by
    intro n339
    induction n339 with
    | zero =>
      intro k5_337 R338 hI hM9
      obtain ⟨i341, i342, i343, hIR338⟩ := id hI
      obtain ⟨⟨i344, i345⟩, ⟨i346, i347⟩, ⟨i348, i349⟩, ⟨i350, i351⟩, ⟨i352, i353⟩, hIR338_b14, hIR338_p15⟩ := id hIR338
      exact absurd hM9 (by omega)
    | succ n339 ih =>
      intro k5_337 R338 hI hM9 Y340 hE hK
      obtain ⟨i354, i355, i356, hIR338⟩ := id hI
      obtain ⟨⟨i357, i358⟩, ⟨i359, i360⟩, ⟨i361, i362⟩, ⟨i363, i364⟩, ⟨i365, i366⟩, hIR338_b14, hIR338_p15⟩ := id hIR338
      rw [mX5_layer_L55.eq_2] at hE
      refine zi_iload (pc := 55) F dX5_layer_55 5 rfl ?_
      refine zi_aload_n (pc := 57) F dX5_layer_57 0 rfl ?_
      refine zi_get (pc := 58) (C := RX5) (T := TX5) (N := 27) (v := .int (R338 6 0)) F (hw_X5_layer_X5) 0 rfl rfl 6 (by decide) (List.mem_of_getElem? (i := 5) rfl) rfl rfl dX5_layer_58 ?_
      refine zi_icmp_ge (pc := 61) (tgt := 275) F dX5_layer_61 (by decide) (fun c367 => ?_) (fun c367 => ?_)
      · have hE := zite_t hE c367
        have t368 := zt_le c367
        subst hE
        refine zi_sub [0, 1, 2, 3, 4, 5] rfl ?_
        exact hK (⟨by (show 0 ≤ Int32.toInt k5_337; omega), by (show Int32.toInt k5_337 ≤ 10; omega), by (show Int32.toInt (R338 6 0) = Int32.toInt (R 6 0); omega), hIR338⟩)
      · have hE := zite_f hE c367
        have t369 := zt_nle c367
        obtain ⟨w373, e374⟩ : ∃ z, mX5_layer_S64 k5_337 R338 = z := ⟨_, rfl⟩
        have hE := zbnd_cut hE e374
        have hK375 : zW p l e rmX5_layer s m args below meth c 0 0 Q G.1 A 7 (zWR G R338) [(0, .ref (G.2.2 6 0)), (1, .int which), (2, .int byi), (3, .int y1), (4, .int w15), (5, .int k5_337)] 82 [.int w373] → zW p l e rmX5_layer s m args below meth c 0 0 Q G.1 A 7 (zWR G R338) [(0, .ref (G.2.2 6 0)), (1, .int which), (2, .int byi), (3, .int y1), (4, .int w15), (5, .int k5_337)] 64 [] := by
          intro hK
          have hE := e374
          unfold mX5_layer_S64 at hE
          refine zi_aload_n (pc := 64) F dX5_layer_64 0 rfl ?_
          refine zi_get (pc := 65) (C := RX5) (T := TX5) (N := 27) (v := .ref (G.2.2 6 14)) F (hw_X5_layer_X5) 0 rfl rfl 21 (by decide) (List.mem_of_getElem? (i := 6) rfl) rfl rfl dX5_layer_65 ?_
          refine zi_iload (pc := 68) F dX5_layer_68 5 rfl ?_
          refine zi_iald (pc := 70) (v := (R338 21 k5_337.toNatClampNeg)) F 14 0 rfl rfl (zin (a := k5_337) (by omega) (by omega)) rfl dX5_layer_70 ?_
          refine zi_iconst (pc := 71) (v := 1) F dX5_layer_71 rfl ?_
          refine zi_iand (pc := 72) F dX5_layer_72 ?_
          refine zi_iconst (pc := 73) (v := 1) F dX5_layer_73 rfl ?_
          refine zi_icmp_ne (pc := 74) (tgt := 81) F dX5_layer_74 (by decide) (fun c376 => ?_) (fun c376 => ?_)
          · have hE := zite_f hE c376
            have t377 := zt_ne c376
            refine zi_iconst (pc := 81) (v := 0) F dX5_layer_81 rfl ?_
            subst hE
            exact zi_sub [0, 1, 2, 3, 4, 5] rfl hK
          · have hE := zite_t hE c376
            have t378 := congrArg Int32.toInt c376
            refine zi_iconst (pc := 77) (v := 1) F dX5_layer_77 rfl ?_
            refine zi_goto (pc := 78) (tgt := 82) F dX5_layer_78 (by decide) ?_
            subst hE
            exact zi_sub [0, 1, 2, 3, 4, 5] rfl hK
        refine hK375 ?_
        refine zi_istore (pc := 82) (lv' := [(0, .ref (G.2.2 6 0)), (1, .int which), (2, .int byi), (3, .int y1), (4, .int w15), (5, .int k5_337), (6, .int w373)]) F dX5_layer_82 (by decide) rfl ?_
        obtain ⟨R388, e389⟩ : ∃ z, mX5_layer_S84 which y1 k5_337 R338 = z := ⟨_, rfl⟩
        have hE := zbnd_cut hE e389
        have hQ390 : (Int32.toInt (R388 6 0) = Int32.toInt (R338 6 0)) ∧ (zIR R388) := by
          have hE := e389
          unfold mX5_layer_S84 at hE
          by_cases c391 : which = 2
          · have hE := zite_t hE c391
            have t392 := congrArg Int32.toInt c391
            by_cases c393 : y1 = 5
            · have hE := zite_t hE c393
              have t394 := congrArg Int32.toInt c393
              by_cases c395 : ((R338 21 k5_337.toNatClampNeg) &&& 2) = 2
              · have hE := zite_t hE c395
                have t396 := congrArg Int32.toInt c395
                subst hE
                exact ⟨by (show Int32.toInt (R338 6 0) = Int32.toInt (R338 6 0); omega), hIR338⟩
              · have hE := zite_f hE c395
                have t397 := zt_ne c395
                subst hE
                exact ⟨by (show Int32.toInt (R338 6 0) = Int32.toInt (R338 6 0); omega), hIR338⟩
            · have hE := zite_f hE c393
              have t398 := zt_ne c393
              subst hE
              exact ⟨by (show Int32.toInt (R338 6 0) = Int32.toInt (R338 6 0); omega), hIR338⟩
          · have hE := zite_f hE c391
            have t399 := zt_ne c391
            subst hE
            exact ⟨by (show Int32.toInt (R338 6 0) = Int32.toInt (R338 6 0); omega), hIR338⟩
        obtain ⟨i400, hIR388⟩ := hQ390
        obtain ⟨⟨i401, i402⟩, ⟨i403, i404⟩, ⟨i405, i406⟩, ⟨i407, i408⟩, ⟨i409, i410⟩, hIR388_b14, hIR388_p15⟩ := id hIR388
        have hK411 : zW p l e rmX5_layer s m args below meth c 0 0 Q G.1 A 7 (zWR G R388) [(0, .ref (G.2.2 6 0)), (1, .int which), (2, .int byi), (3, .int y1), (4, .int w15), (5, .int k5_337), (6, .int w373)] 118 [] → zW p l e rmX5_layer s m args below meth c 0 0 Q G.1 A 7 (zWR G R338) [(0, .ref (G.2.2 6 0)), (1, .int which), (2, .int byi), (3, .int y1), (4, .int w15), (5, .int k5_337), (6, .int w373)] 84 [] := by
          intro hK
          have hE := e389
          unfold mX5_layer_S84 at hE
          refine zi_iload_n (pc := 84) F dX5_layer_84 1 rfl ?_
          refine zi_iconst (pc := 85) (v := 2) F dX5_layer_85 rfl ?_
          refine zi_icmp_ne (pc := 86) (tgt := 118) F dX5_layer_86 (by decide) (fun c412 => ?_) (fun c412 => ?_)
          · have hE := zite_f hE c412
            have t413 := zt_ne c412
            subst hE
            exact zi_sub [0, 1, 2, 3, 4, 5, 6] rfl hK
          · have hE := zite_t hE c412
            have t414 := congrArg Int32.toInt c412
            refine zi_iload_n (pc := 89) F dX5_layer_89 3 rfl ?_
            refine zi_iconst (pc := 90) (v := 5) F dX5_layer_90 rfl ?_
            refine zi_icmp_ne (pc := 91) (tgt := 118) F dX5_layer_91 (by decide) (fun c415 => ?_) (fun c415 => ?_)
            · have hE := zite_f hE c415
              have t416 := zt_ne c415
              subst hE
              exact zi_sub [0, 1, 2, 3, 4, 5, 6] rfl hK
            · have hE := zite_t hE c415
              have t417 := congrArg Int32.toInt c415
              refine zi_aload_n (pc := 94) F dX5_layer_94 0 rfl ?_
              refine zi_get (pc := 95) (C := RX5) (T := TX5) (N := 27) (v := .ref (G.2.2 6 14)) F (hw_X5_layer_X5) 0 rfl rfl 21 (by decide) (List.mem_of_getElem? (i := 6) rfl) rfl rfl dX5_layer_95 ?_
              refine zi_iload (pc := 98) F dX5_layer_98 5 rfl ?_
              refine zi_iald (pc := 100) (v := (R338 21 k5_337.toNatClampNeg)) F 14 0 rfl rfl (zin (a := k5_337) (by omega) (by omega)) rfl dX5_layer_100 ?_
              refine zi_iconst (pc := 101) (v := 2) F dX5_layer_101 rfl ?_
              refine zi_iand (pc := 102) F dX5_layer_102 ?_
              refine zi_iconst (pc := 103) (v := 2) F dX5_layer_103 rfl ?_
              refine zi_icmp_ne (pc := 104) (tgt := 118) F dX5_layer_104 (by decide) (fun c418 => ?_) (fun c418 => ?_)
              · have hE := zite_f hE c418
                have t419 := zt_ne c418
                subst hE
                exact zi_sub [0, 1, 2, 3, 4, 5, 6] rfl hK
              · have hE := zite_t hE c418
                have t420 := congrArg Int32.toInt c418
                refine zi_aload_n (pc := 107) F dX5_layer_107 0 rfl ?_
                refine zi_get (pc := 108) (C := RX5) (T := TX5) (N := 27) (v := .ref (G.2.2 6 12)) F (hw_X5_layer_X5) 0 rfl rfl 19 (by decide) (List.mem_of_getElem? (i := 7) rfl) rfl rfl dX5_layer_108 ?_
                refine zi_iload (pc := 111) F dX5_layer_111 5 rfl ?_
                refine zi_dup2 (pc := 113) F dX5_layer_113 rfl rfl ?_
                refine zi_iald (pc := 114) (v := (R338 19 k5_337.toNatClampNeg)) F 12 0 rfl rfl (zin (a := k5_337) (by omega) (by omega)) rfl dX5_layer_114 ?_
                refine zi_iconst (pc := 115) (v := 1) F dX5_layer_115 rfl ?_
                refine zi_ior (pc := 116) F dX5_layer_116 ?_
                refine zi_iast (pc := 117) (ws' := zWR G (zsF R338 19 (upd (R338 19) k5_337.toNatClampNeg ((R338 19 k5_337.toNatClampNeg) ||| 1)))) F 12 0 rfl rfl (zin (a := k5_337) (by omega) (by omega)) rfl dX5_layer_117 ?_
                subst hE
                exact zi_sub [0, 1, 2, 3, 4, 5, 6] rfl hK
        refine hK411 ?_
        obtain ⟨R430, e431⟩ : ∃ z, mX5_layer_S118 which y1 k5_337 w373 R388 = z := ⟨_, rfl⟩
        have hE := zbnd_cut hE e431
        have hQ432 : (Int32.toInt (R430 6 0) = Int32.toInt (R388 6 0)) ∧ (zIR R430) := by
          have hE := e431
          unfold mX5_layer_S118 at hE
          by_cases c433 : which = 2
          · have hE := zite_t hE c433
            have t434 := congrArg Int32.toInt c433
            by_cases c435 : y1 = 6
            · have hE := zite_t hE c435
              have t436 := congrArg Int32.toInt c435
              by_cases c437 : w373 = 0
              · have hE := zite_t hE c437
                have t438 := congrArg Int32.toInt c437
                subst hE
                exact ⟨by (show Int32.toInt (R388 6 0) = Int32.toInt (R388 6 0); omega), hIR388⟩
              · have hE := zite_f hE c437
                have t439 := zt_ne c437
                subst hE
                exact ⟨by (show Int32.toInt (R388 6 0) = Int32.toInt (R388 6 0); omega), hIR388⟩
            · have hE := zite_f hE c435
              have t440 := zt_ne c435
              subst hE
              exact ⟨by (show Int32.toInt (R388 6 0) = Int32.toInt (R388 6 0); omega), hIR388⟩
          · have hE := zite_f hE c433
            have t441 := zt_ne c433
            subst hE
            exact ⟨by (show Int32.toInt (R388 6 0) = Int32.toInt (R388 6 0); omega), hIR388⟩
        obtain ⟨i442, hIR430⟩ := hQ432
        obtain ⟨⟨i443, i444⟩, ⟨i445, i446⟩, ⟨i447, i448⟩, ⟨i449, i450⟩, ⟨i451, i452⟩, hIR430_b14, hIR430_p15⟩ := id hIR430
        have hK453 : zW p l e rmX5_layer s m args below meth c 0 0 Q G.1 A 7 (zWR G R430) [(0, .ref (G.2.2 6 0)), (1, .int which), (2, .int byi), (3, .int y1), (4, .int w15), (5, .int k5_337), (6, .int w373)] 152 [] → zW p l e rmX5_layer s m args below meth c 0 0 Q G.1 A 7 (zWR G R388) [(0, .ref (G.2.2 6 0)), (1, .int which), (2, .int byi), (3, .int y1), (4, .int w15), (5, .int k5_337), (6, .int w373)] 118 [] := by
          intro hK
          have hE := e431
          unfold mX5_layer_S118 at hE
          refine zi_iload_n (pc := 118) F dX5_layer_118 1 rfl ?_
          refine zi_iconst (pc := 119) (v := 2) F dX5_layer_119 rfl ?_
          refine zi_icmp_ne (pc := 120) (tgt := 152) F dX5_layer_120 (by decide) (fun c454 => ?_) (fun c454 => ?_)
          · have hE := zite_f hE c454
            have t455 := zt_ne c454
            subst hE
            exact zi_sub [0, 1, 2, 3, 4, 5, 6] rfl hK
          · have hE := zite_t hE c454
            have t456 := congrArg Int32.toInt c454
            refine zi_iload_n (pc := 123) F dX5_layer_123 3 rfl ?_
            refine zi_bipush (pc := 124) (v := 6) F dX5_layer_124 rfl ?_
            refine zi_icmp_ne (pc := 126) (tgt := 152) F dX5_layer_126 (by decide) (fun c457 => ?_) (fun c457 => ?_)
            · have hE := zite_f hE c457
              have t458 := zt_ne c457
              subst hE
              exact zi_sub [0, 1, 2, 3, 4, 5, 6] rfl hK
            · have hE := zite_t hE c457
              have t459 := congrArg Int32.toInt c457
              refine zi_iload (pc := 129) F dX5_layer_129 6 rfl ?_
              refine zi_if_eq (pc := 131) (tgt := 152) F dX5_layer_131 (by decide) (fun c460 => ?_) (fun c460 => ?_)
              · have hE := zite_t hE c460
                have t461 := congrArg Int32.toInt c460
                subst hE
                exact zi_sub [0, 1, 2, 3, 4, 5, 6] rfl hK
              · have hE := zite_f hE c460
                have t462 := zt_ne c460
                refine zi_aload_n (pc := 134) F dX5_layer_134 0 rfl ?_
                refine zi_get (pc := 135) (C := RX5) (T := TX5) (N := 27) (v := .ref (G.2.2 6 12)) F (hw_X5_layer_X5) 0 rfl rfl 19 (by decide) (List.mem_of_getElem? (i := 7) rfl) rfl rfl dX5_layer_135 ?_
                refine zi_iload (pc := 138) F dX5_layer_138 5 rfl ?_
                refine zi_aload_n (pc := 140) F dX5_layer_140 0 rfl ?_
                refine zi_get (pc := 141) (C := RX5) (T := TX5) (N := 27) (v := .ref (G.2.2 6 12)) F (hw_X5_layer_X5) 0 rfl rfl 19 (by decide) (List.mem_of_getElem? (i := 7) rfl) rfl rfl dX5_layer_141 ?_
                refine zi_iload (pc := 144) F dX5_layer_144 5 rfl ?_
                refine zi_iald (pc := 146) (v := (R388 19 k5_337.toNatClampNeg)) F 12 0 rfl rfl (zin (a := k5_337) (by omega) (by omega)) rfl dX5_layer_146 ?_
                refine zi_iconst (pc := 147) (v := 4) F dX5_layer_147 rfl ?_
                refine zi_iand (pc := 148) F dX5_layer_148 ?_
                refine zi_iconst (pc := 149) (v := 2) F dX5_layer_149 rfl ?_
                refine zi_ior (pc := 150) F dX5_layer_150 ?_
                refine zi_iast (pc := 151) (ws' := zWR G (zsF R388 19 (upd (R388 19) k5_337.toNatClampNeg (((R388 19 k5_337.toNatClampNeg) &&& 4) ||| 2)))) F 12 0 rfl rfl (zin (a := k5_337) (by omega) (by omega)) rfl dX5_layer_151 ?_
                subst hE
                exact zi_sub [0, 1, 2, 3, 4, 5, 6] rfl hK
        refine hK453 ?_
        obtain ⟨R481, e482⟩ : ∃ z, mX5_layer_S152 which y1 k5_337 w373 R430 = z := ⟨_, rfl⟩
        have hE := zbnd_cut hE e482
        have hQ483 : (Int32.toInt (R481 6 0) = Int32.toInt (R430 6 0)) ∧ (zIR R481) := by
          have hE := e482
          unfold mX5_layer_S152 at hE
          by_cases c484 : which = 3
          · have hE := zite_t hE c484
            have t485 := congrArg Int32.toInt c484
            by_cases c486 : w373 = 0
            · have hE := zite_t hE c486
              have t487 := congrArg Int32.toInt c486
              subst hE
              exact ⟨by (show Int32.toInt (R430 6 0) = Int32.toInt (R430 6 0); omega), hIR430⟩
            · have hE := zite_f hE c486
              have t488 := zt_ne c486
              by_cases c489 : y1 = 3
              · have hE := zite_t hE c489
                have t490 := congrArg Int32.toInt c489
                by_cases c491 : y1 = 3
                · have hE := zite_t hE c491
                  have t492 := congrArg Int32.toInt c491
                  subst hE
                  exact ⟨by (show Int32.toInt (R430 6 0) = Int32.toInt (R430 6 0); omega), hIR430⟩
                · have hE := zite_f hE c491
                  have t493 := zt_ne c491
                  subst hE
                  exact ⟨by (show Int32.toInt (R430 6 0) = Int32.toInt (R430 6 0); omega), hIR430⟩
              · have hE := zite_f hE c489
                have t494 := zt_ne c489
                by_cases c495 : y1 = 4
                · have hE := zite_t hE c495
                  have t496 := congrArg Int32.toInt c495
                  by_cases c497 : y1 = 3
                  · have hE := zite_t hE c497
                    have t498 := congrArg Int32.toInt c497
                    subst hE
                    exact ⟨by (show Int32.toInt (R430 6 0) = Int32.toInt (R430 6 0); omega), hIR430⟩
                  · have hE := zite_f hE c497
                    have t499 := zt_ne c497
                    subst hE
                    exact ⟨by (show Int32.toInt (R430 6 0) = Int32.toInt (R430 6 0); omega), hIR430⟩
                · have hE := zite_f hE c495
                  have t500 := zt_ne c495
                  subst hE
                  exact ⟨by (show Int32.toInt (R430 6 0) = Int32.toInt (R430 6 0); omega), hIR430⟩
          · have hE := zite_f hE c484
            have t501 := zt_ne c484
            subst hE
            exact ⟨by (show Int32.toInt (R430 6 0) = Int32.toInt (R430 6 0); omega), hIR430⟩
        obtain ⟨i502, hIR481⟩ := hQ483
        obtain ⟨⟨i503, i504⟩, ⟨i505, i506⟩, ⟨i507, i508⟩, ⟨i509, i510⟩, ⟨i511, i512⟩, hIR481_b14, hIR481_p15⟩ := id hIR481
        have hK513 : zW p l e rmX5_layer s m args below meth c 0 0 Q G.1 A 7 (zWR G R481) [(0, .ref (G.2.2 6 0)), (1, .int which), (2, .int byi), (3, .int y1), (4, .int w15), (5, .int k5_337), (6, .int w373)] 189 [] → zW p l e rmX5_layer s m args below meth c 0 0 Q G.1 A 7 (zWR G R430) [(0, .ref (G.2.2 6 0)), (1, .int which), (2, .int byi), (3, .int y1), (4, .int w15), (5, .int k5_337), (6, .int w373)] 152 [] := by
          intro hK
          have hE := e482
          unfold mX5_layer_S152 at hE
          refine zi_iload_n (pc := 152) F dX5_layer_152 1 rfl ?_
          refine zi_iconst (pc := 153) (v := 3) F dX5_layer_153 rfl ?_
          refine zi_icmp_ne (pc := 154) (tgt := 189) F dX5_layer_154 (by decide) (fun c514 => ?_) (fun c514 => ?_)
          · have hE := zite_f hE c514
            have t515 := zt_ne c514
            subst hE
            exact zi_sub [0, 1, 2, 3, 4, 5, 6] rfl hK
          · have hE := zite_t hE c514
            have t516 := congrArg Int32.toInt c514
            refine zi_iload (pc := 157) F dX5_layer_157 6 rfl ?_
            refine zi_if_eq (pc := 159) (tgt := 189) F dX5_layer_159 (by decide) (fun c517 => ?_) (fun c517 => ?_)
            · have hE := zite_t hE c517
              have t518 := congrArg Int32.toInt c517
              subst hE
              exact zi_sub [0, 1, 2, 3, 4, 5, 6] rfl hK
            · have hE := zite_f hE c517
              have t519 := zt_ne c517
              refine zi_iload_n (pc := 162) F dX5_layer_162 3 rfl ?_
              refine zi_iconst (pc := 163) (v := 3) F dX5_layer_163 rfl ?_
              refine zi_icmp_eq (pc := 164) (tgt := 172) F dX5_layer_164 (by decide) (fun c520 => ?_) (fun c520 => ?_)
              · have hE := zite_t hE c520
                have t521 := congrArg Int32.toInt c520
                refine zi_aload_n (pc := 172) F dX5_layer_172 0 rfl ?_
                refine zi_get (pc := 173) (C := RX5) (T := TX5) (N := 27) (v := .ref (G.2.2 6 13)) F (hw_X5_layer_X5) 0 rfl rfl 20 (by decide) (List.mem_of_getElem? (i := 8) rfl) rfl rfl dX5_layer_173 ?_
                refine zi_iload (pc := 176) F dX5_layer_176 5 rfl ?_
                refine zi_iload_n (pc := 178) F dX5_layer_178 3 rfl ?_
                refine zi_iconst (pc := 179) (v := 3) F dX5_layer_179 rfl ?_
                refine zi_icmp_ne (pc := 180) (tgt := 187) F dX5_layer_180 (by decide) (fun c522 => ?_) (fun c522 => ?_)
                · have hE := zite_f hE c522
                  have t523 := zt_ne c522
                  refine zi_iconst (pc := 187) (v := 4) F dX5_layer_187 rfl ?_
                  refine zi_iast (pc := 188) (ws' := zWR G (zsF R430 20 (upd (R430 20) k5_337.toNatClampNeg 4))) F 13 0 rfl rfl (zin (a := k5_337) (by omega) (by omega)) rfl dX5_layer_188 ?_
                  subst hE
                  exact zi_sub [0, 1, 2, 3, 4, 5, 6] rfl hK
                · have hE := zite_t hE c522
                  have t524 := congrArg Int32.toInt c522
                  refine zi_iconst (pc := 183) (v := 1) F dX5_layer_183 rfl ?_
                  refine zi_goto (pc := 184) (tgt := 188) F dX5_layer_184 (by decide) ?_
                  refine zi_iast (pc := 188) (ws' := zWR G (zsF R430 20 (upd (R430 20) k5_337.toNatClampNeg 1))) F 13 0 rfl rfl (zin (a := k5_337) (by omega) (by omega)) rfl dX5_layer_188 ?_
                  subst hE
                  exact zi_sub [0, 1, 2, 3, 4, 5, 6] rfl hK
              · have hE := zite_f hE c520
                have t525 := zt_ne c520
                refine zi_iload_n (pc := 167) F dX5_layer_167 3 rfl ?_
                refine zi_iconst (pc := 168) (v := 4) F dX5_layer_168 rfl ?_
                refine zi_icmp_ne (pc := 169) (tgt := 189) F dX5_layer_169 (by decide) (fun c526 => ?_) (fun c526 => ?_)
                · have hE := zite_f hE c526
                  have t527 := zt_ne c526
                  subst hE
                  exact zi_sub [0, 1, 2, 3, 4, 5, 6] rfl hK
                · have hE := zite_t hE c526
                  have t528 := congrArg Int32.toInt c526
                  refine zi_aload_n (pc := 172) F dX5_layer_172 0 rfl ?_
                  refine zi_get (pc := 173) (C := RX5) (T := TX5) (N := 27) (v := .ref (G.2.2 6 13)) F (hw_X5_layer_X5) 0 rfl rfl 20 (by decide) (List.mem_of_getElem? (i := 8) rfl) rfl rfl dX5_layer_173 ?_
                  refine zi_iload (pc := 176) F dX5_layer_176 5 rfl ?_
                  refine zi_iload_n (pc := 178) F dX5_layer_178 3 rfl ?_
                  refine zi_iconst (pc := 179) (v := 3) F dX5_layer_179 rfl ?_
                  refine zi_icmp_ne (pc := 180) (tgt := 187) F dX5_layer_180 (by decide) (fun c529 => ?_) (fun c529 => ?_)
                  · have hE := zite_f hE c529
                    have t530 := zt_ne c529
                    refine zi_iconst (pc := 187) (v := 4) F dX5_layer_187 rfl ?_
                    refine zi_iast (pc := 188) (ws' := zWR G (zsF R430 20 (upd (R430 20) k5_337.toNatClampNeg 4))) F 13 0 rfl rfl (zin (a := k5_337) (by omega) (by omega)) rfl dX5_layer_188 ?_
                    subst hE
                    exact zi_sub [0, 1, 2, 3, 4, 5, 6] rfl hK
                  · have hE := zite_t hE c529
                    have t531 := congrArg Int32.toInt c529
                    refine zi_iconst (pc := 183) (v := 1) F dX5_layer_183 rfl ?_
                    refine zi_goto (pc := 184) (tgt := 188) F dX5_layer_184 (by decide) ?_
                    refine zi_iast (pc := 188) (ws' := zWR G (zsF R430 20 (upd (R430 20) k5_337.toNatClampNeg 1))) F 13 0 rfl rfl (zin (a := k5_337) (by omega) (by omega)) rfl dX5_layer_188 ?_
                    subst hE
                    exact zi_sub [0, 1, 2, 3, 4, 5, 6] rfl hK
        refine hK513 ?_
        obtain ⟨R544, e545⟩ : ∃ z, mX5_layer_S189 which byi y1 k5_337 w373 R481 = z := ⟨_, rfl⟩
        have hE := zbnd_cut hE e545
        have hQ546 : (Int32.toInt (R544 6 0) = Int32.toInt (R481 6 0)) ∧ (zIR R544) := by
          have hE := e545
          unfold mX5_layer_S189 at hE
          by_cases c547 : which = 4
          · have hE := zite_t hE c547
            have t548 := congrArg Int32.toInt c547
            by_cases c549 : w373 = 0
            · have hE := zite_t hE c549
              have t550 := congrArg Int32.toInt c549
              subst hE
              exact ⟨by (show Int32.toInt (R481 6 0) = Int32.toInt (R481 6 0); omega), hIR481⟩
            · have hE := zite_f hE c549
              have t551 := zt_ne c549
              by_cases c552 : y1 = 2
              · have hE := zite_t hE c552
                have t553 := congrArg Int32.toInt c552
                by_cases c554 : (R481 18 k5_337.toNatClampNeg) = (R481 18 byi.toNatClampNeg)
                · have hE := zite_t hE c554
                  have t555 := congrArg Int32.toInt c554
                  subst hE
                  exact ⟨by (show Int32.toInt (R481 6 0) = Int32.toInt (R481 6 0); omega), hIR481⟩
                · have hE := zite_f hE c554
                  have t556 := zt_ne c554
                  subst hE
                  exact ⟨by (show Int32.toInt (R481 6 0) = Int32.toInt (R481 6 0); omega), hIR481⟩
              · have hE := zite_f hE c552
                have t557 := zt_ne c552
                subst hE
                exact ⟨by (show Int32.toInt (R481 6 0) = Int32.toInt (R481 6 0); omega), hIR481⟩
          · have hE := zite_f hE c547
            have t558 := zt_ne c547
            subst hE
            exact ⟨by (show Int32.toInt (R481 6 0) = Int32.toInt (R481 6 0); omega), hIR481⟩
        obtain ⟨i559, hIR544⟩ := hQ546
        obtain ⟨⟨i560, i561⟩, ⟨i562, i563⟩, ⟨i564, i565⟩, ⟨i566, i567⟩, ⟨i568, i569⟩, hIR544_b14, hIR544_p15⟩ := id hIR544
        have hK570 : zW p l e rmX5_layer s m args below meth c 0 0 Q G.1 A 7 (zWR G R544) [(0, .ref (G.2.2 6 0)), (1, .int which), (2, .int byi), (3, .int y1), (4, .int w15), (5, .int k5_337), (6, .int w373)] 231 [] → zW p l e rmX5_layer s m args below meth c 0 0 Q G.1 A 7 (zWR G R481) [(0, .ref (G.2.2 6 0)), (1, .int which), (2, .int byi), (3, .int y1), (4, .int w15), (5, .int k5_337), (6, .int w373)] 189 [] := by
          intro hK
          have hE := e545
          unfold mX5_layer_S189 at hE
          refine zi_iload_n (pc := 189) F dX5_layer_189 1 rfl ?_
          refine zi_iconst (pc := 190) (v := 4) F dX5_layer_190 rfl ?_
          refine zi_icmp_ne (pc := 191) (tgt := 231) F dX5_layer_191 (by decide) (fun c571 => ?_) (fun c571 => ?_)
          · have hE := zite_f hE c571
            have t572 := zt_ne c571
            subst hE
            exact zi_sub [0, 1, 2, 3, 4, 5, 6] rfl hK
          · have hE := zite_t hE c571
            have t573 := congrArg Int32.toInt c571
            refine zi_iload (pc := 194) F dX5_layer_194 6 rfl ?_
            refine zi_if_eq (pc := 196) (tgt := 231) F dX5_layer_196 (by decide) (fun c574 => ?_) (fun c574 => ?_)
            · have hE := zite_t hE c574
              have t575 := congrArg Int32.toInt c574
              subst hE
              exact zi_sub [0, 1, 2, 3, 4, 5, 6] rfl hK
            · have hE := zite_f hE c574
              have t576 := zt_ne c574
              refine zi_iload_n (pc := 199) F dX5_layer_199 3 rfl ?_
              refine zi_iconst (pc := 200) (v := 2) F dX5_layer_200 rfl ?_
              refine zi_icmp_ne (pc := 201) (tgt := 231) F dX5_layer_201 (by decide) (fun c577 => ?_) (fun c577 => ?_)
              · have hE := zite_f hE c577
                have t578 := zt_ne c577
                subst hE
                exact zi_sub [0, 1, 2, 3, 4, 5, 6] rfl hK
              · have hE := zite_t hE c577
                have t579 := congrArg Int32.toInt c577
                refine zi_aload_n (pc := 204) F dX5_layer_204 0 rfl ?_
                refine zi_get (pc := 205) (C := RX5) (T := TX5) (N := 27) (v := .ref (G.2.2 6 11)) F (hw_X5_layer_X5) 0 rfl rfl 18 (by decide) (List.mem_of_getElem? (i := 3) rfl) rfl rfl dX5_layer_205 ?_
                refine zi_iload (pc := 208) F dX5_layer_208 5 rfl ?_
                refine zi_iald (pc := 210) (v := (R481 18 k5_337.toNatClampNeg)) F 11 0 rfl rfl (zin (a := k5_337) (by omega) (by omega)) rfl dX5_layer_210 ?_
                refine zi_aload_n (pc := 211) F dX5_layer_211 0 rfl ?_
                refine zi_get (pc := 212) (C := RX5) (T := TX5) (N := 27) (v := .ref (G.2.2 6 11)) F (hw_X5_layer_X5) 0 rfl rfl 18 (by decide) (List.mem_of_getElem? (i := 3) rfl) rfl rfl dX5_layer_212 ?_
                refine zi_iload_n (pc := 215) F dX5_layer_215 2 rfl ?_
                refine zi_iald (pc := 216) (v := (R481 18 byi.toNatClampNeg)) F 11 0 rfl rfl (zin (a := byi) (by omega) (by omega)) rfl dX5_layer_216 ?_
                refine zi_icmp_ne (pc := 217) (tgt := 231) F dX5_layer_217 (by decide) (fun c580 => ?_) (fun c580 => ?_)
                · have hE := zite_f hE c580
                  have t581 := zt_ne c580
                  subst hE
                  exact zi_sub [0, 1, 2, 3, 4, 5, 6] rfl hK
                · have hE := zite_t hE c580
                  have t582 := congrArg Int32.toInt c580
                  refine zi_aload_n (pc := 220) F dX5_layer_220 0 rfl ?_
                  refine zi_get (pc := 221) (C := RX5) (T := TX5) (N := 27) (v := .ref (G.2.2 6 13)) F (hw_X5_layer_X5) 0 rfl rfl 20 (by decide) (List.mem_of_getElem? (i := 8) rfl) rfl rfl dX5_layer_221 ?_
                  refine zi_iload (pc := 224) F dX5_layer_224 5 rfl ?_
                  refine zi_dup2 (pc := 226) F dX5_layer_226 rfl rfl ?_
                  refine zi_iald (pc := 227) (v := (R481 20 k5_337.toNatClampNeg)) F 13 0 rfl rfl (zin (a := k5_337) (by omega) (by omega)) rfl dX5_layer_227 ?_
                  refine zi_iconst (pc := 228) (v := 2) F dX5_layer_228 rfl ?_
                  refine zi_iadd (pc := 229) F dX5_layer_229 ?_
                  refine zi_iast (pc := 230) (ws' := zWR G (zsF R481 20 (upd (R481 20) k5_337.toNatClampNeg ((R481 20 k5_337.toNatClampNeg) + 2)))) F 13 0 rfl rfl (zin (a := k5_337) (by omega) (by omega)) rfl dX5_layer_230 ?_
                  subst hE
                  exact zi_sub [0, 1, 2, 3, 4, 5, 6] rfl hK
        refine hK570 ?_
        obtain ⟨R595, e596⟩ : ∃ z, mX5_layer_S231 which y1 k5_337 w373 R544 = z := ⟨_, rfl⟩
        have hE := zbnd_cut hE e596
        have hQ597 : (Int32.toInt (R595 6 0) = Int32.toInt (R544 6 0)) ∧ (zIR R595) := by
          have hE := e596
          unfold mX5_layer_S231 at hE
          by_cases c598 : which = 5
          · have hE := zite_t hE c598
            have t599 := congrArg Int32.toInt c598
            by_cases c600 : w373 = 0
            · have hE := zite_t hE c600
              have t601 := congrArg Int32.toInt c600
              subst hE
              exact ⟨by (show Int32.toInt (R544 6 0) = Int32.toInt (R544 6 0); omega), hIR544⟩
            · have hE := zite_f hE c600
              have t602 := zt_ne c600
              by_cases c603 : y1 = 8
              · have hE := zite_t hE c603
                have t604 := congrArg Int32.toInt c603
                by_cases c605 : (R544 22 k5_337.toNatClampNeg) < 3
                · have hE := zite_t hE c605
                  have t606 := zt_lt c605
                  subst hE
                  exact ⟨by (show Int32.toInt (R544 6 0) = Int32.toInt (R544 6 0); omega), hIR544⟩
                · have hE := zite_f hE c605
                  have t607 := zt_nlt c605
                  subst hE
                  exact ⟨by (show Int32.toInt (R544 6 0) = Int32.toInt (R544 6 0); omega), hIR544⟩
              · have hE := zite_f hE c603
                have t608 := zt_ne c603
                subst hE
                exact ⟨by (show Int32.toInt (R544 6 0) = Int32.toInt (R544 6 0); omega), hIR544⟩
          · have hE := zite_f hE c598
            have t609 := zt_ne c598
            subst hE
            exact ⟨by (show Int32.toInt (R544 6 0) = Int32.toInt (R544 6 0); omega), hIR544⟩
        obtain ⟨i610, hIR595⟩ := hQ597
        obtain ⟨⟨i611, i612⟩, ⟨i613, i614⟩, ⟨i615, i616⟩, ⟨i617, i618⟩, ⟨i619, i620⟩, hIR595_b14, hIR595_p15⟩ := id hIR595
        have hK621 : zW p l e rmX5_layer s m args below meth c 0 0 Q G.1 A 7 (zWR G R595) [(0, .ref (G.2.2 6 0)), (1, .int which), (2, .int byi), (3, .int y1), (4, .int w15), (5, .int k5_337), (6, .int w373)] 269 [] → zW p l e rmX5_layer s m args below meth c 0 0 Q G.1 A 7 (zWR G R544) [(0, .ref (G.2.2 6 0)), (1, .int which), (2, .int byi), (3, .int y1), (4, .int w15), (5, .int k5_337), (6, .int w373)] 231 [] := by
          intro hK
          have hE := e596
          unfold mX5_layer_S231 at hE
          refine zi_iload_n (pc := 231) F dX5_layer_231 1 rfl ?_
          refine zi_iconst (pc := 232) (v := 5) F dX5_layer_232 rfl ?_
          refine zi_icmp_ne (pc := 233) (tgt := 269) F dX5_layer_233 (by decide) (fun c622 => ?_) (fun c622 => ?_)
          · have hE := zite_f hE c622
            have t623 := zt_ne c622
            subst hE
            exact zi_sub [0, 1, 2, 3, 4, 5, 6] rfl hK
          · have hE := zite_t hE c622
            have t624 := congrArg Int32.toInt c622
            refine zi_iload (pc := 236) F dX5_layer_236 6 rfl ?_
            refine zi_if_eq (pc := 238) (tgt := 269) F dX5_layer_238 (by decide) (fun c625 => ?_) (fun c625 => ?_)
            · have hE := zite_t hE c625
              have t626 := congrArg Int32.toInt c625
              subst hE
              exact zi_sub [0, 1, 2, 3, 4, 5, 6] rfl hK
            · have hE := zite_f hE c625
              have t627 := zt_ne c625
              refine zi_iload_n (pc := 241) F dX5_layer_241 3 rfl ?_
              refine zi_bipush (pc := 242) (v := 8) F dX5_layer_242 rfl ?_
              refine zi_icmp_ne (pc := 244) (tgt := 269) F dX5_layer_244 (by decide) (fun c628 => ?_) (fun c628 => ?_)
              · have hE := zite_f hE c628
                have t629 := zt_ne c628
                subst hE
                exact zi_sub [0, 1, 2, 3, 4, 5, 6] rfl hK
              · have hE := zite_t hE c628
                have t630 := congrArg Int32.toInt c628
                refine zi_aload_n (pc := 247) F dX5_layer_247 0 rfl ?_
                refine zi_get (pc := 248) (C := RX5) (T := TX5) (N := 27) (v := .ref (G.2.2 6 15)) F (hw_X5_layer_X5) 0 rfl rfl 22 (by decide) (List.mem_of_getElem? (i := 9) rfl) rfl rfl dX5_layer_248 ?_
                refine zi_iload (pc := 251) F dX5_layer_251 5 rfl ?_
                refine zi_iald (pc := 253) (v := (R544 22 k5_337.toNatClampNeg)) F 15 0 rfl rfl (zin (a := k5_337) (by omega) (by omega)) rfl dX5_layer_253 ?_
                refine zi_iconst (pc := 254) (v := 3) F dX5_layer_254 rfl ?_
                refine zi_icmp_lt (pc := 255) (tgt := 269) F dX5_layer_255 (by decide) (fun c631 => ?_) (fun c631 => ?_)
                · have hE := zite_t hE c631
                  have t632 := zt_lt c631
                  subst hE
                  exact zi_sub [0, 1, 2, 3, 4, 5, 6] rfl hK
                · have hE := zite_f hE c631
                  have t633 := zt_nlt c631
                  refine zi_aload_n (pc := 258) F dX5_layer_258 0 rfl ?_
                  refine zi_get (pc := 259) (C := RX5) (T := TX5) (N := 27) (v := .ref (G.2.2 6 13)) F (hw_X5_layer_X5) 0 rfl rfl 20 (by decide) (List.mem_of_getElem? (i := 8) rfl) rfl rfl dX5_layer_259 ?_
                  refine zi_iload (pc := 262) F dX5_layer_262 5 rfl ?_
                  refine zi_dup2 (pc := 264) F dX5_layer_264 rfl rfl ?_
                  refine zi_iald (pc := 265) (v := (R544 20 k5_337.toNatClampNeg)) F 13 0 rfl rfl (zin (a := k5_337) (by omega) (by omega)) rfl dX5_layer_265 ?_
                  refine zi_iconst (pc := 266) (v := 2) F dX5_layer_266 rfl ?_
                  refine zi_imul (pc := 267) F dX5_layer_267 ?_
                  refine zi_iast (pc := 268) (ws' := zWR G (zsF R544 20 (upd (R544 20) k5_337.toNatClampNeg ((R544 20 k5_337.toNatClampNeg) * 2)))) F 13 0 rfl rfl (zin (a := k5_337) (by omega) (by omega)) rfl dX5_layer_268 ?_
                  subst hE
                  exact zi_sub [0, 1, 2, 3, 4, 5, 6] rfl hK
        refine hK621 ?_
        try have t636 := zt_add (a := k5_337) (b := 1) (by omega) (by omega)
        obtain ⟨y634, e635⟩ : ∃ z : Int32, (k5_337 + 1) = z := ⟨_, rfl⟩
        have hE := zbnd_cut hE e635
        have t637 := congrArg Int32.toInt e635
        refine zi_iinc (pc := 269) (lv' := [(0, .ref (G.2.2 6 0)), (1, .int which), (2, .int byi), (3, .int y1), (4, .int w15), (5, .int y634), (6, .int w373)]) F dX5_layer_269 5 rfl e635 (by decide) rfl ?_
        refine zi_goto (pc := 272) (tgt := 55) F dX5_layer_272 (by decide) ?_
        refine zi_sub [0, 1, 2, 3, 4, 5] rfl ?_
        exact ih y634 R595 (⟨by (show 0 ≤ Int32.toInt y634; omega), by (show Int32.toInt y634 ≤ 10; omega), by (show Int32.toInt (R595 6 0) = Int32.toInt (R 6 0); omega), hIR595⟩) (by omega) _ hE hK
  obtain ⟨⟨k5_638, R639⟩, e640⟩ : ∃ z, mX5_layer_L55 which byi y1 11 0 R45 = z := ⟨_, rfl⟩
  have hE := zbnd2_cut hE e640
  refine hL55 11 0 R45 (⟨by (show 0 ≤ Int32.toInt 0; omega), by (show Int32.toInt 0 ≤ 10; omega), by (show Int32.toInt (R45 6 0) = Int32.toInt (R 6 0); omega), hIR45⟩) (by omega) _ e640 (fun hI641 => ?_)
  have hI641 : (0 ≤ Int32.toInt k5_638) ∧ (Int32.toInt k5_638 ≤ 10) ∧ (Int32.toInt (R639 6 0) = Int32.toInt (R 6 0)) ∧ (zIR R639) := hI641
  obtain ⟨i642, i643, i644, hIR639⟩ := id hI641
  obtain ⟨⟨i645, i646⟩, ⟨i647, i648⟩, ⟨i649, i650⟩, ⟨i651, i652⟩, ⟨i653, i654⟩, hIR639_b14, hIR639_p15⟩ := id hIR639
  show zW p l e rmX5_layer s m args below meth c 0 0 Q G.1 A 7 (zWR G R639) [(0, .ref (G.2.2 6 0)), (1, .int which), (2, .int byi), (3, .int y1), (4, .int w15), (5, .int k5_638)] 275 []
  subst hE
  exact hret _ _ dX5_layer_275
/-! X5_lays -/
def mX5_lays_L2  : Nat → Int32 → zS_t → Int32 × zS_t
  | 0, k2_64, R65 => (k2_64, R65)
  | n66 + 1, k2_64, R65 => if (R65 6 0) ≤ k2_64 then (k2_64, R65) else (if (R65 7 k2_64.toNatClampNeg) = 0 then (if (R65 7 k2_64.toNatClampNeg) = 0 then (zbnd ((k2_64 + 1)) (fun y153 => mX5_lays_L2  n66 y153 (zsF (zsF (zsF R65 18 (upd (R65 18) k2_64.toNatClampNeg (R65 8 k2_64.toNatClampNeg))) 19 (upd (R65 19) k2_64.toNatClampNeg 1)) 20 (upd (R65 20) k2_64.toNatClampNeg 2)))) else (if (R65 7 k2_64.toNatClampNeg) = 1 then (zbnd ((k2_64 + 1)) (fun y148 => mX5_lays_L2  n66 y148 (zsF (zsF (zsF R65 18 (upd (R65 18) k2_64.toNatClampNeg (R65 8 k2_64.toNatClampNeg))) 19 (upd (R65 19) k2_64.toNatClampNeg 1)) 20 (upd (R65 20) k2_64.toNatClampNeg 1)))) else (zbnd ((k2_64 + 1)) (fun y143 => mX5_lays_L2  n66 y143 (zsF (zsF (zsF R65 18 (upd (R65 18) k2_64.toNatClampNeg (R65 8 k2_64.toNatClampNeg))) 19 (upd (R65 19) k2_64.toNatClampNeg 1)) 20 (upd (R65 20) k2_64.toNatClampNeg 0)))))) else (if (R65 7 k2_64.toNatClampNeg) = 1 then (if (R65 7 k2_64.toNatClampNeg) = 0 then (zbnd ((k2_64 + 1)) (fun y134 => mX5_lays_L2  n66 y134 (zsF (zsF (zsF R65 18 (upd (R65 18) k2_64.toNatClampNeg (R65 8 k2_64.toNatClampNeg))) 19 (upd (R65 19) k2_64.toNatClampNeg 2)) 20 (upd (R65 20) k2_64.toNatClampNeg 2)))) else (if (R65 7 k2_64.toNatClampNeg) = 1 then (zbnd ((k2_64 + 1)) (fun y129 => mX5_lays_L2  n66 y129 (zsF (zsF (zsF R65 18 (upd (R65 18) k2_64.toNatClampNeg (R65 8 k2_64.toNatClampNeg))) 19 (upd (R65 19) k2_64.toNatClampNeg 2)) 20 (upd (R65 20) k2_64.toNatClampNeg 1)))) else (zbnd ((k2_64 + 1)) (fun y124 => mX5_lays_L2  n66 y124 (zsF (zsF (zsF R65 18 (upd (R65 18) k2_64.toNatClampNeg (R65 8 k2_64.toNatClampNeg))) 19 (upd (R65 19) k2_64.toNatClampNeg 2)) 20 (upd (R65 20) k2_64.toNatClampNeg 0)))))) else (if (R65 7 k2_64.toNatClampNeg) = 0 then (zbnd ((k2_64 + 1)) (fun y115 => mX5_lays_L2  n66 y115 (zsF (zsF (zsF R65 18 (upd (R65 18) k2_64.toNatClampNeg (R65 8 k2_64.toNatClampNeg))) 19 (upd (R65 19) k2_64.toNatClampNeg 4)) 20 (upd (R65 20) k2_64.toNatClampNeg 2)))) else (if (R65 7 k2_64.toNatClampNeg) = 1 then (zbnd ((k2_64 + 1)) (fun y110 => mX5_lays_L2  n66 y110 (zsF (zsF (zsF R65 18 (upd (R65 18) k2_64.toNatClampNeg (R65 8 k2_64.toNatClampNeg))) 19 (upd (R65 19) k2_64.toNatClampNeg 4)) 20 (upd (R65 20) k2_64.toNatClampNeg 1)))) else (zbnd ((k2_64 + 1)) (fun y105 => mX5_lays_L2  n66 y105 (zsF (zsF (zsF R65 18 (upd (R65 18) k2_64.toNatClampNeg (R65 8 k2_64.toNatClampNeg))) 19 (upd (R65 19) k2_64.toNatClampNeg 4)) 20 (upd (R65 20) k2_64.toNatClampNeg 0))))))))
def mX5_lays_L105  : Nat → Int32 → zS_t → Int32 × zS_t
  | 0, k3_373, R374 => (k3_373, R374)
  | n375 + 1, k3_373, R374 => if (R374 6 0) ≤ k3_373 then (k3_373, R374) else (zbnd ((k3_373 + 1)) (fun y406 => mX5_lays_L105  n375 y406 (zsF (zsF R374 21 (upd (R374 21) k3_373.toNatClampNeg (R374 19 k3_373.toNatClampNeg))) 22 (upd (R374 22) k3_373.toNatClampNeg (R374 20 k3_373.toNatClampNeg)))))
def mX5_lays_L145 (k2_333 : Int32) : Nat → Int32 → zS_t → Int32 × zS_t
  | 0, k3_449, R450 => (k3_449, R450)
  | n451 + 1, k3_449, R450 => if (R450 6 0) ≤ k3_449 then (k3_449, R450) else (zbnd (mX5_layer k2_333 k3_449 R450) (fun R482 => zbnd ((k3_449 + 1)) (fun y497 => mX5_lays_L145 k2_333 n451 y497 R482)))
def mX5_lays_L98 (layers : Int32) : Nat → Int32 → zS_t → Int32 × zS_t
  | 0, k2_333, R334 => (k2_333, R334)
  | n335 + 1, k2_333, R334 => if layers < k2_333 then (k2_333, R334) else (zbnd2 (mX5_lays_L105  11 0 R334) (fun k3_410 R411 => zbnd2 (mX5_lays_L145 k2_333 11 0 R411) (fun k3_501 R502 => zbnd ((k2_333 + 1)) (fun y518 => mX5_lays_L98 layers n335 y518 R502))))
def mX5_lays (layers : Int32) (R : zS_t) : zS_t := zbnd2 (mX5_lays_L2  11 0 R) (fun k2_157 R158 => zbnd2 (mX5_lays_L98 layers 7 1 R158) (fun k2_522 R523 => R523))
set_option maxHeartbeats 4000000 in
set_option maxRecDepth 100000 in
theorem pp_X5_lays (layers : Int32) (R : zS_t) (hIR : zIR R) (hx0 : Int32.toInt layers ≤ 5) : (zIR (mX5_lays layers R)) ∧ (Int32.toInt ((mX5_lays layers R) 6 0) = Int32.toInt (R 6 0)) := by
  obtain ⟨X, hE⟩ : ∃ z, mX5_lays layers R = z := ⟨_, rfl⟩
  rw [hE]
  have k_0 : Int32.toInt 0 = 0 := by decide
  have k_1 : Int32.toInt 1 = 1 := by decide
  have k_2 : Int32.toInt 2 = 2 := by decide
  have k_4 : Int32.toInt 4 = 4 := by decide
  obtain ⟨⟨i539, i540⟩, ⟨i541, i542⟩, ⟨i543, i544⟩, ⟨i545, i546⟩, ⟨i547, i548⟩, hIR_b14, hIR_p15⟩ := id hIR
  unfold mX5_lays at hE
  have hL2 : ∀ (n66 : Nat) (k2_64 : Int32) (R65 : zS_t), (0 ≤ Int32.toInt k2_64) ∧ (Int32.toInt k2_64 ≤ 10) ∧ (Int32.toInt (R65 6 0) = Int32.toInt (R 6 0)) ∧ (zIR R65) → 11 - Int32.toInt k2_64 ≤ (n66 : Int) → ∀ Y67, mX5_lays_L2  n66 k2_64 R65 = Y67 → (0 ≤ Int32.toInt Y67.1) ∧ (Int32.toInt Y67.1 ≤ 10) ∧ (Int32.toInt ((Y67.2) 6 0) = Int32.toInt (R 6 0)) ∧ (zIR (Y67.2)) := by
    intro n66
    induction n66 with
    | zero =>
      intro k2_64 R65 hI hM9
      obtain ⟨i68, i69, i70, hIR65⟩ := id hI
      obtain ⟨⟨i71, i72⟩, ⟨i73, i74⟩, ⟨i75, i76⟩, ⟨i77, i78⟩, ⟨i79, i80⟩, hIR65_b14, hIR65_p15⟩ := id hIR65
      exact absurd hM9 (by omega)
    | succ n66 ih =>
      intro k2_64 R65 hI hM9 Y67 hE
      obtain ⟨i81, i82, i83, hIR65⟩ := id hI
      obtain ⟨⟨i84, i85⟩, ⟨i86, i87⟩, ⟨i88, i89⟩, ⟨i90, i91⟩, ⟨i92, i93⟩, hIR65_b14, hIR65_p15⟩ := id hIR65
      rw [mX5_lays_L2.eq_2] at hE
      by_cases c94 : (R65 6 0) ≤ k2_64
      · have hE := zite_t hE c94
        have t95 := zt_le c94
        subst hE
        exact ⟨by (show 0 ≤ Int32.toInt k2_64; omega), by (show Int32.toInt k2_64 ≤ 10; omega), by (show Int32.toInt (R65 6 0) = Int32.toInt (R 6 0); omega), hIR65⟩
      · have hE := zite_f hE c94
        have t96 := zt_nle c94
        by_cases c97 : (R65 7 k2_64.toNatClampNeg) = 0
        · have hE := zite_t hE c97
          have t98 := congrArg Int32.toInt c97
          by_cases c99 : (R65 7 k2_64.toNatClampNeg) = 0
          · have hE := zite_t hE c99
            have t100 := congrArg Int32.toInt c99
            try have t103 := zt_add (a := k2_64) (b := 1) (by omega) (by omega)
            obtain ⟨y101, e102⟩ : ∃ z : Int32, (k2_64 + 1) = z := ⟨_, rfl⟩
            have hE := zbnd_cut hE e102
            have t104 := congrArg Int32.toInt e102
            exact ih y101 (zsF (zsF (zsF R65 18 (upd (R65 18) k2_64.toNatClampNeg (R65 8 k2_64.toNatClampNeg))) 19 (upd (R65 19) k2_64.toNatClampNeg 1)) 20 (upd (R65 20) k2_64.toNatClampNeg 2)) (⟨by (show 0 ≤ Int32.toInt y101; omega), by (show Int32.toInt y101 ≤ 10; omega), by (show Int32.toInt (R65 6 0) = Int32.toInt (R 6 0); omega), hIR65⟩) (by omega) _ hE
          · have hE := zite_f hE c99
            have t105 := zt_ne c99
            by_cases c106 : (R65 7 k2_64.toNatClampNeg) = 1
            · have hE := zite_t hE c106
              have t107 := congrArg Int32.toInt c106
              try have t110 := zt_add (a := k2_64) (b := 1) (by omega) (by omega)
              obtain ⟨y108, e109⟩ : ∃ z : Int32, (k2_64 + 1) = z := ⟨_, rfl⟩
              have hE := zbnd_cut hE e109
              have t111 := congrArg Int32.toInt e109
              exact ih y108 (zsF (zsF (zsF R65 18 (upd (R65 18) k2_64.toNatClampNeg (R65 8 k2_64.toNatClampNeg))) 19 (upd (R65 19) k2_64.toNatClampNeg 1)) 20 (upd (R65 20) k2_64.toNatClampNeg 1)) (⟨by (show 0 ≤ Int32.toInt y108; omega), by (show Int32.toInt y108 ≤ 10; omega), by (show Int32.toInt (R65 6 0) = Int32.toInt (R 6 0); omega), hIR65⟩) (by omega) _ hE
            · have hE := zite_f hE c106
              have t112 := zt_ne c106
              try have t115 := zt_add (a := k2_64) (b := 1) (by omega) (by omega)
              obtain ⟨y113, e114⟩ : ∃ z : Int32, (k2_64 + 1) = z := ⟨_, rfl⟩
              have hE := zbnd_cut hE e114
              have t116 := congrArg Int32.toInt e114
              exact ih y113 (zsF (zsF (zsF R65 18 (upd (R65 18) k2_64.toNatClampNeg (R65 8 k2_64.toNatClampNeg))) 19 (upd (R65 19) k2_64.toNatClampNeg 1)) 20 (upd (R65 20) k2_64.toNatClampNeg 0)) (⟨by (show 0 ≤ Int32.toInt y113; omega), by (show Int32.toInt y113 ≤ 10; omega), by (show Int32.toInt (R65 6 0) = Int32.toInt (R 6 0); omega), hIR65⟩) (by omega) _ hE
        · have hE := zite_f hE c97
          have t117 := zt_ne c97
          by_cases c118 : (R65 7 k2_64.toNatClampNeg) = 1
          · have hE := zite_t hE c118
            have t119 := congrArg Int32.toInt c118
            by_cases c120 : (R65 7 k2_64.toNatClampNeg) = 0
            · have hE := zite_t hE c120
              have t121 := congrArg Int32.toInt c120
              try have t124 := zt_add (a := k2_64) (b := 1) (by omega) (by omega)
              obtain ⟨y122, e123⟩ : ∃ z : Int32, (k2_64 + 1) = z := ⟨_, rfl⟩
              have hE := zbnd_cut hE e123
              have t125 := congrArg Int32.toInt e123
              exact ih y122 (zsF (zsF (zsF R65 18 (upd (R65 18) k2_64.toNatClampNeg (R65 8 k2_64.toNatClampNeg))) 19 (upd (R65 19) k2_64.toNatClampNeg 2)) 20 (upd (R65 20) k2_64.toNatClampNeg 2)) (⟨by (show 0 ≤ Int32.toInt y122; omega), by (show Int32.toInt y122 ≤ 10; omega), by (show Int32.toInt (R65 6 0) = Int32.toInt (R 6 0); omega), hIR65⟩) (by omega) _ hE
            · have hE := zite_f hE c120
              have t126 := zt_ne c120
              by_cases c127 : (R65 7 k2_64.toNatClampNeg) = 1
              · have hE := zite_t hE c127
                have t128 := congrArg Int32.toInt c127
                try have t131 := zt_add (a := k2_64) (b := 1) (by omega) (by omega)
                obtain ⟨y129, e130⟩ : ∃ z : Int32, (k2_64 + 1) = z := ⟨_, rfl⟩
                have hE := zbnd_cut hE e130
                have t132 := congrArg Int32.toInt e130
                exact ih y129 (zsF (zsF (zsF R65 18 (upd (R65 18) k2_64.toNatClampNeg (R65 8 k2_64.toNatClampNeg))) 19 (upd (R65 19) k2_64.toNatClampNeg 2)) 20 (upd (R65 20) k2_64.toNatClampNeg 1)) (⟨by (show 0 ≤ Int32.toInt y129; omega), by (show Int32.toInt y129 ≤ 10; omega), by (show Int32.toInt (R65 6 0) = Int32.toInt (R 6 0); omega), hIR65⟩) (by omega) _ hE
              · have hE := zite_f hE c127
                have t133 := zt_ne c127
                try have t136 := zt_add (a := k2_64) (b := 1) (by omega) (by omega)
                obtain ⟨y134, e135⟩ : ∃ z : Int32, (k2_64 + 1) = z := ⟨_, rfl⟩
                have hE := zbnd_cut hE e135
                have t137 := congrArg Int32.toInt e135
                exact ih y134 (zsF (zsF (zsF R65 18 (upd (R65 18) k2_64.toNatClampNeg (R65 8 k2_64.toNatClampNeg))) 19 (upd (R65 19) k2_64.toNatClampNeg 2)) 20 (upd (R65 20) k2_64.toNatClampNeg 0)) (⟨by (show 0 ≤ Int32.toInt y134; omega), by (show Int32.toInt y134 ≤ 10; omega), by (show Int32.toInt (R65 6 0) = Int32.toInt (R 6 0); omega), hIR65⟩) (by omega) _ hE
          · have hE := zite_f hE c118
            have t138 := zt_ne c118
            by_cases c139 : (R65 7 k2_64.toNatClampNeg) = 0
            · have hE := zite_t hE c139
              have t140 := congrArg Int32.toInt c139
              try have t143 := zt_add (a := k2_64) (b := 1) (by omega) (by omega)
              obtain ⟨y141, e142⟩ : ∃ z : Int32, (k2_64 + 1) = z := ⟨_, rfl⟩
              have hE := zbnd_cut hE e142
              have t144 := congrArg Int32.toInt e142
              exact ih y141 (zsF (zsF (zsF R65 18 (upd (R65 18) k2_64.toNatClampNeg (R65 8 k2_64.toNatClampNeg))) 19 (upd (R65 19) k2_64.toNatClampNeg 4)) 20 (upd (R65 20) k2_64.toNatClampNeg 2)) (⟨by (show 0 ≤ Int32.toInt y141; omega), by (show Int32.toInt y141 ≤ 10; omega), by (show Int32.toInt (R65 6 0) = Int32.toInt (R 6 0); omega), hIR65⟩) (by omega) _ hE
            · have hE := zite_f hE c139
              have t145 := zt_ne c139
              by_cases c146 : (R65 7 k2_64.toNatClampNeg) = 1
              · have hE := zite_t hE c146
                have t147 := congrArg Int32.toInt c146
                try have t150 := zt_add (a := k2_64) (b := 1) (by omega) (by omega)
                obtain ⟨y148, e149⟩ : ∃ z : Int32, (k2_64 + 1) = z := ⟨_, rfl⟩
                have hE := zbnd_cut hE e149
                have t151 := congrArg Int32.toInt e149
                exact ih y148 (zsF (zsF (zsF R65 18 (upd (R65 18) k2_64.toNatClampNeg (R65 8 k2_64.toNatClampNeg))) 19 (upd (R65 19) k2_64.toNatClampNeg 4)) 20 (upd (R65 20) k2_64.toNatClampNeg 1)) (⟨by (show 0 ≤ Int32.toInt y148; omega), by (show Int32.toInt y148 ≤ 10; omega), by (show Int32.toInt (R65 6 0) = Int32.toInt (R 6 0); omega), hIR65⟩) (by omega) _ hE
              · have hE := zite_f hE c146
                have t152 := zt_ne c146
                try have t155 := zt_add (a := k2_64) (b := 1) (by omega) (by omega)
                obtain ⟨y153, e154⟩ : ∃ z : Int32, (k2_64 + 1) = z := ⟨_, rfl⟩
                have hE := zbnd_cut hE e154
                have t156 := congrArg Int32.toInt e154
                exact ih y153 (zsF (zsF (zsF R65 18 (upd (R65 18) k2_64.toNatClampNeg (R65 8 k2_64.toNatClampNeg))) 19 (upd (R65 19) k2_64.toNatClampNeg 4)) 20 (upd (R65 20) k2_64.toNatClampNeg 0)) (⟨by (show 0 ≤ Int32.toInt y153; omega), by (show Int32.toInt y153 ≤ 10; omega), by (show Int32.toInt (R65 6 0) = Int32.toInt (R 6 0); omega), hIR65⟩) (by omega) _ hE
  obtain ⟨⟨k2_157, R158⟩, e159⟩ : ∃ z, mX5_lays_L2  11 0 R = z := ⟨_, rfl⟩
  have hE := zbnd2_cut hE e159
  have hI160 := hL2 11 0 R (⟨by (show 0 ≤ Int32.toInt 0; omega), by (show Int32.toInt 0 ≤ 10; omega), by (show Int32.toInt (R 6 0) = Int32.toInt (R 6 0); omega), hIR⟩) (by omega) _ e159
  have hI160 : (0 ≤ Int32.toInt k2_157) ∧ (Int32.toInt k2_157 ≤ 10) ∧ (Int32.toInt (R158 6 0) = Int32.toInt (R 6 0)) ∧ (zIR R158) := hI160
  obtain ⟨i161, i162, i163, hIR158⟩ := id hI160
  obtain ⟨⟨i164, i165⟩, ⟨i166, i167⟩, ⟨i168, i169⟩, ⟨i170, i171⟩, ⟨i172, i173⟩, hIR158_b14, hIR158_p15⟩ := id hIR158
  have hL98 : ∀ (n335 : Nat) (k2_333 : Int32) (R334 : zS_t), (0 ≤ Int32.toInt k2_333) ∧ (Int32.toInt k2_333 ≤ 6) ∧ (Int32.toInt (R334 6 0) = Int32.toInt (R 6 0)) ∧ (zIR R334) → 7 - Int32.toInt k2_333 ≤ (n335 : Int) → ∀ Y336, mX5_lays_L98 layers n335 k2_333 R334 = Y336 → (0 ≤ Int32.toInt Y336.1) ∧ (Int32.toInt Y336.1 ≤ 6) ∧ (Int32.toInt ((Y336.2) 6 0) = Int32.toInt (R 6 0)) ∧ (zIR (Y336.2)) := by
    intro n335
    induction n335 with
    | zero =>
      intro k2_333 R334 hI hM9
      obtain ⟨i337, i338, i339, hIR334⟩ := id hI
      obtain ⟨⟨i340, i341⟩, ⟨i342, i343⟩, ⟨i344, i345⟩, ⟨i346, i347⟩, ⟨i348, i349⟩, hIR334_b14, hIR334_p15⟩ := id hIR334
      exact absurd hM9 (by omega)
    | succ n335 ih =>
      intro k2_333 R334 hI hM9 Y336 hE
      obtain ⟨i350, i351, i352, hIR334⟩ := id hI
      obtain ⟨⟨i353, i354⟩, ⟨i355, i356⟩, ⟨i357, i358⟩, ⟨i359, i360⟩, ⟨i361, i362⟩, hIR334_b14, hIR334_p15⟩ := id hIR334
      rw [mX5_lays_L98.eq_2] at hE
      by_cases c363 : layers < k2_333
      · have hE := zite_t hE c363
        have t364 := zt_lt c363
        subst hE
        exact ⟨by (show 0 ≤ Int32.toInt k2_333; omega), by (show Int32.toInt k2_333 ≤ 6; omega), by (show Int32.toInt (R334 6 0) = Int32.toInt (R 6 0); omega), hIR334⟩
      · have hE := zite_f hE c363
        have t365 := zt_nlt c363
        have hL105 : ∀ (n375 : Nat) (k3_373 : Int32) (R374 : zS_t), (0 ≤ Int32.toInt k3_373) ∧ (Int32.toInt k3_373 ≤ 10) ∧ (Int32.toInt (R374 6 0) = Int32.toInt (R 6 0)) ∧ (zIR R374) → 11 - Int32.toInt k3_373 ≤ (n375 : Int) → ∀ Y376, mX5_lays_L105  n375 k3_373 R374 = Y376 → (0 ≤ Int32.toInt Y376.1) ∧ (Int32.toInt Y376.1 ≤ 10) ∧ (Int32.toInt ((Y376.2) 6 0) = Int32.toInt (R 6 0)) ∧ (zIR (Y376.2)) := by
          intro n375
          induction n375 with
          | zero =>
            intro k3_373 R374 hI hM9
            obtain ⟨i377, i378, i379, hIR374⟩ := id hI
            obtain ⟨⟨i380, i381⟩, ⟨i382, i383⟩, ⟨i384, i385⟩, ⟨i386, i387⟩, ⟨i388, i389⟩, hIR374_b14, hIR374_p15⟩ := id hIR374
            exact absurd hM9 (by omega)
          | succ n375 ih =>
            intro k3_373 R374 hI hM9 Y376 hE
            obtain ⟨i390, i391, i392, hIR374⟩ := id hI
            obtain ⟨⟨i393, i394⟩, ⟨i395, i396⟩, ⟨i397, i398⟩, ⟨i399, i400⟩, ⟨i401, i402⟩, hIR374_b14, hIR374_p15⟩ := id hIR374
            rw [mX5_lays_L105.eq_2] at hE
            by_cases c403 : (R374 6 0) ≤ k3_373
            · have hE := zite_t hE c403
              have t404 := zt_le c403
              subst hE
              exact ⟨by (show 0 ≤ Int32.toInt k3_373; omega), by (show Int32.toInt k3_373 ≤ 10; omega), by (show Int32.toInt (R374 6 0) = Int32.toInt (R 6 0); omega), hIR374⟩
            · have hE := zite_f hE c403
              have t405 := zt_nle c403
              try have t408 := zt_add (a := k3_373) (b := 1) (by omega) (by omega)
              obtain ⟨y406, e407⟩ : ∃ z : Int32, (k3_373 + 1) = z := ⟨_, rfl⟩
              have hE := zbnd_cut hE e407
              have t409 := congrArg Int32.toInt e407
              exact ih y406 (zsF (zsF R374 21 (upd (R374 21) k3_373.toNatClampNeg (R374 19 k3_373.toNatClampNeg))) 22 (upd (R374 22) k3_373.toNatClampNeg (R374 20 k3_373.toNatClampNeg))) (⟨by (show 0 ≤ Int32.toInt y406; omega), by (show Int32.toInt y406 ≤ 10; omega), by (show Int32.toInt (R374 6 0) = Int32.toInt (R 6 0); omega), hIR374⟩) (by omega) _ hE
        obtain ⟨⟨k3_410, R411⟩, e412⟩ : ∃ z, mX5_lays_L105  11 0 R334 = z := ⟨_, rfl⟩
        have hE := zbnd2_cut hE e412
        have hI413 := hL105 11 0 R334 (⟨by (show 0 ≤ Int32.toInt 0; omega), by (show Int32.toInt 0 ≤ 10; omega), by (show Int32.toInt (R334 6 0) = Int32.toInt (R 6 0); omega), hIR334⟩) (by omega) _ e412
        have hI413 : (0 ≤ Int32.toInt k3_410) ∧ (Int32.toInt k3_410 ≤ 10) ∧ (Int32.toInt (R411 6 0) = Int32.toInt (R 6 0)) ∧ (zIR R411) := hI413
        obtain ⟨i414, i415, i416, hIR411⟩ := id hI413
        obtain ⟨⟨i417, i418⟩, ⟨i419, i420⟩, ⟨i421, i422⟩, ⟨i423, i424⟩, ⟨i425, i426⟩, hIR411_b14, hIR411_p15⟩ := id hIR411
        have hL145 : ∀ (n451 : Nat) (k3_449 : Int32) (R450 : zS_t), (0 ≤ Int32.toInt k3_449) ∧ (Int32.toInt k3_449 ≤ 10) ∧ (Int32.toInt (R450 6 0) = Int32.toInt (R 6 0)) ∧ (zIR R450) → 11 - Int32.toInt k3_449 ≤ (n451 : Int) → ∀ Y452, mX5_lays_L145 k2_333 n451 k3_449 R450 = Y452 → (0 ≤ Int32.toInt Y452.1) ∧ (Int32.toInt Y452.1 ≤ 10) ∧ (Int32.toInt ((Y452.2) 6 0) = Int32.toInt (R 6 0)) ∧ (zIR (Y452.2)) := by
          intro n451
          induction n451 with
          | zero =>
            intro k3_449 R450 hI hM9
            obtain ⟨i453, i454, i455, hIR450⟩ := id hI
            obtain ⟨⟨i456, i457⟩, ⟨i458, i459⟩, ⟨i460, i461⟩, ⟨i462, i463⟩, ⟨i464, i465⟩, hIR450_b14, hIR450_p15⟩ := id hIR450
            exact absurd hM9 (by omega)
          | succ n451 ih =>
            intro k3_449 R450 hI hM9 Y452 hE
            obtain ⟨i466, i467, i468, hIR450⟩ := id hI
            obtain ⟨⟨i469, i470⟩, ⟨i471, i472⟩, ⟨i473, i474⟩, ⟨i475, i476⟩, ⟨i477, i478⟩, hIR450_b14, hIR450_p15⟩ := id hIR450
            rw [mX5_lays_L145.eq_2] at hE
            by_cases c479 : (R450 6 0) ≤ k3_449
            · have hE := zite_t hE c479
              have t480 := zt_le c479
              subst hE
              exact ⟨by (show 0 ≤ Int32.toInt k3_449; omega), by (show Int32.toInt k3_449 ≤ 10; omega), by (show Int32.toInt (R450 6 0) = Int32.toInt (R 6 0); omega), hIR450⟩
            · have hE := zite_f hE c479
              have t481 := zt_nle c479
              have pp485 := pp_X5_layer k2_333 k3_449 R450 (hIR450) (by first | omega | (show 0 ≤ Int32.toInt k3_449 ∧ Int32.toInt k3_449 < 10; omega))
              obtain ⟨R482, e483⟩ : ∃ z, mX5_layer k2_333 k3_449 R450 = z := ⟨_, rfl⟩
              have hE := zbnd_cut hE e483
              rw [e483] at pp485
              obtain ⟨hIR482, q486⟩ := pp485
              obtain ⟨⟨i487, i488⟩, ⟨i489, i490⟩, ⟨i491, i492⟩, ⟨i493, i494⟩, ⟨i495, i496⟩, hIR482_b14, hIR482_p15⟩ := id hIR482
              try have t499 := zt_add (a := k3_449) (b := 1) (by omega) (by omega)
              obtain ⟨y497, e498⟩ : ∃ z : Int32, (k3_449 + 1) = z := ⟨_, rfl⟩
              have hE := zbnd_cut hE e498
              have t500 := congrArg Int32.toInt e498
              exact ih y497 R482 (⟨by (show 0 ≤ Int32.toInt y497; omega), by (show Int32.toInt y497 ≤ 10; omega), by (show Int32.toInt (R482 6 0) = Int32.toInt (R 6 0); omega), hIR482⟩) (by omega) _ hE
        obtain ⟨⟨k3_501, R502⟩, e503⟩ : ∃ z, mX5_lays_L145 k2_333 11 0 R411 = z := ⟨_, rfl⟩
        have hE := zbnd2_cut hE e503
        have hI504 := hL145 11 0 R411 (⟨by (show 0 ≤ Int32.toInt 0; omega), by (show Int32.toInt 0 ≤ 10; omega), by (show Int32.toInt (R411 6 0) = Int32.toInt (R 6 0); omega), hIR411⟩) (by omega) _ e503
        have hI504 : (0 ≤ Int32.toInt k3_501) ∧ (Int32.toInt k3_501 ≤ 10) ∧ (Int32.toInt (R502 6 0) = Int32.toInt (R 6 0)) ∧ (zIR R502) := hI504
        obtain ⟨i505, i506, i507, hIR502⟩ := id hI504
        obtain ⟨⟨i508, i509⟩, ⟨i510, i511⟩, ⟨i512, i513⟩, ⟨i514, i515⟩, ⟨i516, i517⟩, hIR502_b14, hIR502_p15⟩ := id hIR502
        try have t520 := zt_add (a := k2_333) (b := 1) (by omega) (by omega)
        obtain ⟨y518, e519⟩ : ∃ z : Int32, (k2_333 + 1) = z := ⟨_, rfl⟩
        have hE := zbnd_cut hE e519
        have t521 := congrArg Int32.toInt e519
        exact ih y518 R502 (⟨by (show 0 ≤ Int32.toInt y518; omega), by (show Int32.toInt y518 ≤ 6; omega), by (show Int32.toInt (R502 6 0) = Int32.toInt (R 6 0); omega), hIR502⟩) (by omega) _ hE
  obtain ⟨⟨k2_522, R523⟩, e524⟩ : ∃ z, mX5_lays_L98 layers 7 1 R158 = z := ⟨_, rfl⟩
  have hE := zbnd2_cut hE e524
  have hI525 := hL98 7 1 R158 (⟨by (show 0 ≤ Int32.toInt 1; omega), by (show Int32.toInt 1 ≤ 6; omega), by (show Int32.toInt (R158 6 0) = Int32.toInt (R 6 0); omega), hIR158⟩) (by omega) _ e524
  have hI525 : (0 ≤ Int32.toInt k2_522) ∧ (Int32.toInt k2_522 ≤ 6) ∧ (Int32.toInt (R523 6 0) = Int32.toInt (R 6 0)) ∧ (zIR R523) := hI525
  obtain ⟨i526, i527, i528, hIR523⟩ := id hI525
  obtain ⟨⟨i529, i530⟩, ⟨i531, i532⟩, ⟨i533, i534⟩, ⟨i535, i536⟩, ⟨i537, i538⟩, hIR523_b14, hIR523_p15⟩ := id hIR523
  subst hE
  exact ⟨hIR523, (by first | omega | (show Int32.toInt (R523 6 0) = Int32.toInt (R 6 0); omega) | (show Int32.toInt (R523 6 0) = Int32.toInt (R 6 0); simp))⟩
theorem hw_X5_lays_X5 : ∀ w ∈ wsX50, w ∈ wsX5_lays := fun w h => List.mem_cons_of_mem _ (List.mem_append_right _ (h))
abbrev rmX5_lays : Room := { frames := 2, cells := 0, slots := 0, locals := 49 }
theorem hd_X5_lays : yX5_lays.cls = RX5 ∧ yX5_lays.cls ≠ "java/lang/invoke/MethodHandle" ∧ yX5_lays.cls ≠ "java/lang/invoke/VarHandle" ∧ (parseMethodDescriptor yX5_lays.desc).map (fun d => d.parameters.length) = some 1 := by decide +kernel
set_option maxHeartbeats 4000000 in
set_option maxRecDepth 100000 in
theorem c_X5_lays (l : Launch) (G : zG_t) (layers : Int32) (R : zS_t) (hIR : zIR R) (hx0 : Int32.toInt layers ≤ 5) : zCV l G.1 (zty G) yX5_lays wsX5_lays rmX5_lays [.ref (G.2.2 6 0), .int layers] (zWR G R) (zWR G (mX5_lays layers R)) := by
  obtain ⟨X, hE⟩ : ∃ z, mX5_lays layers R = z := ⟨_, rfl⟩
  rw [hE]
  refine zb_V (cc := cX5_lays) (maxL := 4) (by decide) rfl (Nat.le_of_ble_eq_true rfl) ?_
  intro p e s m args below meth c Q A F hret
  show zW p l e rmX5_lays s m args below meth c 0 0 Q G.1 A 4 (zWR G R) [(0, .ref (G.2.2 6 0)), (1, .int layers)] 0 []
  have k_0 : Int32.toInt 0 = 0 := by decide
  have k_1 : Int32.toInt 1 = 1 := by decide
  have k_2 : Int32.toInt 2 = 2 := by decide
  have k_4 : Int32.toInt 4 = 4 := by decide
  obtain ⟨⟨i549, i550⟩, ⟨i551, i552⟩, ⟨i553, i554⟩, ⟨i555, i556⟩, ⟨i557, i558⟩, hIR_b14, hIR_p15⟩ := id hIR
  unfold mX5_lays at hE
  refine zi_iconst (pc := 0) (v := 0) F dX5_lays_0 rfl ?_
  refine zi_istore_n (pc := 1) (lv' := [(0, .ref (G.2.2 6 0)), (1, .int layers), (2, .int 0)]) F dX5_lays_1 (by decide) rfl ?_
  have hL2 : ∀ (n66 : Nat) (k2_64 : Int32) (R65 : zS_t), (0 ≤ Int32.toInt k2_64) ∧ (Int32.toInt k2_64 ≤ 10) ∧ (Int32.toInt (R65 6 0) = Int32.toInt (R 6 0)) ∧ (zIR R65) → 11 - Int32.toInt k2_64 ≤ (n66 : Int) → ∀ Y67, mX5_lays_L2  n66 k2_64 R65 = Y67 → (((0 ≤ Int32.toInt Y67.1) ∧ (Int32.toInt Y67.1 ≤ 10) ∧ (Int32.toInt ((Y67.2) 6 0) = Int32.toInt (R 6 0)) ∧ (zIR (Y67.2))) → zW p l e rmX5_lays s m args below meth c 0 0 Q G.1 A 4 (zWR G (Y67.2)) [(0, .ref (G.2.2 6 0)), (1, .int layers), (2, .int Y67.1)] 96 []) → zW p l e rmX5_lays s m args below meth c 0 0 Q G.1 A 4 (zWR G R65) [(0, .ref (G.2.2 6 0)), (1, .int layers), (2, .int k2_64)] 2 [] := by
    intro n66
    induction n66 with
    | zero =>
      intro k2_64 R65 hI hM9
      obtain ⟨i68, i69, i70, hIR65⟩ := id hI
      obtain ⟨⟨i71, i72⟩, ⟨i73, i74⟩, ⟨i75, i76⟩, ⟨i77, i78⟩, ⟨i79, i80⟩, hIR65_b14, hIR65_p15⟩ := id hIR65
      exact absurd hM9 (by omega)
    | succ n66 ih =>
      intro k2_64 R65 hI hM9 Y67 hE hK
      obtain ⟨i81, i82, i83, hIR65⟩ := id hI
      obtain ⟨⟨i84, i85⟩, ⟨i86, i87⟩, ⟨i88, i89⟩, ⟨i90, i91⟩, ⟨i92, i93⟩, hIR65_b14, hIR65_p15⟩ := id hIR65
      rw [mX5_lays_L2.eq_2] at hE
      refine zi_iload_n (pc := 2) F dX5_lays_2 2 rfl ?_
      refine zi_aload_n (pc := 3) F dX5_lays_3 0 rfl ?_
      refine zi_get (pc := 4) (C := RX5) (T := TX5) (N := 27) (v := .int (R65 6 0)) F (hw_X5_lays_X5) 0 rfl rfl 6 (by decide) (List.mem_of_getElem? (i := 1) rfl) rfl rfl dX5_lays_4 ?_
      refine zi_icmp_ge (pc := 7) (tgt := 96) F dX5_lays_7 (by decide) (fun c94 => ?_) (fun c94 => ?_)
      · have hE := zite_t hE c94
        have t95 := zt_le c94
        subst hE
        refine zi_sub [0, 1, 2] rfl ?_
        exact hK (⟨by (show 0 ≤ Int32.toInt k2_64; omega), by (show Int32.toInt k2_64 ≤ 10; omega), by (show Int32.toInt (R65 6 0) = Int32.toInt (R 6 0); omega), hIR65⟩)
      · have hE := zite_f hE c94
        have t96 := zt_nle c94
        refine zi_aload_n (pc := 10) F dX5_lays_10 0 rfl ?_
        refine zi_get (pc := 11) (C := RX5) (T := TX5) (N := 27) (v := .ref (G.2.2 6 11)) F (hw_X5_lays_X5) 0 rfl rfl 18 (by decide) (List.mem_of_getElem? (i := 2) rfl) rfl rfl dX5_lays_11 ?_
        refine zi_iload_n (pc := 14) F dX5_lays_14 2 rfl ?_
        refine zi_aload_n (pc := 15) F dX5_lays_15 0 rfl ?_
        refine zi_get (pc := 16) (C := RX5) (T := TX5) (N := 27) (v := .ref (G.2.2 6 3)) F (hw_X5_lays_X5) 0 rfl rfl 8 (by decide) (List.mem_of_getElem? (i := 3) rfl) rfl rfl dX5_lays_16 ?_
        refine zi_iload_n (pc := 19) F dX5_lays_19 2 rfl ?_
        refine zi_iald (pc := 20) (v := (R65 8 k2_64.toNatClampNeg)) F 3 0 rfl rfl (zin (a := k2_64) (by omega) (by omega)) rfl dX5_lays_20 ?_
        refine zi_iast (pc := 21) (ws' := zWR G (zsF R65 18 (upd (R65 18) k2_64.toNatClampNeg (R65 8 k2_64.toNatClampNeg)))) F 11 0 rfl rfl (zin (a := k2_64) (by omega) (by omega)) rfl dX5_lays_21 ?_
        refine zi_aload_n (pc := 22) F dX5_lays_22 0 rfl ?_
        refine zi_get (pc := 23) (C := RX5) (T := TX5) (N := 27) (v := .ref (G.2.2 6 12)) F (hw_X5_lays_X5) 0 rfl rfl 19 (by decide) (List.mem_of_getElem? (i := 4) rfl) rfl rfl dX5_lays_23 ?_
        refine zi_iload_n (pc := 26) F dX5_lays_26 2 rfl ?_
        refine zi_aload_n (pc := 27) F dX5_lays_27 0 rfl ?_
        refine zi_get (pc := 28) (C := RX5) (T := TX5) (N := 27) (v := .ref (G.2.2 6 2)) F (hw_X5_lays_X5) 0 rfl rfl 7 (by decide) (List.mem_of_getElem? (i := 5) rfl) rfl rfl dX5_lays_28 ?_
        refine zi_iload_n (pc := 31) F dX5_lays_31 2 rfl ?_
        refine zi_iald (pc := 32) (v := (R65 7 k2_64.toNatClampNeg)) F 2 0 rfl rfl (zin (a := k2_64) (by omega) (by omega)) rfl dX5_lays_32 ?_
        refine zi_if_ne (pc := 33) (tgt := 40) F dX5_lays_33 (by decide) (fun c97 => ?_) (fun c97 => ?_)
        · have hE := zite_f hE c97
          have t98 := zt_ne c97
          refine zi_aload_n (pc := 40) F dX5_lays_40 0 rfl ?_
          refine zi_get (pc := 41) (C := RX5) (T := TX5) (N := 27) (v := .ref (G.2.2 6 2)) F (hw_X5_lays_X5) 0 rfl rfl 7 (by decide) (List.mem_of_getElem? (i := 5) rfl) rfl rfl dX5_lays_41 ?_
          refine zi_iload_n (pc := 44) F dX5_lays_44 2 rfl ?_
          refine zi_iald (pc := 45) (v := (R65 7 k2_64.toNatClampNeg)) F 2 0 rfl rfl (zin (a := k2_64) (by omega) (by omega)) rfl dX5_lays_45 ?_
          refine zi_iconst (pc := 46) (v := 1) F dX5_lays_46 rfl ?_
          refine zi_icmp_ne (pc := 47) (tgt := 54) F dX5_lays_47 (by decide) (fun c99 => ?_) (fun c99 => ?_)
          · have hE := zite_f hE c99
            have t100 := zt_ne c99
            refine zi_iconst (pc := 54) (v := 4) F dX5_lays_54 rfl ?_
            refine zi_iast (pc := 55) (ws' := zWR G (zsF (zsF R65 18 (upd (R65 18) k2_64.toNatClampNeg (R65 8 k2_64.toNatClampNeg))) 19 (upd (R65 19) k2_64.toNatClampNeg 4))) F 12 0 rfl rfl (zin (a := k2_64) (by omega) (by omega)) rfl dX5_lays_55 ?_
            refine zi_aload_n (pc := 56) F dX5_lays_56 0 rfl ?_
            refine zi_get (pc := 57) (C := RX5) (T := TX5) (N := 27) (v := .ref (G.2.2 6 13)) F (hw_X5_lays_X5) 0 rfl rfl 20 (by decide) (List.mem_of_getElem? (i := 6) rfl) rfl rfl dX5_lays_57 ?_
            refine zi_iload_n (pc := 60) F dX5_lays_60 2 rfl ?_
            refine zi_aload_n (pc := 61) F dX5_lays_61 0 rfl ?_
            refine zi_get (pc := 62) (C := RX5) (T := TX5) (N := 27) (v := .ref (G.2.2 6 2)) F (hw_X5_lays_X5) 0 rfl rfl 7 (by decide) (List.mem_of_getElem? (i := 5) rfl) rfl rfl dX5_lays_62 ?_
            refine zi_iload_n (pc := 65) F dX5_lays_65 2 rfl ?_
            refine zi_iald (pc := 66) (v := (R65 7 k2_64.toNatClampNeg)) F 2 0 rfl rfl (zin (a := k2_64) (by omega) (by omega)) rfl dX5_lays_66 ?_
            refine zi_if_ne (pc := 67) (tgt := 74) F dX5_lays_67 (by decide) (fun c101 => ?_) (fun c101 => ?_)
            · have hE := zite_f hE c101
              have t102 := zt_ne c101
              refine zi_aload_n (pc := 74) F dX5_lays_74 0 rfl ?_
              refine zi_get (pc := 75) (C := RX5) (T := TX5) (N := 27) (v := .ref (G.2.2 6 2)) F (hw_X5_lays_X5) 0 rfl rfl 7 (by decide) (List.mem_of_getElem? (i := 5) rfl) rfl rfl dX5_lays_75 ?_
              refine zi_iload_n (pc := 78) F dX5_lays_78 2 rfl ?_
              refine zi_iald (pc := 79) (v := (R65 7 k2_64.toNatClampNeg)) F 2 0 rfl rfl (zin (a := k2_64) (by omega) (by omega)) rfl dX5_lays_79 ?_
              refine zi_iconst (pc := 80) (v := 1) F dX5_lays_80 rfl ?_
              refine zi_icmp_ne (pc := 81) (tgt := 88) F dX5_lays_81 (by decide) (fun c103 => ?_) (fun c103 => ?_)
              · have hE := zite_f hE c103
                have t104 := zt_ne c103
                refine zi_iconst (pc := 88) (v := 0) F dX5_lays_88 rfl ?_
                refine zi_iast (pc := 89) (ws' := zWR G (zsF (zsF (zsF R65 18 (upd (R65 18) k2_64.toNatClampNeg (R65 8 k2_64.toNatClampNeg))) 19 (upd (R65 19) k2_64.toNatClampNeg 4)) 20 (upd (R65 20) k2_64.toNatClampNeg 0))) F 13 0 rfl rfl (zin (a := k2_64) (by omega) (by omega)) rfl dX5_lays_89 ?_
                try have t107 := zt_add (a := k2_64) (b := 1) (by omega) (by omega)
                obtain ⟨y105, e106⟩ : ∃ z : Int32, (k2_64 + 1) = z := ⟨_, rfl⟩
                have hE := zbnd_cut hE e106
                have t108 := congrArg Int32.toInt e106
                refine zi_iinc (pc := 90) (lv' := [(0, .ref (G.2.2 6 0)), (1, .int layers), (2, .int y105)]) F dX5_lays_90 2 rfl e106 (by decide) rfl ?_
                refine zi_goto (pc := 93) (tgt := 2) F dX5_lays_93 (by decide) ?_
                refine zi_sub [0, 1, 2] rfl ?_
                exact ih y105 (zsF (zsF (zsF R65 18 (upd (R65 18) k2_64.toNatClampNeg (R65 8 k2_64.toNatClampNeg))) 19 (upd (R65 19) k2_64.toNatClampNeg 4)) 20 (upd (R65 20) k2_64.toNatClampNeg 0)) (⟨by (show 0 ≤ Int32.toInt y105; omega), by (show Int32.toInt y105 ≤ 10; omega), by (show Int32.toInt (R65 6 0) = Int32.toInt (R 6 0); omega), hIR65⟩) (by omega) _ hE hK
              · have hE := zite_t hE c103
                have t109 := congrArg Int32.toInt c103
                refine zi_iconst (pc := 84) (v := 1) F dX5_lays_84 rfl ?_
                refine zi_goto (pc := 85) (tgt := 89) F dX5_lays_85 (by decide) ?_
                refine zi_iast (pc := 89) (ws' := zWR G (zsF (zsF (zsF R65 18 (upd (R65 18) k2_64.toNatClampNeg (R65 8 k2_64.toNatClampNeg))) 19 (upd (R65 19) k2_64.toNatClampNeg 4)) 20 (upd (R65 20) k2_64.toNatClampNeg 1))) F 13 0 rfl rfl (zin (a := k2_64) (by omega) (by omega)) rfl dX5_lays_89 ?_
                try have t112 := zt_add (a := k2_64) (b := 1) (by omega) (by omega)
                obtain ⟨y110, e111⟩ : ∃ z : Int32, (k2_64 + 1) = z := ⟨_, rfl⟩
                have hE := zbnd_cut hE e111
                have t113 := congrArg Int32.toInt e111
                refine zi_iinc (pc := 90) (lv' := [(0, .ref (G.2.2 6 0)), (1, .int layers), (2, .int y110)]) F dX5_lays_90 2 rfl e111 (by decide) rfl ?_
                refine zi_goto (pc := 93) (tgt := 2) F dX5_lays_93 (by decide) ?_
                refine zi_sub [0, 1, 2] rfl ?_
                exact ih y110 (zsF (zsF (zsF R65 18 (upd (R65 18) k2_64.toNatClampNeg (R65 8 k2_64.toNatClampNeg))) 19 (upd (R65 19) k2_64.toNatClampNeg 4)) 20 (upd (R65 20) k2_64.toNatClampNeg 1)) (⟨by (show 0 ≤ Int32.toInt y110; omega), by (show Int32.toInt y110 ≤ 10; omega), by (show Int32.toInt (R65 6 0) = Int32.toInt (R 6 0); omega), hIR65⟩) (by omega) _ hE hK
            · have hE := zite_t hE c101
              have t114 := congrArg Int32.toInt c101
              refine zi_iconst (pc := 70) (v := 2) F dX5_lays_70 rfl ?_
              refine zi_goto (pc := 71) (tgt := 89) F dX5_lays_71 (by decide) ?_
              refine zi_iast (pc := 89) (ws' := zWR G (zsF (zsF (zsF R65 18 (upd (R65 18) k2_64.toNatClampNeg (R65 8 k2_64.toNatClampNeg))) 19 (upd (R65 19) k2_64.toNatClampNeg 4)) 20 (upd (R65 20) k2_64.toNatClampNeg 2))) F 13 0 rfl rfl (zin (a := k2_64) (by omega) (by omega)) rfl dX5_lays_89 ?_
              try have t117 := zt_add (a := k2_64) (b := 1) (by omega) (by omega)
              obtain ⟨y115, e116⟩ : ∃ z : Int32, (k2_64 + 1) = z := ⟨_, rfl⟩
              have hE := zbnd_cut hE e116
              have t118 := congrArg Int32.toInt e116
              refine zi_iinc (pc := 90) (lv' := [(0, .ref (G.2.2 6 0)), (1, .int layers), (2, .int y115)]) F dX5_lays_90 2 rfl e116 (by decide) rfl ?_
              refine zi_goto (pc := 93) (tgt := 2) F dX5_lays_93 (by decide) ?_
              refine zi_sub [0, 1, 2] rfl ?_
              exact ih y115 (zsF (zsF (zsF R65 18 (upd (R65 18) k2_64.toNatClampNeg (R65 8 k2_64.toNatClampNeg))) 19 (upd (R65 19) k2_64.toNatClampNeg 4)) 20 (upd (R65 20) k2_64.toNatClampNeg 2)) (⟨by (show 0 ≤ Int32.toInt y115; omega), by (show Int32.toInt y115 ≤ 10; omega), by (show Int32.toInt (R65 6 0) = Int32.toInt (R 6 0); omega), hIR65⟩) (by omega) _ hE hK
          · have hE := zite_t hE c99
            have t119 := congrArg Int32.toInt c99
            refine zi_iconst (pc := 50) (v := 2) F dX5_lays_50 rfl ?_
            refine zi_goto (pc := 51) (tgt := 55) F dX5_lays_51 (by decide) ?_
            refine zi_iast (pc := 55) (ws' := zWR G (zsF (zsF R65 18 (upd (R65 18) k2_64.toNatClampNeg (R65 8 k2_64.toNatClampNeg))) 19 (upd (R65 19) k2_64.toNatClampNeg 2))) F 12 0 rfl rfl (zin (a := k2_64) (by omega) (by omega)) rfl dX5_lays_55 ?_
            refine zi_aload_n (pc := 56) F dX5_lays_56 0 rfl ?_
            refine zi_get (pc := 57) (C := RX5) (T := TX5) (N := 27) (v := .ref (G.2.2 6 13)) F (hw_X5_lays_X5) 0 rfl rfl 20 (by decide) (List.mem_of_getElem? (i := 6) rfl) rfl rfl dX5_lays_57 ?_
            refine zi_iload_n (pc := 60) F dX5_lays_60 2 rfl ?_
            refine zi_aload_n (pc := 61) F dX5_lays_61 0 rfl ?_
            refine zi_get (pc := 62) (C := RX5) (T := TX5) (N := 27) (v := .ref (G.2.2 6 2)) F (hw_X5_lays_X5) 0 rfl rfl 7 (by decide) (List.mem_of_getElem? (i := 5) rfl) rfl rfl dX5_lays_62 ?_
            refine zi_iload_n (pc := 65) F dX5_lays_65 2 rfl ?_
            refine zi_iald (pc := 66) (v := (R65 7 k2_64.toNatClampNeg)) F 2 0 rfl rfl (zin (a := k2_64) (by omega) (by omega)) rfl dX5_lays_66 ?_
            refine zi_if_ne (pc := 67) (tgt := 74) F dX5_lays_67 (by decide) (fun c120 => ?_) (fun c120 => ?_)
            · have hE := zite_f hE c120
              have t121 := zt_ne c120
              refine zi_aload_n (pc := 74) F dX5_lays_74 0 rfl ?_
              refine zi_get (pc := 75) (C := RX5) (T := TX5) (N := 27) (v := .ref (G.2.2 6 2)) F (hw_X5_lays_X5) 0 rfl rfl 7 (by decide) (List.mem_of_getElem? (i := 5) rfl) rfl rfl dX5_lays_75 ?_
              refine zi_iload_n (pc := 78) F dX5_lays_78 2 rfl ?_
              refine zi_iald (pc := 79) (v := (R65 7 k2_64.toNatClampNeg)) F 2 0 rfl rfl (zin (a := k2_64) (by omega) (by omega)) rfl dX5_lays_79 ?_
              refine zi_iconst (pc := 80) (v := 1) F dX5_lays_80 rfl ?_
              refine zi_icmp_ne (pc := 81) (tgt := 88) F dX5_lays_81 (by decide) (fun c122 => ?_) (fun c122 => ?_)
              · have hE := zite_f hE c122
                have t123 := zt_ne c122
                refine zi_iconst (pc := 88) (v := 0) F dX5_lays_88 rfl ?_
                refine zi_iast (pc := 89) (ws' := zWR G (zsF (zsF (zsF R65 18 (upd (R65 18) k2_64.toNatClampNeg (R65 8 k2_64.toNatClampNeg))) 19 (upd (R65 19) k2_64.toNatClampNeg 2)) 20 (upd (R65 20) k2_64.toNatClampNeg 0))) F 13 0 rfl rfl (zin (a := k2_64) (by omega) (by omega)) rfl dX5_lays_89 ?_
                try have t126 := zt_add (a := k2_64) (b := 1) (by omega) (by omega)
                obtain ⟨y124, e125⟩ : ∃ z : Int32, (k2_64 + 1) = z := ⟨_, rfl⟩
                have hE := zbnd_cut hE e125
                have t127 := congrArg Int32.toInt e125
                refine zi_iinc (pc := 90) (lv' := [(0, .ref (G.2.2 6 0)), (1, .int layers), (2, .int y124)]) F dX5_lays_90 2 rfl e125 (by decide) rfl ?_
                refine zi_goto (pc := 93) (tgt := 2) F dX5_lays_93 (by decide) ?_
                refine zi_sub [0, 1, 2] rfl ?_
                exact ih y124 (zsF (zsF (zsF R65 18 (upd (R65 18) k2_64.toNatClampNeg (R65 8 k2_64.toNatClampNeg))) 19 (upd (R65 19) k2_64.toNatClampNeg 2)) 20 (upd (R65 20) k2_64.toNatClampNeg 0)) (⟨by (show 0 ≤ Int32.toInt y124; omega), by (show Int32.toInt y124 ≤ 10; omega), by (show Int32.toInt (R65 6 0) = Int32.toInt (R 6 0); omega), hIR65⟩) (by omega) _ hE hK
              · have hE := zite_t hE c122
                have t128 := congrArg Int32.toInt c122
                refine zi_iconst (pc := 84) (v := 1) F dX5_lays_84 rfl ?_
                refine zi_goto (pc := 85) (tgt := 89) F dX5_lays_85 (by decide) ?_
                refine zi_iast (pc := 89) (ws' := zWR G (zsF (zsF (zsF R65 18 (upd (R65 18) k2_64.toNatClampNeg (R65 8 k2_64.toNatClampNeg))) 19 (upd (R65 19) k2_64.toNatClampNeg 2)) 20 (upd (R65 20) k2_64.toNatClampNeg 1))) F 13 0 rfl rfl (zin (a := k2_64) (by omega) (by omega)) rfl dX5_lays_89 ?_
                try have t131 := zt_add (a := k2_64) (b := 1) (by omega) (by omega)
                obtain ⟨y129, e130⟩ : ∃ z : Int32, (k2_64 + 1) = z := ⟨_, rfl⟩
                have hE := zbnd_cut hE e130
                have t132 := congrArg Int32.toInt e130
                refine zi_iinc (pc := 90) (lv' := [(0, .ref (G.2.2 6 0)), (1, .int layers), (2, .int y129)]) F dX5_lays_90 2 rfl e130 (by decide) rfl ?_
                refine zi_goto (pc := 93) (tgt := 2) F dX5_lays_93 (by decide) ?_
                refine zi_sub [0, 1, 2] rfl ?_
                exact ih y129 (zsF (zsF (zsF R65 18 (upd (R65 18) k2_64.toNatClampNeg (R65 8 k2_64.toNatClampNeg))) 19 (upd (R65 19) k2_64.toNatClampNeg 2)) 20 (upd (R65 20) k2_64.toNatClampNeg 1)) (⟨by (show 0 ≤ Int32.toInt y129; omega), by (show Int32.toInt y129 ≤ 10; omega), by (show Int32.toInt (R65 6 0) = Int32.toInt (R 6 0); omega), hIR65⟩) (by omega) _ hE hK
            · have hE := zite_t hE c120
              have t133 := congrArg Int32.toInt c120
              refine zi_iconst (pc := 70) (v := 2) F dX5_lays_70 rfl ?_
              refine zi_goto (pc := 71) (tgt := 89) F dX5_lays_71 (by decide) ?_
              refine zi_iast (pc := 89) (ws' := zWR G (zsF (zsF (zsF R65 18 (upd (R65 18) k2_64.toNatClampNeg (R65 8 k2_64.toNatClampNeg))) 19 (upd (R65 19) k2_64.toNatClampNeg 2)) 20 (upd (R65 20) k2_64.toNatClampNeg 2))) F 13 0 rfl rfl (zin (a := k2_64) (by omega) (by omega)) rfl dX5_lays_89 ?_
              try have t136 := zt_add (a := k2_64) (b := 1) (by omega) (by omega)
              obtain ⟨y134, e135⟩ : ∃ z : Int32, (k2_64 + 1) = z := ⟨_, rfl⟩
              have hE := zbnd_cut hE e135
              have t137 := congrArg Int32.toInt e135
              refine zi_iinc (pc := 90) (lv' := [(0, .ref (G.2.2 6 0)), (1, .int layers), (2, .int y134)]) F dX5_lays_90 2 rfl e135 (by decide) rfl ?_
              refine zi_goto (pc := 93) (tgt := 2) F dX5_lays_93 (by decide) ?_
              refine zi_sub [0, 1, 2] rfl ?_
              exact ih y134 (zsF (zsF (zsF R65 18 (upd (R65 18) k2_64.toNatClampNeg (R65 8 k2_64.toNatClampNeg))) 19 (upd (R65 19) k2_64.toNatClampNeg 2)) 20 (upd (R65 20) k2_64.toNatClampNeg 2)) (⟨by (show 0 ≤ Int32.toInt y134; omega), by (show Int32.toInt y134 ≤ 10; omega), by (show Int32.toInt (R65 6 0) = Int32.toInt (R 6 0); omega), hIR65⟩) (by omega) _ hE hK
        · have hE := zite_t hE c97
          have t138 := congrArg Int32.toInt c97
          refine zi_iconst (pc := 36) (v := 1) F dX5_lays_36 rfl ?_
          refine zi_goto (pc := 37) (tgt := 55) F dX5_lays_37 (by decide) ?_
          refine zi_iast (pc := 55) (ws' := zWR G (zsF (zsF R65 18 (upd (R65 18) k2_64.toNatClampNeg (R65 8 k2_64.toNatClampNeg))) 19 (upd (R65 19) k2_64.toNatClampNeg 1))) F 12 0 rfl rfl (zin (a := k2_64) (by omega) (by omega)) rfl dX5_lays_55 ?_
          refine zi_aload_n (pc := 56) F dX5_lays_56 0 rfl ?_
          refine zi_get (pc := 57) (C := RX5) (T := TX5) (N := 27) (v := .ref (G.2.2 6 13)) F (hw_X5_lays_X5) 0 rfl rfl 20 (by decide) (List.mem_of_getElem? (i := 6) rfl) rfl rfl dX5_lays_57 ?_
          refine zi_iload_n (pc := 60) F dX5_lays_60 2 rfl ?_
          refine zi_aload_n (pc := 61) F dX5_lays_61 0 rfl ?_
          refine zi_get (pc := 62) (C := RX5) (T := TX5) (N := 27) (v := .ref (G.2.2 6 2)) F (hw_X5_lays_X5) 0 rfl rfl 7 (by decide) (List.mem_of_getElem? (i := 5) rfl) rfl rfl dX5_lays_62 ?_
          refine zi_iload_n (pc := 65) F dX5_lays_65 2 rfl ?_
          refine zi_iald (pc := 66) (v := (R65 7 k2_64.toNatClampNeg)) F 2 0 rfl rfl (zin (a := k2_64) (by omega) (by omega)) rfl dX5_lays_66 ?_
          refine zi_if_ne (pc := 67) (tgt := 74) F dX5_lays_67 (by decide) (fun c139 => ?_) (fun c139 => ?_)
          · have hE := zite_f hE c139
            have t140 := zt_ne c139
            refine zi_aload_n (pc := 74) F dX5_lays_74 0 rfl ?_
            refine zi_get (pc := 75) (C := RX5) (T := TX5) (N := 27) (v := .ref (G.2.2 6 2)) F (hw_X5_lays_X5) 0 rfl rfl 7 (by decide) (List.mem_of_getElem? (i := 5) rfl) rfl rfl dX5_lays_75 ?_
            refine zi_iload_n (pc := 78) F dX5_lays_78 2 rfl ?_
            refine zi_iald (pc := 79) (v := (R65 7 k2_64.toNatClampNeg)) F 2 0 rfl rfl (zin (a := k2_64) (by omega) (by omega)) rfl dX5_lays_79 ?_
            refine zi_iconst (pc := 80) (v := 1) F dX5_lays_80 rfl ?_
            refine zi_icmp_ne (pc := 81) (tgt := 88) F dX5_lays_81 (by decide) (fun c141 => ?_) (fun c141 => ?_)
            · have hE := zite_f hE c141
              have t142 := zt_ne c141
              refine zi_iconst (pc := 88) (v := 0) F dX5_lays_88 rfl ?_
              refine zi_iast (pc := 89) (ws' := zWR G (zsF (zsF (zsF R65 18 (upd (R65 18) k2_64.toNatClampNeg (R65 8 k2_64.toNatClampNeg))) 19 (upd (R65 19) k2_64.toNatClampNeg 1)) 20 (upd (R65 20) k2_64.toNatClampNeg 0))) F 13 0 rfl rfl (zin (a := k2_64) (by omega) (by omega)) rfl dX5_lays_89 ?_
              try have t145 := zt_add (a := k2_64) (b := 1) (by omega) (by omega)
              obtain ⟨y143, e144⟩ : ∃ z : Int32, (k2_64 + 1) = z := ⟨_, rfl⟩
              have hE := zbnd_cut hE e144
              have t146 := congrArg Int32.toInt e144
              refine zi_iinc (pc := 90) (lv' := [(0, .ref (G.2.2 6 0)), (1, .int layers), (2, .int y143)]) F dX5_lays_90 2 rfl e144 (by decide) rfl ?_
              refine zi_goto (pc := 93) (tgt := 2) F dX5_lays_93 (by decide) ?_
              refine zi_sub [0, 1, 2] rfl ?_
              exact ih y143 (zsF (zsF (zsF R65 18 (upd (R65 18) k2_64.toNatClampNeg (R65 8 k2_64.toNatClampNeg))) 19 (upd (R65 19) k2_64.toNatClampNeg 1)) 20 (upd (R65 20) k2_64.toNatClampNeg 0)) (⟨by (show 0 ≤ Int32.toInt y143; omega), by (show Int32.toInt y143 ≤ 10; omega), by (show Int32.toInt (R65 6 0) = Int32.toInt (R 6 0); omega), hIR65⟩) (by omega) _ hE hK
            · have hE := zite_t hE c141
              have t147 := congrArg Int32.toInt c141
              refine zi_iconst (pc := 84) (v := 1) F dX5_lays_84 rfl ?_
              refine zi_goto (pc := 85) (tgt := 89) F dX5_lays_85 (by decide) ?_
              refine zi_iast (pc := 89) (ws' := zWR G (zsF (zsF (zsF R65 18 (upd (R65 18) k2_64.toNatClampNeg (R65 8 k2_64.toNatClampNeg))) 19 (upd (R65 19) k2_64.toNatClampNeg 1)) 20 (upd (R65 20) k2_64.toNatClampNeg 1))) F 13 0 rfl rfl (zin (a := k2_64) (by omega) (by omega)) rfl dX5_lays_89 ?_
              try have t150 := zt_add (a := k2_64) (b := 1) (by omega) (by omega)
              obtain ⟨y148, e149⟩ : ∃ z : Int32, (k2_64 + 1) = z := ⟨_, rfl⟩
              have hE := zbnd_cut hE e149
              have t151 := congrArg Int32.toInt e149
              refine zi_iinc (pc := 90) (lv' := [(0, .ref (G.2.2 6 0)), (1, .int layers), (2, .int y148)]) F dX5_lays_90 2 rfl e149 (by decide) rfl ?_
              refine zi_goto (pc := 93) (tgt := 2) F dX5_lays_93 (by decide) ?_
              refine zi_sub [0, 1, 2] rfl ?_
              exact ih y148 (zsF (zsF (zsF R65 18 (upd (R65 18) k2_64.toNatClampNeg (R65 8 k2_64.toNatClampNeg))) 19 (upd (R65 19) k2_64.toNatClampNeg 1)) 20 (upd (R65 20) k2_64.toNatClampNeg 1)) (⟨by (show 0 ≤ Int32.toInt y148; omega), by (show Int32.toInt y148 ≤ 10; omega), by (show Int32.toInt (R65 6 0) = Int32.toInt (R 6 0); omega), hIR65⟩) (by omega) _ hE hK
          · have hE := zite_t hE c139
            have t152 := congrArg Int32.toInt c139
            refine zi_iconst (pc := 70) (v := 2) F dX5_lays_70 rfl ?_
            refine zi_goto (pc := 71) (tgt := 89) F dX5_lays_71 (by decide) ?_
            refine zi_iast (pc := 89) (ws' := zWR G (zsF (zsF (zsF R65 18 (upd (R65 18) k2_64.toNatClampNeg (R65 8 k2_64.toNatClampNeg))) 19 (upd (R65 19) k2_64.toNatClampNeg 1)) 20 (upd (R65 20) k2_64.toNatClampNeg 2))) F 13 0 rfl rfl (zin (a := k2_64) (by omega) (by omega)) rfl dX5_lays_89 ?_
            try have t155 := zt_add (a := k2_64) (b := 1) (by omega) (by omega)
            obtain ⟨y153, e154⟩ : ∃ z : Int32, (k2_64 + 1) = z := ⟨_, rfl⟩
            have hE := zbnd_cut hE e154
            have t156 := congrArg Int32.toInt e154
            refine zi_iinc (pc := 90) (lv' := [(0, .ref (G.2.2 6 0)), (1, .int layers), (2, .int y153)]) F dX5_lays_90 2 rfl e154 (by decide) rfl ?_
            refine zi_goto (pc := 93) (tgt := 2) F dX5_lays_93 (by decide) ?_
            refine zi_sub [0, 1, 2] rfl ?_
            exact ih y153 (zsF (zsF (zsF R65 18 (upd (R65 18) k2_64.toNatClampNeg (R65 8 k2_64.toNatClampNeg))) 19 (upd (R65 19) k2_64.toNatClampNeg 1)) 20 (upd (R65 20) k2_64.toNatClampNeg 2)) (⟨by (show 0 ≤ Int32.toInt y153; omega), by (show Int32.toInt y153 ≤ 10; omega), by (show Int32.toInt (R65 6 0) = Int32.toInt (R 6 0); omega), hIR65⟩) (by omega) _ hE hK
  obtain ⟨⟨k2_157, R158⟩, e159⟩ : ∃ z, mX5_lays_L2  11 0 R = z := ⟨_, rfl⟩
  have hE := zbnd2_cut hE e159
  refine hL2 11 0 R (⟨by (show 0 ≤ Int32.toInt 0; omega), by (show Int32.toInt 0 ≤ 10; omega), by (show Int32.toInt (R 6 0) = Int32.toInt (R 6 0); omega), hIR⟩) (by omega) _ e159 (fun hI160 => ?_)
  have hI160 : (0 ≤ Int32.toInt k2_157) ∧ (Int32.toInt k2_157 ≤ 10) ∧ (Int32.toInt (R158 6 0) = Int32.toInt (R 6 0)) ∧ (zIR R158) := hI160
  obtain ⟨i161, i162, i163, hIR158⟩ := id hI160
  obtain ⟨⟨i164, i165⟩, ⟨i166, i167⟩, ⟨i168, i169⟩, ⟨i170, i171⟩, ⟨i172, i173⟩, hIR158_b14, hIR158_p15⟩ := id hIR158
  show zW p l e rmX5_lays s m args below meth c 0 0 Q G.1 A 4 (zWR G R158) [(0, .ref (G.2.2 6 0)), (1, .int layers), (2, .int k2_157)] 96 []
  refine zi_iconst (pc := 96) (v := 1) F dX5_lays_96 rfl ?_
  refine zi_istore_n (pc := 97) (lv' := [(0, .ref (G.2.2 6 0)), (1, .int layers), (2, .int 1)]) F dX5_lays_97 (by decide) rfl ?_
  have hL98 : ∀ (n335 : Nat) (k2_333 : Int32) (R334 : zS_t), (0 ≤ Int32.toInt k2_333) ∧ (Int32.toInt k2_333 ≤ 6) ∧ (Int32.toInt (R334 6 0) = Int32.toInt (R 6 0)) ∧ (zIR R334) → 7 - Int32.toInt k2_333 ≤ (n335 : Int) → ∀ Y336, mX5_lays_L98 layers n335 k2_333 R334 = Y336 → (((0 ≤ Int32.toInt Y336.1) ∧ (Int32.toInt Y336.1 ≤ 6) ∧ (Int32.toInt ((Y336.2) 6 0) = Int32.toInt (R 6 0)) ∧ (zIR (Y336.2))) → zW p l e rmX5_lays s m args below meth c 0 0 Q G.1 A 4 (zWR G (Y336.2)) [(0, .ref (G.2.2 6 0)), (1, .int layers), (2, .int Y336.1)] 171 []) → zW p l e rmX5_lays s m args below meth c 0 0 Q G.1 A 4 (zWR G R334) [(0, .ref (G.2.2 6 0)), (1, .int layers), (2, .int k2_333)] 98 [] := by
    intro n335
    induction n335 with
    | zero =>
      intro k2_333 R334 hI hM9
      obtain ⟨i337, i338, i339, hIR334⟩ := id hI
      obtain ⟨⟨i340, i341⟩, ⟨i342, i343⟩, ⟨i344, i345⟩, ⟨i346, i347⟩, ⟨i348, i349⟩, hIR334_b14, hIR334_p15⟩ := id hIR334
      exact absurd hM9 (by omega)
    | succ n335 ih =>
      intro k2_333 R334 hI hM9 Y336 hE hK
      obtain ⟨i350, i351, i352, hIR334⟩ := id hI
      obtain ⟨⟨i353, i354⟩, ⟨i355, i356⟩, ⟨i357, i358⟩, ⟨i359, i360⟩, ⟨i361, i362⟩, hIR334_b14, hIR334_p15⟩ := id hIR334
      rw [mX5_lays_L98.eq_2] at hE
      refine zi_iload_n (pc := 98) F dX5_lays_98 2 rfl ?_
      refine zi_iload_n (pc := 99) F dX5_lays_99 1 rfl ?_
      refine zi_icmp_gt (pc := 100) (tgt := 171) F dX5_lays_100 (by decide) (fun c363 => ?_) (fun c363 => ?_)
      · have hE := zite_t hE c363
        have t364 := zt_lt c363
        subst hE
        refine zi_sub [0, 1, 2] rfl ?_
        exact hK (⟨by (show 0 ≤ Int32.toInt k2_333; omega), by (show Int32.toInt k2_333 ≤ 6; omega), by (show Int32.toInt (R334 6 0) = Int32.toInt (R 6 0); omega), hIR334⟩)
      · have hE := zite_f hE c363
        have t365 := zt_nlt c363
        refine zi_iconst (pc := 103) (v := 0) F dX5_lays_103 rfl ?_
        refine zi_istore_n (pc := 104) (lv' := [(0, .ref (G.2.2 6 0)), (1, .int layers), (2, .int k2_333), (3, .int 0)]) F dX5_lays_104 (by decide) rfl ?_
        have hL105 : ∀ (n375 : Nat) (k3_373 : Int32) (R374 : zS_t), (0 ≤ Int32.toInt k3_373) ∧ (Int32.toInt k3_373 ≤ 10) ∧ (Int32.toInt (R374 6 0) = Int32.toInt (R 6 0)) ∧ (zIR R374) → 11 - Int32.toInt k3_373 ≤ (n375 : Int) → ∀ Y376, mX5_lays_L105  n375 k3_373 R374 = Y376 → (((0 ≤ Int32.toInt Y376.1) ∧ (Int32.toInt Y376.1 ≤ 10) ∧ (Int32.toInt ((Y376.2) 6 0) = Int32.toInt (R 6 0)) ∧ (zIR (Y376.2))) → zW p l e rmX5_lays s m args below meth c 0 0 Q G.1 A 4 (zWR G (Y376.2)) [(0, .ref (G.2.2 6 0)), (1, .int layers), (2, .int k2_333), (3, .int Y376.1)] 143 []) → zW p l e rmX5_lays s m args below meth c 0 0 Q G.1 A 4 (zWR G R374) [(0, .ref (G.2.2 6 0)), (1, .int layers), (2, .int k2_333), (3, .int k3_373)] 105 [] := by
          intro n375
          induction n375 with
          | zero =>
            intro k3_373 R374 hI hM9
            obtain ⟨i377, i378, i379, hIR374⟩ := id hI
            obtain ⟨⟨i380, i381⟩, ⟨i382, i383⟩, ⟨i384, i385⟩, ⟨i386, i387⟩, ⟨i388, i389⟩, hIR374_b14, hIR374_p15⟩ := id hIR374
            exact absurd hM9 (by omega)
          | succ n375 ih =>
            intro k3_373 R374 hI hM9 Y376 hE hK
            obtain ⟨i390, i391, i392, hIR374⟩ := id hI
            obtain ⟨⟨i393, i394⟩, ⟨i395, i396⟩, ⟨i397, i398⟩, ⟨i399, i400⟩, ⟨i401, i402⟩, hIR374_b14, hIR374_p15⟩ := id hIR374
            rw [mX5_lays_L105.eq_2] at hE
            refine zi_iload_n (pc := 105) F dX5_lays_105 3 rfl ?_
            refine zi_aload_n (pc := 106) F dX5_lays_106 0 rfl ?_
            refine zi_get (pc := 107) (C := RX5) (T := TX5) (N := 27) (v := .int (R374 6 0)) F (hw_X5_lays_X5) 0 rfl rfl 6 (by decide) (List.mem_of_getElem? (i := 1) rfl) rfl rfl dX5_lays_107 ?_
            refine zi_icmp_ge (pc := 110) (tgt := 143) F dX5_lays_110 (by decide) (fun c403 => ?_) (fun c403 => ?_)
            · have hE := zite_t hE c403
              have t404 := zt_le c403
              subst hE
              refine zi_sub [0, 1, 2, 3] rfl ?_
              exact hK (⟨by (show 0 ≤ Int32.toInt k3_373; omega), by (show Int32.toInt k3_373 ≤ 10; omega), by (show Int32.toInt (R374 6 0) = Int32.toInt (R 6 0); omega), hIR374⟩)
            · have hE := zite_f hE c403
              have t405 := zt_nle c403
              refine zi_aload_n (pc := 113) F dX5_lays_113 0 rfl ?_
              refine zi_get (pc := 114) (C := RX5) (T := TX5) (N := 27) (v := .ref (G.2.2 6 14)) F (hw_X5_lays_X5) 0 rfl rfl 21 (by decide) (List.mem_of_getElem? (i := 7) rfl) rfl rfl dX5_lays_114 ?_
              refine zi_iload_n (pc := 117) F dX5_lays_117 3 rfl ?_
              refine zi_aload_n (pc := 118) F dX5_lays_118 0 rfl ?_
              refine zi_get (pc := 119) (C := RX5) (T := TX5) (N := 27) (v := .ref (G.2.2 6 12)) F (hw_X5_lays_X5) 0 rfl rfl 19 (by decide) (List.mem_of_getElem? (i := 4) rfl) rfl rfl dX5_lays_119 ?_
              refine zi_iload_n (pc := 122) F dX5_lays_122 3 rfl ?_
              refine zi_iald (pc := 123) (v := (R374 19 k3_373.toNatClampNeg)) F 12 0 rfl rfl (zin (a := k3_373) (by omega) (by omega)) rfl dX5_lays_123 ?_
              refine zi_iast (pc := 124) (ws' := zWR G (zsF R374 21 (upd (R374 21) k3_373.toNatClampNeg (R374 19 k3_373.toNatClampNeg)))) F 14 0 rfl rfl (zin (a := k3_373) (by omega) (by omega)) rfl dX5_lays_124 ?_
              refine zi_aload_n (pc := 125) F dX5_lays_125 0 rfl ?_
              refine zi_get (pc := 126) (C := RX5) (T := TX5) (N := 27) (v := .ref (G.2.2 6 15)) F (hw_X5_lays_X5) 0 rfl rfl 22 (by decide) (List.mem_of_getElem? (i := 8) rfl) rfl rfl dX5_lays_126 ?_
              refine zi_iload_n (pc := 129) F dX5_lays_129 3 rfl ?_
              refine zi_aload_n (pc := 130) F dX5_lays_130 0 rfl ?_
              refine zi_get (pc := 131) (C := RX5) (T := TX5) (N := 27) (v := .ref (G.2.2 6 13)) F (hw_X5_lays_X5) 0 rfl rfl 20 (by decide) (List.mem_of_getElem? (i := 6) rfl) rfl rfl dX5_lays_131 ?_
              refine zi_iload_n (pc := 134) F dX5_lays_134 3 rfl ?_
              refine zi_iald (pc := 135) (v := (R374 20 k3_373.toNatClampNeg)) F 13 0 rfl rfl (zin (a := k3_373) (by omega) (by omega)) rfl dX5_lays_135 ?_
              refine zi_iast (pc := 136) (ws' := zWR G (zsF (zsF R374 21 (upd (R374 21) k3_373.toNatClampNeg (R374 19 k3_373.toNatClampNeg))) 22 (upd (R374 22) k3_373.toNatClampNeg (R374 20 k3_373.toNatClampNeg)))) F 15 0 rfl rfl (zin (a := k3_373) (by omega) (by omega)) rfl dX5_lays_136 ?_
              try have t408 := zt_add (a := k3_373) (b := 1) (by omega) (by omega)
              obtain ⟨y406, e407⟩ : ∃ z : Int32, (k3_373 + 1) = z := ⟨_, rfl⟩
              have hE := zbnd_cut hE e407
              have t409 := congrArg Int32.toInt e407
              refine zi_iinc (pc := 137) (lv' := [(0, .ref (G.2.2 6 0)), (1, .int layers), (2, .int k2_333), (3, .int y406)]) F dX5_lays_137 3 rfl e407 (by decide) rfl ?_
              refine zi_goto (pc := 140) (tgt := 105) F dX5_lays_140 (by decide) ?_
              refine zi_sub [0, 1, 2, 3] rfl ?_
              exact ih y406 (zsF (zsF R374 21 (upd (R374 21) k3_373.toNatClampNeg (R374 19 k3_373.toNatClampNeg))) 22 (upd (R374 22) k3_373.toNatClampNeg (R374 20 k3_373.toNatClampNeg))) (⟨by (show 0 ≤ Int32.toInt y406; omega), by (show Int32.toInt y406 ≤ 10; omega), by (show Int32.toInt (R374 6 0) = Int32.toInt (R 6 0); omega), hIR374⟩) (by omega) _ hE hK
        obtain ⟨⟨k3_410, R411⟩, e412⟩ : ∃ z, mX5_lays_L105  11 0 R334 = z := ⟨_, rfl⟩
        have hE := zbnd2_cut hE e412
        refine hL105 11 0 R334 (⟨by (show 0 ≤ Int32.toInt 0; omega), by (show Int32.toInt 0 ≤ 10; omega), by (show Int32.toInt (R334 6 0) = Int32.toInt (R 6 0); omega), hIR334⟩) (by omega) _ e412 (fun hI413 => ?_)
        have hI413 : (0 ≤ Int32.toInt k3_410) ∧ (Int32.toInt k3_410 ≤ 10) ∧ (Int32.toInt (R411 6 0) = Int32.toInt (R 6 0)) ∧ (zIR R411) := hI413
        obtain ⟨i414, i415, i416, hIR411⟩ := id hI413
        obtain ⟨⟨i417, i418⟩, ⟨i419, i420⟩, ⟨i421, i422⟩, ⟨i423, i424⟩, ⟨i425, i426⟩, hIR411_b14, hIR411_p15⟩ := id hIR411
        show zW p l e rmX5_lays s m args below meth c 0 0 Q G.1 A 4 (zWR G R411) [(0, .ref (G.2.2 6 0)), (1, .int layers), (2, .int k2_333), (3, .int k3_410)] 143 []
        refine zi_iconst (pc := 143) (v := 0) F dX5_lays_143 rfl ?_
        refine zi_istore_n (pc := 144) (lv' := [(0, .ref (G.2.2 6 0)), (1, .int layers), (2, .int k2_333), (3, .int 0)]) F dX5_lays_144 (by decide) rfl ?_
        have hL145 : ∀ (n451 : Nat) (k3_449 : Int32) (R450 : zS_t), (0 ≤ Int32.toInt k3_449) ∧ (Int32.toInt k3_449 ≤ 10) ∧ (Int32.toInt (R450 6 0) = Int32.toInt (R 6 0)) ∧ (zIR R450) → 11 - Int32.toInt k3_449 ≤ (n451 : Int) → ∀ Y452, mX5_lays_L145 k2_333 n451 k3_449 R450 = Y452 → (((0 ≤ Int32.toInt Y452.1) ∧ (Int32.toInt Y452.1 ≤ 10) ∧ (Int32.toInt ((Y452.2) 6 0) = Int32.toInt (R 6 0)) ∧ (zIR (Y452.2))) → zW p l e rmX5_lays s m args below meth c 0 0 Q G.1 A 4 (zWR G (Y452.2)) [(0, .ref (G.2.2 6 0)), (1, .int layers), (2, .int k2_333), (3, .int Y452.1)] 165 []) → zW p l e rmX5_lays s m args below meth c 0 0 Q G.1 A 4 (zWR G R450) [(0, .ref (G.2.2 6 0)), (1, .int layers), (2, .int k2_333), (3, .int k3_449)] 145 [] := by
          intro n451
          induction n451 with
          | zero =>
            intro k3_449 R450 hI hM9
            obtain ⟨i453, i454, i455, hIR450⟩ := id hI
            obtain ⟨⟨i456, i457⟩, ⟨i458, i459⟩, ⟨i460, i461⟩, ⟨i462, i463⟩, ⟨i464, i465⟩, hIR450_b14, hIR450_p15⟩ := id hIR450
            exact absurd hM9 (by omega)
          | succ n451 ih =>
            intro k3_449 R450 hI hM9 Y452 hE hK
            obtain ⟨i466, i467, i468, hIR450⟩ := id hI
            obtain ⟨⟨i469, i470⟩, ⟨i471, i472⟩, ⟨i473, i474⟩, ⟨i475, i476⟩, ⟨i477, i478⟩, hIR450_b14, hIR450_p15⟩ := id hIR450
            rw [mX5_lays_L145.eq_2] at hE
            refine zi_iload_n (pc := 145) F dX5_lays_145 3 rfl ?_
            refine zi_aload_n (pc := 146) F dX5_lays_146 0 rfl ?_
            refine zi_get (pc := 147) (C := RX5) (T := TX5) (N := 27) (v := .int (R450 6 0)) F (hw_X5_lays_X5) 0 rfl rfl 6 (by decide) (List.mem_of_getElem? (i := 1) rfl) rfl rfl dX5_lays_147 ?_
            refine zi_icmp_ge (pc := 150) (tgt := 165) F dX5_lays_150 (by decide) (fun c479 => ?_) (fun c479 => ?_)
            · have hE := zite_t hE c479
              have t480 := zt_le c479
              subst hE
              refine zi_sub [0, 1, 2, 3] rfl ?_
              exact hK (⟨by (show 0 ≤ Int32.toInt k3_449; omega), by (show Int32.toInt k3_449 ≤ 10; omega), by (show Int32.toInt (R450 6 0) = Int32.toInt (R 6 0); omega), hIR450⟩)
            · have hE := zite_f hE c479
              have t481 := zt_nle c479
              refine zi_aload_n (pc := 153) F dX5_lays_153 0 rfl ?_
              refine zi_iload_n (pc := 154) F dX5_lays_154 2 rfl ?_
              refine zi_iload_n (pc := 155) F dX5_lays_155 3 rfl ?_
              have hM484 := c_X5_layer l G k2_333 k3_449 R450 (hIR450) (by first | omega | (show 0 ≤ Int32.toInt k3_449 ∧ Int32.toInt k3_449 < 10; omega))
              have pp485 := pp_X5_layer k2_333 k3_449 R450 (hIR450) (by first | omega | (show 0 ≤ Int32.toInt k3_449 ∧ Int32.toInt k3_449 < 10; omega))
              obtain ⟨R482, e483⟩ : ∃ z, mX5_layer k2_333 k3_449 R450 = z := ⟨_, rfl⟩
              have hE := zbnd_cut hE e483
              rw [e483] at hM484
              rw [e483] at pp485
              obtain ⟨hIR482, q486⟩ := pp485
              obtain ⟨⟨i487, i488⟩, ⟨i489, i490⟩, ⟨i491, i492⟩, ⟨i493, i494⟩, ⟨i495, i496⟩, hIR482_b14, hIR482_p15⟩ := id hIR482
              refine zi_callVV (pc := 156) (rest := []) (ws' := zWR G R482) F hM484 (cwV 2 F.1.2.2.2.2 gX5_lays_X5_layer rfl rfl rfl hd_X5_layer ⟨Nat.le_of_ble_eq_true rfl, Nat.le_of_ble_eq_true rfl⟩) 0 rfl rfl _ _ (zw_nil _) (zw_nil _).symm rfl rfl (Nat.le_of_ble_eq_true rfl) dX5_lays_156 ⟨Nat.zero_le _, Nat.zero_le _⟩ ?_
              try have t499 := zt_add (a := k3_449) (b := 1) (by omega) (by omega)
              obtain ⟨y497, e498⟩ : ∃ z : Int32, (k3_449 + 1) = z := ⟨_, rfl⟩
              have hE := zbnd_cut hE e498
              have t500 := congrArg Int32.toInt e498
              refine zi_iinc (pc := 159) (lv' := [(0, .ref (G.2.2 6 0)), (1, .int layers), (2, .int k2_333), (3, .int y497)]) F dX5_lays_159 3 rfl e498 (by decide) rfl ?_
              refine zi_goto (pc := 162) (tgt := 145) F dX5_lays_162 (by decide) ?_
              refine zi_sub [0, 1, 2, 3] rfl ?_
              exact ih y497 R482 (⟨by (show 0 ≤ Int32.toInt y497; omega), by (show Int32.toInt y497 ≤ 10; omega), by (show Int32.toInt (R482 6 0) = Int32.toInt (R 6 0); omega), hIR482⟩) (by omega) _ hE hK
        obtain ⟨⟨k3_501, R502⟩, e503⟩ : ∃ z, mX5_lays_L145 k2_333 11 0 R411 = z := ⟨_, rfl⟩
        have hE := zbnd2_cut hE e503
        refine hL145 11 0 R411 (⟨by (show 0 ≤ Int32.toInt 0; omega), by (show Int32.toInt 0 ≤ 10; omega), by (show Int32.toInt (R411 6 0) = Int32.toInt (R 6 0); omega), hIR411⟩) (by omega) _ e503 (fun hI504 => ?_)
        have hI504 : (0 ≤ Int32.toInt k3_501) ∧ (Int32.toInt k3_501 ≤ 10) ∧ (Int32.toInt (R502 6 0) = Int32.toInt (R 6 0)) ∧ (zIR R502) := hI504
        obtain ⟨i505, i506, i507, hIR502⟩ := id hI504
        obtain ⟨⟨i508, i509⟩, ⟨i510, i511⟩, ⟨i512, i513⟩, ⟨i514, i515⟩, ⟨i516, i517⟩, hIR502_b14, hIR502_p15⟩ := id hIR502
        show zW p l e rmX5_lays s m args below meth c 0 0 Q G.1 A 4 (zWR G R502) [(0, .ref (G.2.2 6 0)), (1, .int layers), (2, .int k2_333), (3, .int k3_501)] 165 []
        try have t520 := zt_add (a := k2_333) (b := 1) (by omega) (by omega)
        obtain ⟨y518, e519⟩ : ∃ z : Int32, (k2_333 + 1) = z := ⟨_, rfl⟩
        have hE := zbnd_cut hE e519
        have t521 := congrArg Int32.toInt e519
        refine zi_iinc (pc := 165) (lv' := [(0, .ref (G.2.2 6 0)), (1, .int layers), (2, .int y518), (3, .int k3_501)]) F dX5_lays_165 2 rfl e519 (by decide) rfl ?_
        refine zi_goto (pc := 168) (tgt := 98) F dX5_lays_168 (by decide) ?_
        refine zi_sub [0, 1, 2] rfl ?_
        exact ih y518 R502 (⟨by (show 0 ≤ Int32.toInt y518; omega), by (show Int32.toInt y518 ≤ 6; omega), by (show Int32.toInt (R502 6 0) = Int32.toInt (R 6 0); omega), hIR502⟩) (by omega) _ hE hK
  obtain ⟨⟨k2_522, R523⟩, e524⟩ : ∃ z, mX5_lays_L98 layers 7 1 R158 = z := ⟨_, rfl⟩
  have hE := zbnd2_cut hE e524
  refine hL98 7 1 R158 (⟨by (show 0 ≤ Int32.toInt 1; omega), by (show Int32.toInt 1 ≤ 6; omega), by (show Int32.toInt (R158 6 0) = Int32.toInt (R 6 0); omega), hIR158⟩) (by omega) _ e524 (fun hI525 => ?_)
  have hI525 : (0 ≤ Int32.toInt k2_522) ∧ (Int32.toInt k2_522 ≤ 6) ∧ (Int32.toInt (R523 6 0) = Int32.toInt (R 6 0)) ∧ (zIR R523) := hI525
  obtain ⟨i526, i527, i528, hIR523⟩ := id hI525
  obtain ⟨⟨i529, i530⟩, ⟨i531, i532⟩, ⟨i533, i534⟩, ⟨i535, i536⟩, ⟨i537, i538⟩, hIR523_b14, hIR523_p15⟩ := id hIR523
  show zW p l e rmX5_lays s m args below meth c 0 0 Q G.1 A 4 (zWR G R523) [(0, .ref (G.2.2 6 0)), (1, .int layers), (2, .int k2_522)] 171 []
  subst hE
  exact hret _ _ dX5_lays_171
