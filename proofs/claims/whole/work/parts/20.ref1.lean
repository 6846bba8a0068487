/-! X5_isIn -/
def mX5_isIn (number : Int32) (low : Int32) (high : Int32)  : Int32 := if number < low then 0 else (if high < number then 0 else 1)
set_option maxHeartbeats 4000000 in
set_option maxRecDepth 100000 in
theorem pp_X5_isIn (number : Int32) (low : Int32) (high : Int32)   : ((mX5_isIn number low high) = 0 ∨ (mX5_isIn number low high) = 1) ∧ (Int32.toInt (mX5_isIn number low high) = 0 ∨ (Int32.toInt low ≤ Int32.toInt number ∧ Int32.toInt number ≤ Int32.toInt high)) := by
  obtain ⟨X, hE⟩ : ∃ z, mX5_isIn number low high = z := ⟨_, rfl⟩
  rw [hE]
  have k_0 : Int32.toInt 0 = 0 := by decide
  have k_1 : Int32.toInt 1 = 1 := by decide
  unfold mX5_isIn at hE
  by_cases c1 : number < low
  · have hE := zite_t hE c1
    have t2 := zt_lt c1
    subst hE
    exact ⟨Or.inl rfl, (by first | omega | (show Int32.toInt 0 = 0 ∨ (Int32.toInt low ≤ Int32.toInt number ∧ Int32.toInt number ≤ Int32.toInt high); omega) | (show Int32.toInt 0 = 0 ∨ (Int32.toInt low ≤ Int32.toInt number ∧ Int32.toInt number ≤ Int32.toInt high); simp))⟩
  · have hE := zite_f hE c1
    have t3 := zt_nlt c1
    by_cases c4 : high < number
    · have hE := zite_t hE c4
      have t5 := zt_lt c4
      subst hE
      exact ⟨Or.inl rfl, (by first | omega | (show Int32.toInt 0 = 0 ∨ (Int32.toInt low ≤ Int32.toInt number ∧ Int32.toInt number ≤ Int32.toInt high); omega) | (show Int32.toInt 0 = 0 ∨ (Int32.toInt low ≤ Int32.toInt number ∧ Int32.toInt number ≤ Int32.toInt high); simp))⟩
    · have hE := zite_f hE c4
      have t6 := zt_nlt c4
      subst hE
      exact ⟨Or.inr rfl, (by first | omega | (show Int32.toInt 1 = 0 ∨ (Int32.toInt low ≤ Int32.toInt number ∧ Int32.toInt number ≤ Int32.toInt high); omega) | (show Int32.toInt 1 = 0 ∨ (Int32.toInt low ≤ Int32.toInt number ∧ Int32.toInt number ≤ Int32.toInt high); simp))⟩
abbrev rmX5_isIn : Room := { frames := 0, cells := 0, slots := 0, locals := 0 }
theorem hd_X5_isIn : yX5_isIn.cls = RX5 ∧ yX5_isIn.cls ≠ "java/lang/invoke/MethodHandle" ∧ yX5_isIn.cls ≠ "java/lang/invoke/VarHandle" ∧ (parseMethodDescriptor yX5_isIn.desc).map (fun d => d.parameters.length) = some 3 := by decide +kernel
set_option maxHeartbeats 4000000 in
set_option maxRecDepth 100000 in
theorem c_X5_isIn (l : Launch) (G : zG_t) (number : Int32) (low : Int32) (high : Int32)   : zCI l G.1 (zty G) yX5_isIn wsX5_isIn rmX5_isIn [.int number, .int low, .int high] ([]) ((mX5_isIn number low high)) ([]) := by
  obtain ⟨X, hE⟩ : ∃ z, mX5_isIn number low high = z := ⟨_, rfl⟩
  rw [hE]
  refine zb_Z (cc := cX5_isIn) (maxL := 3) (by decide) rfl (Nat.le_of_ble_eq_true rfl) ?_
  intro p e s m args below meth c Q A F hret
  show zW p l e rmX5_isIn s m args below meth c 0 0 Q G.1 A 3 ([]) [(0, .int number), (1, .int low), (2, .int high)] 0 []
  have k_0 : Int32.toInt 0 = 0 := by decide
  have k_1 : Int32.toInt 1 = 1 := by decide
  unfold mX5_isIn at hE
  refine zi_iload_n (pc := 0) F dX5_isIn_0 0 rfl ?_
  refine zi_iload_n (pc := 1) F dX5_isIn_1 1 rfl ?_
  refine zi_icmp_lt (pc := 2) (tgt := 14) F dX5_isIn_2 (by decide) (fun c1 => ?_) (fun c1 => ?_)
  · have hE := zite_t hE c1
    have t2 := zt_lt c1
    refine zi_iconst (pc := 14) (v := 0) F dX5_isIn_14 rfl ?_
    subst hE
    exact hret _ _ dX5_isIn_15 (znb (Or.inl rfl))
  · have hE := zite_f hE c1
    have t3 := zt_nlt c1
    refine zi_iload_n (pc := 5) F dX5_isIn_5 0 rfl ?_
    refine zi_iload_n (pc := 6) F dX5_isIn_6 2 rfl ?_
    refine zi_icmp_gt (pc := 7) (tgt := 14) F dX5_isIn_7 (by decide) (fun c4 => ?_) (fun c4 => ?_)
    · have hE := zite_t hE c4
      have t5 := zt_lt c4
      refine zi_iconst (pc := 14) (v := 0) F dX5_isIn_14 rfl ?_
      subst hE
      exact hret _ _ dX5_isIn_15 (znb (Or.inl rfl))
    · have hE := zite_f hE c4
      have t6 := zt_nlt c4
      refine zi_iconst (pc := 10) (v := 1) F dX5_isIn_10 rfl ?_
      refine zi_goto (pc := 11) (tgt := 15) F dX5_isIn_11 (by decide) ?_
      subst hE
      exact hret _ _ dX5_isIn_15 (znb (Or.inr rfl))
/-! X5_cost -/
def mX5_cost (its : Int32)  : Int32 := if its = 0 then 2 else (if its = 5 then 2 else (if its = 6 then 2 else (if its = 9 then 2 else (if its = 7 then 4 else (if its ≤ 11 then 3 else 1)))))
abbrev rmX5_cost : Room := { frames := 0, cells := 0, slots := 0, locals := 0 }
theorem hd_X5_cost : yX5_cost.cls = RX5 ∧ yX5_cost.cls ≠ "java/lang/invoke/MethodHandle" ∧ yX5_cost.cls ≠ "java/lang/invoke/VarHandle" ∧ (parseMethodDescriptor yX5_cost.desc).map (fun d => d.parameters.length) = some 1 := by decide +kernel
set_option maxHeartbeats 4000000 in
set_option maxRecDepth 100000 in
theorem c_X5_cost (l : Launch) (G : zG_t) (its : Int32)   : zCI l G.1 (zty G) yX5_cost wsX5_cost rmX5_cost [.int its] ([]) ((mX5_cost its)) ([]) := by
  obtain ⟨X, hE⟩ : ∃ z, mX5_cost its = z := ⟨_, rfl⟩
  rw [hE]
  refine zb_I (cc := cX5_cost) (maxL := 1) (by decide) rfl (Nat.le_of_ble_eq_true rfl) ?_
  intro p e s m args below meth c Q A F hret
  show zW p l e rmX5_cost s m args below meth c 0 0 Q G.1 A 1 ([]) [(0, .int its)] 0 []
  have k_0 : Int32.toInt 0 = 0 := by decide
  have k_1 : Int32.toInt 1 = 1 := by decide
  have k_2 : Int32.toInt 2 = 2 := by decide
  have k_3 : Int32.toInt 3 = 3 := by decide
  have k_4 : Int32.toInt 4 = 4 := by decide
  have k_5 : Int32.toInt 5 = 5 := by decide
  have k_6 : Int32.toInt 6 = 6 := by decide
  have k_7 : Int32.toInt 7 = 7 := by decide
  have k_9 : Int32.toInt 9 = 9 := by decide
  have k_11 : Int32.toInt 11 = 11 := by decide
  unfold mX5_cost at hE
  refine zi_iload_n (pc := 0) F dX5_cost_0 0 rfl ?_
  refine zi_if_eq (pc := 1) (tgt := 21) F dX5_cost_1 (by decide) (fun c1 => ?_) (fun c1 => ?_)
  · have hE := zite_t hE c1
    have t2 := congrArg Int32.toInt c1
    refine zi_iconst (pc := 21) (v := 2) F dX5_cost_21 rfl ?_
    refine zi_goto (pc := 22) (tgt := 46) F dX5_cost_22 (by decide) ?_
    subst hE
    exact hret _ _ dX5_cost_46
  · have hE := zite_f hE c1
    have t3 := zt_ne c1
    refine zi_iload_n (pc := 4) F dX5_cost_4 0 rfl ?_
    refine zi_iconst (pc := 5) (v := 5) F dX5_cost_5 rfl ?_
    refine zi_icmp_eq (pc := 6) (tgt := 21) F dX5_cost_6 (by decide) (fun c4 => ?_) (fun c4 => ?_)
    · have hE := zite_t hE c4
      have t5 := congrArg Int32.toInt c4
      refine zi_iconst (pc := 21) (v := 2) F dX5_cost_21 rfl ?_
      refine zi_goto (pc := 22) (tgt := 46) F dX5_cost_22 (by decide) ?_
      subst hE
      exact hret _ _ dX5_cost_46
    · have hE := zite_f hE c4
      have t6 := zt_ne c4
      refine zi_iload_n (pc := 9) F dX5_cost_9 0 rfl ?_
      refine zi_bipush (pc := 10) (v := 6) F dX5_cost_10 rfl ?_
      refine zi_icmp_eq (pc := 12) (tgt := 21) F dX5_cost_12 (by decide) (fun c7 => ?_) (fun c7 => ?_)
      · have hE := zite_t hE c7
        have t8 := congrArg Int32.toInt c7
        refine zi_iconst (pc := 21) (v := 2) F dX5_cost_21 rfl ?_
        refine zi_goto (pc := 22) (tgt := 46) F dX5_cost_22 (by decide) ?_
        subst hE
        exact hret _ _ dX5_cost_46
      · have hE := zite_f hE c7
        have t9 := zt_ne c7
        refine zi_iload_n (pc := 15) F dX5_cost_15 0 rfl ?_
        refine zi_bipush (pc := 16) (v := 9) F dX5_cost_16 rfl ?_
        refine zi_icmp_ne (pc := 18) (tgt := 25) F dX5_cost_18 (by decide) (fun c10 => ?_) (fun c10 => ?_)
        · have hE := zite_f hE c10
          have t11 := zt_ne c10
          refine zi_iload_n (pc := 25) F dX5_cost_25 0 rfl ?_
          refine zi_bipush (pc := 26) (v := 7) F dX5_cost_26 rfl ?_
          refine zi_icmp_ne (pc := 28) (tgt := 35) F dX5_cost_28 (by decide) (fun c12 => ?_) (fun c12 => ?_)
          · have hE := zite_f hE c12
            have t13 := zt_ne c12
            refine zi_iload_n (pc := 35) F dX5_cost_35 0 rfl ?_
            refine zi_bipush (pc := 36) (v := 11) F dX5_cost_36 rfl ?_
            refine zi_icmp_le (pc := 38) (tgt := 45) F dX5_cost_38 (by decide) (fun c14 => ?_) (fun c14 => ?_)
            · have hE := zite_t hE c14
              have t15 := zt_le c14
              refine zi_iconst (pc := 45) (v := 3) F dX5_cost_45 rfl ?_
              subst hE
              exact hret _ _ dX5_cost_46
            · have hE := zite_f hE c14
              have t16 := zt_nle c14
              refine zi_iconst (pc := 41) (v := 1) F dX5_cost_41 rfl ?_
              refine zi_goto (pc := 42) (tgt := 46) F dX5_cost_42 (by decide) ?_
              subst hE
              exact hret _ _ dX5_cost_46
          · have hE := zite_t hE c12
            have t17 := congrArg Int32.toInt c12
            refine zi_iconst (pc := 31) (v := 4) F dX5_cost_31 rfl ?_
            refine zi_goto (pc := 32) (tgt := 46) F dX5_cost_32 (by decide) ?_
            subst hE
            exact hret _ _ dX5_cost_46
        · have hE := zite_t hE c10
          have t18 := congrArg Int32.toInt c10
          refine zi_iconst (pc := 21) (v := 2) F dX5_cost_21 rfl ?_
          refine zi_goto (pc := 22) (tgt := 46) F dX5_cost_22 (by decide) ?_
          subst hE
          exact hret _ _ dX5_cost_46
/-! X5_thrown -/
def mX5_thrown  (R : zS_t) : Int32 := (R 26 0)
theorem hw_X5_thrown_X5 : ∀ w ∈ wsX50, w ∈ wsX5_thrown := fun w h => List.mem_cons_of_mem _ (List.mem_append_right _ (h))
abbrev rmX5_thrown : Room := { frames := 0, cells := 0, slots := 0, locals := 0 }
theorem hd_X5_thrown : yX5_thrown.cls = RX5 ∧ yX5_thrown.cls ≠ "java/lang/invoke/MethodHandle" ∧ yX5_thrown.cls ≠ "java/lang/invoke/VarHandle" ∧ (parseMethodDescriptor yX5_thrown.desc).map (fun d => d.parameters.length) = some 0 := by decide +kernel
set_option maxHeartbeats 4000000 in
set_option maxRecDepth 100000 in
theorem c_X5_thrown (l : Launch) (G : zG_t)  (R : zS_t)  : zCI l G.1 (zty G) yX5_thrown wsX5_thrown rmX5_thrown [.ref (G.2.2 6 0)] (zWR G R) ((mX5_thrown R)) (zWR G R) := by
  obtain ⟨X, hE⟩ : ∃ z, mX5_thrown R = z := ⟨_, rfl⟩
  rw [hE]
  refine zb_I (cc := cX5_thrown) (maxL := 1) (by decide) rfl (Nat.le_of_ble_eq_true rfl) ?_
  intro p e s m args below meth c Q A F hret
  show zW p l e rmX5_thrown s m args below meth c 0 0 Q G.1 A 1 (zWR G R) [(0, .ref (G.2.2 6 0))] 0 []
  have k_0 : Int32.toInt 0 = 0 := by decide
  have k_1 : Int32.toInt 1 = 1 := by decide
  unfold mX5_thrown at hE
  refine zi_aload_n (pc := 0) F dX5_thrown_0 0 rfl ?_
  refine zi_get (pc := 1) (C := RX5) (T := TX5) (N := 27) (v := .int (R 26 0)) F (hw_X5_thrown_X5) 0 rfl rfl 26 (by decide) (List.mem_of_getElem? (i := 1) rfl) rfl rfl dX5_thrown_1 ?_
  subst hE
  exact hret _ _ dX5_thrown_4
/-! X5_thingOf -/
def mX5_thingOf_L4 (itsName : Int32) (R : zS_t) : Nat → Int32 → Int32 → Int32 × Int32
  | 0, k2_15, k3_16 => (k2_15, k3_16)
  | n17 + 1, k2_15, k3_16 => if (R 6 0) ≤ k3_16 then (k2_15, k3_16) else (if (R 9 k3_16.toNatClampNeg) = itsName then (zbnd ((k3_16 + 1)) (fun y37 => mX5_thingOf_L4 itsName R n17 k3_16 y37)) else (zbnd ((k3_16 + 1)) (fun y32 => mX5_thingOf_L4 itsName R n17 k2_15 y32)))
def mX5_thingOf (itsName : Int32) (R : zS_t) : Int32 := zbnd2 (mX5_thingOf_L4 itsName R 11 (-1) 0) (fun k2_41 k3_42 => k2_41)
set_option maxHeartbeats 4000000 in
set_option maxRecDepth 100000 in
theorem pp_X5_thingOf (itsName : Int32) (R : zS_t) (hIR : zIR R) : (-1 ≤ Int32.toInt (mX5_thingOf itsName R) ∧ Int32.toInt (mX5_thingOf itsName R) < Int32.toInt (R 6 0)) := by
  obtain ⟨X, hE⟩ : ∃ z, mX5_thingOf itsName R = z := ⟨_, rfl⟩
  rw [hE]
  have k_m1 : Int32.toInt (-1) = -1 := by decide
  have k_0 : Int32.toInt 0 = 0 := by decide
  have k_1 : Int32.toInt 1 = 1 := by decide
  obtain ⟨⟨i49, i50⟩, ⟨i51, i52⟩, ⟨i53, i54⟩, ⟨i55, i56⟩, ⟨i57, i58⟩, hIR_b14, hIR_p15⟩ := id hIR
  unfold mX5_thingOf at hE
  have hL4 : ∀ (n17 : Nat) (k2_15 : Int32) (k3_16 : Int32), (0 ≤ Int32.toInt k3_16) ∧ (Int32.toInt k3_16 ≤ 10) ∧ (-1 ≤ Int32.toInt k2_15) ∧ (Int32.toInt k2_15 < Int32.toInt (R 6 0)) → 11 - Int32.toInt k3_16 ≤ (n17 : Int) → ∀ Y18, mX5_thingOf_L4 itsName R n17 k2_15 k3_16 = Y18 → (0 ≤ Int32.toInt Y18.2) ∧ (Int32.toInt Y18.2 ≤ 10) ∧ (-1 ≤ Int32.toInt Y18.1) ∧ (Int32.toInt Y18.1 < Int32.toInt (R 6 0)) := by
    intro n17
    induction n17 with
    | zero =>
      intro k2_15 k3_16 hI hM9
      obtain ⟨i19, i20, i21, i22⟩ := id hI
      exact absurd hM9 (by omega)
    | succ n17 ih =>
      intro k2_15 k3_16 hI hM9 Y18 hE
      obtain ⟨i23, i24, i25, i26⟩ := id hI
      rw [mX5_thingOf_L4.eq_2] at hE
      by_cases c27 : (R 6 0) ≤ k3_16
      · have hE := zite_t hE c27
        have t28 := zt_le c27
        subst hE
        exact ⟨by (show 0 ≤ Int32.toInt k3_16; omega), by (show Int32.toInt k3_16 ≤ 10; omega), by (show -1 ≤ Int32.toInt k2_15; omega), by (show Int32.toInt k2_15 < Int32.toInt (R 6 0); omega)⟩
      · have hE := zite_f hE c27
        have t29 := zt_nle c27
        by_cases c30 : (R 9 k3_16.toNatClampNeg) = itsName
        · have hE := zite_t hE c30
          have t31 := congrArg Int32.toInt c30
          try have t34 := zt_add (a := k3_16) (b := 1) (by omega) (by omega)
          obtain ⟨y32, e33⟩ : ∃ z : Int32, (k3_16 + 1) = z := ⟨_, rfl⟩
          have hE := zbnd_cut hE e33
          have t35 := congrArg Int32.toInt e33
          exact ih k3_16 y32 (⟨by (show 0 ≤ Int32.toInt y32; omega), by (show Int32.toInt y32 ≤ 10; omega), by (show -1 ≤ Int32.toInt k3_16; omega), by (show Int32.toInt k3_16 < Int32.toInt (R 6 0); omega)⟩) (by omega) _ hE
        · have hE := zite_f hE c30
          have t36 := zt_ne c30
          try have t39 := zt_add (a := k3_16) (b := 1) (by omega) (by omega)
          obtain ⟨y37, e38⟩ : ∃ z : Int32, (k3_16 + 1) = z := ⟨_, rfl⟩
          have hE := zbnd_cut hE e38
          have t40 := congrArg Int32.toInt e38
          exact ih k2_15 y37 (⟨by (show 0 ≤ Int32.toInt y37; omega), by (show Int32.toInt y37 ≤ 10; omega), by (show -1 ≤ Int32.toInt k2_15; omega), by (show Int32.toInt k2_15 < Int32.toInt (R 6 0); omega)⟩) (by omega) _ hE
  obtain ⟨⟨k2_41, k3_42⟩, e43⟩ : ∃ z, mX5_thingOf_L4 itsName R 11 (-1) 0 = z := ⟨_, rfl⟩
  have hE := zbnd2_cut hE e43
  have hI44 := hL4 11 (-1) 0 (⟨by (show 0 ≤ Int32.toInt 0; omega), by (show Int32.toInt 0 ≤ 10; omega), by (show -1 ≤ Int32.toInt (-1); omega), by (show Int32.toInt (-1) < Int32.toInt (R 6 0); omega)⟩) (by omega) _ e43
  have hI44 : (0 ≤ Int32.toInt k3_42) ∧ (Int32.toInt k3_42 ≤ 10) ∧ (-1 ≤ Int32.toInt k2_41) ∧ (Int32.toInt k2_41 < Int32.toInt (R 6 0)) := hI44
  obtain ⟨i45, i46, i47, i48⟩ := id hI44
  subst hE
  exact (by first | omega | (show -1 ≤ Int32.toInt k2_41 ∧ Int32.toInt k2_41 < Int32.toInt (R 6 0); omega) | (show -1 ≤ Int32.toInt k2_41 ∧ Int32.toInt k2_41 < Int32.toInt (R 6 0); simp))
theorem hw_X5_thingOf_X5 : ∀ w ∈ wsX50, w ∈ wsX5_thingOf := fun w h => List.mem_cons_of_mem _ (List.mem_append_right _ (h))
abbrev rmX5_thingOf : Room := { frames := 0, cells := 0, slots := 0, locals := 0 }
theorem hd_X5_thingOf : yX5_thingOf.cls = RX5 ∧ yX5_thingOf.cls ≠ "java/lang/invoke/MethodHandle" ∧ yX5_thingOf.cls ≠ "java/lang/invoke/VarHandle" ∧ (parseMethodDescriptor yX5_thingOf.desc).map (fun d => d.parameters.length) = some 1 := by decide +kernel
set_option maxHeartbeats 4000000 in
set_option maxRecDepth 100000 in
theorem c_X5_thingOf (l : Launch) (G : zG_t) (itsName : Int32) (R : zS_t) (hIR : zIR R) : zCI l G.1 (zty G) yX5_thingOf wsX5_thingOf rmX5_thingOf [.ref (G.2.2 6 0), .int itsName] (zWR G R) ((mX5_thingOf itsName R)) (zWR G R) := by
  obtain ⟨X, hE⟩ : ∃ z, mX5_thingOf itsName R = z := ⟨_, rfl⟩
  rw [hE]
  refine zb_I (cc := cX5_thingOf) (maxL := 4) (by decide) rfl (Nat.le_of_ble_eq_true rfl) ?_
  intro p e s m args below meth c Q A F hret
  show zW p l e rmX5_thingOf s m args below meth c 0 0 Q G.1 A 4 (zWR G R) [(0, .ref (G.2.2 6 0)), (1, .int itsName)] 0 []
  have k_m1 : Int32.toInt (-1) = -1 := by decide
  have k_0 : Int32.toInt 0 = 0 := by decide
  have k_1 : Int32.toInt 1 = 1 := by decide
  obtain ⟨⟨i59, i60⟩, ⟨i61, i62⟩, ⟨i63, i64⟩, ⟨i65, i66⟩, ⟨i67, i68⟩, hIR_b14, hIR_p15⟩ := id hIR
  unfold mX5_thingOf at hE
  refine zi_iconst (pc := 0) (v := (-1)) F dX5_thingOf_0 rfl ?_
  refine zi_istore_n (pc := 1) (lv' := [(0, .ref (G.2.2 6 0)), (1, .int itsName), (2, .int (-1))]) F dX5_thingOf_1 (by decide) rfl ?_
  refine zi_iconst (pc := 2) (v := 0) F dX5_thingOf_2 rfl ?_
  refine zi_istore_n (pc := 3) (lv' := [(0, .ref (G.2.2 6 0)), (1, .int itsName), (2, .int (-1)), (3, .int 0)]) F dX5_thingOf_3 (by decide) rfl ?_
  have hL4 : ∀ (n17 : Nat) (k2_15 : Int32) (k3_16 : Int32), (0 ≤ Int32.toInt k3_16) ∧ (Int32.toInt k3_16 ≤ 10) ∧ (-1 ≤ Int32.toInt k2_15) ∧ (Int32.toInt k2_15 < Int32.toInt (R 6 0)) → 11 - Int32.toInt k3_16 ≤ (n17 : Int) → ∀ Y18, mX5_thingOf_L4 itsName R n17 k2_15 k3_16 = Y18 → (((0 ≤ Int32.toInt Y18.2) ∧ (Int32.toInt Y18.2 ≤ 10) ∧ (-1 ≤ Int32.toInt Y18.1) ∧ (Int32.toInt Y18.1 < Int32.toInt (R 6 0))) → zW p l e rmX5_thingOf s m args below meth c 0 0 Q G.1 A 4 (zWR G R) [(0, .ref (G.2.2 6 0)), (1, .int itsName), (2, .int Y18.1), (3, .int Y18.2)] 34 []) → zW p l e rmX5_thingOf s m args below meth c 0 0 Q G.1 A 4 (zWR G R) [(0, .ref (G.2.2 6 0)), (1, .int itsName), (2, .int k2_15), (3, .int k3_16)] 4 [] := by
    intro n17
    induction n17 with
    | zero =>
      intro k2_15 k3_16 hI hM9
      obtain ⟨i19, i20, i21, i22⟩ := id hI
      exact absurd hM9 (by omega)
    | succ n17 ih =>
      intro k2_15 k3_16 hI hM9 Y18 hE hK
      obtain ⟨i23, i24, i25, i26⟩ := id hI
      rw [mX5_thingOf_L4.eq_2] at hE
      refine zi_iload_n (pc := 4) F dX5_thingOf_4 3 rfl ?_
      refine zi_aload_n (pc := 5) F dX5_thingOf_5 0 rfl ?_
      refine zi_get (pc := 6) (C := RX5) (T := TX5) (N := 27) (v := .int (R 6 0)) F (hw_X5_thingOf_X5) 0 rfl rfl 6 (by decide) (List.mem_of_getElem? (i := 1) rfl) rfl rfl dX5_thingOf_6 ?_
      refine zi_icmp_ge (pc := 9) (tgt := 34) F dX5_thingOf_9 (by decide) (fun c27 => ?_) (fun c27 => ?_)
      · have hE := zite_t hE c27
        have t28 := zt_le c27
        subst hE
        refine zi_sub [0, 1, 2, 3] rfl ?_
        exact hK (⟨by (show 0 ≤ Int32.toInt k3_16; omega), by (show Int32.toInt k3_16 ≤ 10; omega), by (show -1 ≤ Int32.toInt k2_15; omega), by (show Int32.toInt k2_15 < Int32.toInt (R 6 0); omega)⟩)
      · have hE := zite_f hE c27
        have t29 := zt_nle c27
        refine zi_aload_n (pc := 12) F dX5_thingOf_12 0 rfl ?_
        refine zi_get (pc := 13) (C := RX5) (T := TX5) (N := 27) (v := .ref (G.2.2 6 4)) F (hw_X5_thingOf_X5) 0 rfl rfl 9 (by decide) (List.mem_of_getElem? (i := 2) rfl) rfl rfl dX5_thingOf_13 ?_
        refine zi_iload_n (pc := 16) F dX5_thingOf_16 3 rfl ?_
        refine zi_iald (pc := 17) (v := (R 9 k3_16.toNatClampNeg)) F 4 0 rfl rfl (zin (a := k3_16) (by omega) (by omega)) rfl dX5_thingOf_17 ?_
        refine zi_iload_n (pc := 18) F dX5_thingOf_18 1 rfl ?_
        refine zi_icmp_ne (pc := 19) (tgt := 26) F dX5_thingOf_19 (by decide) (fun c30 => ?_) (fun c30 => ?_)
        · have hE := zite_f hE c30
          have t31 := zt_ne c30
          refine zi_iload_n (pc := 26) F dX5_thingOf_26 2 rfl ?_
          refine zi_istore_n (pc := 27) (lv' := [(0, .ref (G.2.2 6 0)), (1, .int itsName), (2, .int k2_15), (3, .int k3_16)]) F dX5_thingOf_27 (by decide) rfl ?_
          try have t34 := zt_add (a := k3_16) (b := 1) (by omega) (by omega)
          obtain ⟨y32, e33⟩ : ∃ z : Int32, (k3_16 + 1) = z := ⟨_, rfl⟩
          have hE := zbnd_cut hE e33
          have t35 := congrArg Int32.toInt e33
          refine zi_iinc (pc := 28) (lv' := [(0, .ref (G.2.2 6 0)), (1, .int itsName), (2, .int k2_15), (3, .int y32)]) F dX5_thingOf_28 3 rfl e33 (by decide) rfl ?_
          refine zi_goto (pc := 31) (tgt := 4) F dX5_thingOf_31 (by decide) ?_
          refine zi_sub [0, 1, 2, 3] rfl ?_
          exact ih k2_15 y32 (⟨by (show 0 ≤ Int32.toInt y32; omega), by (show Int32.toInt y32 ≤ 10; omega), by (show -1 ≤ Int32.toInt k2_15; omega), by (show Int32.toInt k2_15 < Int32.toInt (R 6 0); omega)⟩) (by omega) _ hE hK
        · have hE := zite_t hE c30
          have t36 := congrArg Int32.toInt c30
          refine zi_iload_n (pc := 22) F dX5_thingOf_22 3 rfl ?_
          refine zi_goto (pc := 23) (tgt := 27) F dX5_thingOf_23 (by decide) ?_
          refine zi_istore_n (pc := 27) (lv' := [(0, .ref (G.2.2 6 0)), (1, .int itsName), (2, .int k3_16), (3, .int k3_16)]) F dX5_thingOf_27 (by decide) rfl ?_
          try have t39 := zt_add (a := k3_16) (b := 1) (by omega) (by omega)
          obtain ⟨y37, e38⟩ : ∃ z : Int32, (k3_16 + 1) = z := ⟨_, rfl⟩
          have hE := zbnd_cut hE e38
          have t40 := congrArg Int32.toInt e38
          refine zi_iinc (pc := 28) (lv' := [(0, .ref (G.2.2 6 0)), (1, .int itsName), (2, .int k3_16), (3, .int y37)]) F dX5_thingOf_28 3 rfl e38 (by decide) rfl ?_
          refine zi_goto (pc := 31) (tgt := 4) F dX5_thingOf_31 (by decide) ?_
          refine zi_sub [0, 1, 2, 3] rfl ?_
          exact ih k3_16 y37 (⟨by (show 0 ≤ Int32.toInt y37; omega), by (show Int32.toInt y37 ≤ 10; omega), by (show -1 ≤ Int32.toInt k3_16; omega), by (show Int32.toInt k3_16 < Int32.toInt (R 6 0); omega)⟩) (by omega) _ hE hK
  obtain ⟨⟨k2_41, k3_42⟩, e43⟩ : ∃ z, mX5_thingOf_L4 itsName R 11 (-1) 0 = z := ⟨_, rfl⟩
  have hE := zbnd2_cut hE e43
  refine hL4 11 (-1) 0 (⟨by (show 0 ≤ Int32.toInt 0; omega), by (show Int32.toInt 0 ≤ 10; omega), by (show -1 ≤ Int32.toInt (-1); omega), by (show Int32.toInt (-1) < Int32.toInt (R 6 0); omega)⟩) (by omega) _ e43 (fun hI44 => ?_)
  have hI44 : (0 ≤ Int32.toInt k3_42) ∧ (Int32.toInt k3_42 ≤ 10) ∧ (-1 ≤ Int32.toInt k2_41) ∧ (Int32.toInt k2_41 < Int32.toInt (R 6 0)) := hI44
  obtain ⟨i45, i46, i47, i48⟩ := id hI44
  show zW p l e rmX5_thingOf s m args below meth c 0 0 Q G.1 A 4 (zWR G R) [(0, .ref (G.2.2 6 0)), (1, .int itsName), (2, .int k2_41), (3, .int k3_42)] 34 []
  refine zi_iload_n (pc := 34) F dX5_thingOf_34 2 rfl ?_
  subst hE
  exact hret _ _ dX5_thingOf_35
/-! X5_entryOf -/
def mX5_entryOf_L4 (itsMark : Int32) (R : zS_t) : Nat → Int32 → Int32 → Int32 × Int32
  | 0, k2_20, k3_21 => (k2_20, k3_21)
  | n22 + 1, k2_20, k3_21 => if (R 12 0) ≤ k3_21 then (k2_20, k3_21) else (if (R 16 k3_21.toNatClampNeg) = itsMark then (zbnd ((((R 12 0) - 1) - k3_21)) (fun y42 => zbnd ((k3_21 + 1)) (fun y47 => mX5_entryOf_L4 itsMark R n22 y42 y47))) else (zbnd ((k3_21 + 1)) (fun y37 => mX5_entryOf_L4 itsMark R n22 k2_20 y37)))
def mX5_entryOf (itsMark : Int32) (R : zS_t) : Int32 := zbnd2 (mX5_entryOf_L4 itsMark R 13 (-1) 0) (fun k2_51 k3_52 => k2_51)
set_option maxHeartbeats 4000000 in
set_option maxRecDepth 100000 in
theorem pp_X5_entryOf (itsMark : Int32) (R : zS_t) (hIR : zIR R) : (-1 ≤ Int32.toInt (mX5_entryOf itsMark R) ∧ Int32.toInt (mX5_entryOf itsMark R) < Int32.toInt (R 12 0)) := by
  obtain ⟨X, hE⟩ : ∃ z, mX5_entryOf itsMark R = z := ⟨_, rfl⟩
  rw [hE]
  have k_m1 : Int32.toInt (-1) = -1 := by decide
  have k_0 : Int32.toInt 0 = 0 := by decide
  have k_1 : Int32.toInt 1 = 1 := by decide
  obtain ⟨⟨i59, i60⟩, ⟨i61, i62⟩, ⟨i63, i64⟩, ⟨i65, i66⟩, ⟨i67, i68⟩, hIR_b14, hIR_p15⟩ := id hIR
  unfold mX5_entryOf at hE
  have hL4 : ∀ (n22 : Nat) (k2_20 : Int32) (k3_21 : Int32), (0 ≤ Int32.toInt k3_21) ∧ (Int32.toInt k3_21 ≤ 12) ∧ (-1 ≤ Int32.toInt k2_20) ∧ (Int32.toInt k2_20 < Int32.toInt (R 12 0)) → 13 - Int32.toInt k3_21 ≤ (n22 : Int) → ∀ Y23, mX5_entryOf_L4 itsMark R n22 k2_20 k3_21 = Y23 → (0 ≤ Int32.toInt Y23.2) ∧ (Int32.toInt Y23.2 ≤ 12) ∧ (-1 ≤ Int32.toInt Y23.1) ∧ (Int32.toInt Y23.1 < Int32.toInt (R 12 0)) := by
    intro n22
    induction n22 with
    | zero =>
      intro k2_20 k3_21 hI hM9
      obtain ⟨i24, i25, i26, i27⟩ := id hI
      exact absurd hM9 (by omega)
    | succ n22 ih =>
      intro k2_20 k3_21 hI hM9 Y23 hE
      obtain ⟨i28, i29, i30, i31⟩ := id hI
      rw [mX5_entryOf_L4.eq_2] at hE
      by_cases c32 : (R 12 0) ≤ k3_21
      · have hE := zite_t hE c32
        have t33 := zt_le c32
        subst hE
        exact ⟨by (show 0 ≤ Int32.toInt k3_21; omega), by (show Int32.toInt k3_21 ≤ 12; omega), by (show -1 ≤ Int32.toInt k2_20; omega), by (show Int32.toInt k2_20 < Int32.toInt (R 12 0); omega)⟩
      · have hE := zite_f hE c32
        have t34 := zt_nle c32
        by_cases c35 : (R 16 k3_21.toNatClampNeg) = itsMark
        · have hE := zite_t hE c35
          have t36 := congrArg Int32.toInt c35
          try have t39 := zt_sub (a := (R 12 0)) (b := 1) (by omega) (by omega)
          try have t40 := zt_sub (a := ((R 12 0) - 1)) (b := k3_21) (by omega) (by omega)
          obtain ⟨y37, e38⟩ : ∃ z : Int32, (((R 12 0) - 1) - k3_21) = z := ⟨_, rfl⟩
          have hE := zbnd_cut hE e38
          have t41 := congrArg Int32.toInt e38
          try have t44 := zt_add (a := k3_21) (b := 1) (by omega) (by omega)
          obtain ⟨y42, e43⟩ : ∃ z : Int32, (k3_21 + 1) = z := ⟨_, rfl⟩
          have hE := zbnd_cut hE e43
          have t45 := congrArg Int32.toInt e43
          exact ih y37 y42 (⟨by (show 0 ≤ Int32.toInt y42; omega), by (show Int32.toInt y42 ≤ 12; omega), by (show -1 ≤ Int32.toInt y37; omega), by (show Int32.toInt y37 < Int32.toInt (R 12 0); omega)⟩) (by omega) _ hE
        · have hE := zite_f hE c35
          have t46 := zt_ne c35
          try have t49 := zt_add (a := k3_21) (b := 1) (by omega) (by omega)
          obtain ⟨y47, e48⟩ : ∃ z : Int32, (k3_21 + 1) = z := ⟨_, rfl⟩
          have hE := zbnd_cut hE e48
          have t50 := congrArg Int32.toInt e48
          exact ih k2_20 y47 (⟨by (show 0 ≤ Int32.toInt y47; omega), by (show Int32.toInt y47 ≤ 12; omega), by (show -1 ≤ Int32.toInt k2_20; omega), by (show Int32.toInt k2_20 < Int32.toInt (R 12 0); omega)⟩) (by omega) _ hE
  obtain ⟨⟨k2_51, k3_52⟩, e53⟩ : ∃ z, mX5_entryOf_L4 itsMark R 13 (-1) 0 = z := ⟨_, rfl⟩
  have hE := zbnd2_cut hE e53
  have hI54 := hL4 13 (-1) 0 (⟨by (show 0 ≤ Int32.toInt 0; omega), by (show Int32.toInt 0 ≤ 12; omega), by (show -1 ≤ Int32.toInt (-1); omega), by (show Int32.toInt (-1) < Int32.toInt (R 12 0); omega)⟩) (by omega) _ e53
  have hI54 : (0 ≤ Int32.toInt k3_52) ∧ (Int32.toInt k3_52 ≤ 12) ∧ (-1 ≤ Int32.toInt k2_51) ∧ (Int32.toInt k2_51 < Int32.toInt (R 12 0)) := hI54
  obtain ⟨i55, i56, i57, i58⟩ := id hI54
  subst hE
  exact (by first | omega | (show -1 ≤ Int32.toInt k2_51 ∧ Int32.toInt k2_51 < Int32.toInt (R 12 0); omega) | (show -1 ≤ Int32.toInt k2_51 ∧ Int32.toInt k2_51 < Int32.toInt (R 12 0); simp))
theorem hw_X5_entryOf_X5 : ∀ w ∈ wsX50, w ∈ wsX5_entryOf := fun w h => List.mem_cons_of_mem _ (List.mem_append_right _ (h))
abbrev rmX5_entryOf : Room := { frames := 0, cells := 0, slots := 0, locals := 0 }
theorem hd_X5_entryOf : yX5_entryOf.cls = RX5 ∧ yX5_entryOf.cls ≠ "java/lang/invoke/MethodHandle" ∧ yX5_entryOf.cls ≠ "java/lang/invoke/VarHandle" ∧ (parseMethodDescriptor yX5_entryOf.desc).map (fun d => d.parameters.length) = some 1 := by decide +kernel
set_option maxHeartbeats 4000000 in
set_option maxRecDepth 100000 in
theorem c_X5_entryOf (l : Launch) (G : zG_t) (itsMark : Int32) (R : zS_t) (hIR : zIR R) : zCI l G.1 (zty G) yX5_entryOf wsX5_entryOf rmX5_entryOf [.ref (G.2.2 6 0), .int itsMark] (zWR G R) ((mX5_entryOf itsMark R)) (zWR G R) := by
  obtain ⟨X, hE⟩ : ∃ z, mX5_entryOf itsMark R = z := ⟨_, rfl⟩
  rw [hE]
  refine zb_I (cc := cX5_entryOf) (maxL := 4) (by decide) rfl (Nat.le_of_ble_eq_true rfl) ?_
  intro p e s m args below meth c Q A F hret
  show zW p l e rmX5_entryOf s m args below meth c 0 0 Q G.1 A 4 (zWR G R) [(0, .ref (G.2.2 6 0)), (1, .int itsMark)] 0 []
  have k_m1 : Int32.toInt (-1) = -1 := by decide
  have k_0 : Int32.toInt 0 = 0 := by decide
  have k_1 : Int32.toInt 1 = 1 := by decide
  obtain ⟨⟨i69, i70⟩, ⟨i71, i72⟩, ⟨i73, i74⟩, ⟨i75, i76⟩, ⟨i77, i78⟩, hIR_b14, hIR_p15⟩ := id hIR
  unfold mX5_entryOf at hE
  refine zi_iconst (pc := 0) (v := (-1)) F dX5_entryOf_0 rfl ?_
  refine zi_istore_n (pc := 1) (lv' := [(0, .ref (G.2.2 6 0)), (1, .int itsMark), (2, .int (-1))]) F dX5_entryOf_1 (by decide) rfl ?_
  refine zi_iconst (pc := 2) (v := 0) F dX5_entryOf_2 rfl ?_
  refine zi_istore_n (pc := 3) (lv' := [(0, .ref (G.2.2 6 0)), (1, .int itsMark), (2, .int (-1)), (3, .int 0)]) F dX5_entryOf_3 (by decide) rfl ?_
  have hL4 : ∀ (n22 : Nat) (k2_20 : Int32) (k3_21 : Int32), (0 ≤ Int32.toInt k3_21) ∧ (Int32.toInt k3_21 ≤ 12) ∧ (-1 ≤ Int32.toInt k2_20) ∧ (Int32.toInt k2_20 < Int32.toInt (R 12 0)) → 13 - Int32.toInt k3_21 ≤ (n22 : Int) → ∀ Y23, mX5_entryOf_L4 itsMark R n22 k2_20 k3_21 = Y23 → (((0 ≤ Int32.toInt Y23.2) ∧ (Int32.toInt Y23.2 ≤ 12) ∧ (-1 ≤ Int32.toInt Y23.1) ∧ (Int32.toInt Y23.1 < Int32.toInt (R 12 0))) → zW p l e rmX5_entryOf s m args below meth c 0 0 Q G.1 A 4 (zWR G R) [(0, .ref (G.2.2 6 0)), (1, .int itsMark), (2, .int Y23.1), (3, .int Y23.2)] 41 []) → zW p l e rmX5_entryOf s m args below meth c 0 0 Q G.1 A 4 (zWR G R) [(0, .ref (G.2.2 6 0)), (1, .int itsMark), (2, .int k2_20), (3, .int k3_21)] 4 [] := by
    intro n22
    induction n22 with
    | zero =>
      intro k2_20 k3_21 hI hM9
      obtain ⟨i24, i25, i26, i27⟩ := id hI
      exact absurd hM9 (by omega)
    | succ n22 ih =>
      intro k2_20 k3_21 hI hM9 Y23 hE hK
      obtain ⟨i28, i29, i30, i31⟩ := id hI
      rw [mX5_entryOf_L4.eq_2] at hE
      refine zi_iload_n (pc := 4) F dX5_entryOf_4 3 rfl ?_
      refine zi_aload_n (pc := 5) F dX5_entryOf_5 0 rfl ?_
      refine zi_get (pc := 6) (C := RX5) (T := TX5) (N := 27) (v := .int (R 12 0)) F (hw_X5_entryOf_X5) 0 rfl rfl 12 (by decide) (List.mem_of_getElem? (i := 1) rfl) rfl rfl dX5_entryOf_6 ?_
      refine zi_icmp_ge (pc := 9) (tgt := 41) F dX5_entryOf_9 (by decide) (fun c32 => ?_) (fun c32 => ?_)
      · have hE := zite_t hE c32
        have t33 := zt_le c32
        subst hE
        refine zi_sub [0, 1, 2, 3] rfl ?_
        exact hK (⟨by (show 0 ≤ Int32.toInt k3_21; omega), by (show Int32.toInt k3_21 ≤ 12; omega), by (show -1 ≤ Int32.toInt k2_20; omega), by (show Int32.toInt k2_20 < Int32.toInt (R 12 0); omega)⟩)
      · have hE := zite_f hE c32
        have t34 := zt_nle c32
        refine zi_aload_n (pc := 12) F dX5_entryOf_12 0 rfl ?_
        refine zi_get (pc := 13) (C := RX5) (T := TX5) (N := 27) (v := .ref (G.2.2 6 9)) F (hw_X5_entryOf_X5) 0 rfl rfl 16 (by decide) (List.mem_of_getElem? (i := 2) rfl) rfl rfl dX5_entryOf_13 ?_
        refine zi_iload_n (pc := 16) F dX5_entryOf_16 3 rfl ?_
        refine zi_iald (pc := 17) (v := (R 16 k3_21.toNatClampNeg)) F 9 0 rfl rfl (zin (a := k3_21) (by omega) (by omega)) rfl dX5_entryOf_17 ?_
        refine zi_iload_n (pc := 18) F dX5_entryOf_18 1 rfl ?_
        refine zi_icmp_ne (pc := 19) (tgt := 33) F dX5_entryOf_19 (by decide) (fun c35 => ?_) (fun c35 => ?_)
        · have hE := zite_f hE c35
          have t36 := zt_ne c35
          refine zi_iload_n (pc := 33) F dX5_entryOf_33 2 rfl ?_
          refine zi_istore_n (pc := 34) (lv' := [(0, .ref (G.2.2 6 0)), (1, .int itsMark), (2, .int k2_20), (3, .int k3_21)]) F dX5_entryOf_34 (by decide) rfl ?_
          try have t39 := zt_add (a := k3_21) (b := 1) (by omega) (by omega)
          obtain ⟨y37, e38⟩ : ∃ z : Int32, (k3_21 + 1) = z := ⟨_, rfl⟩
          have hE := zbnd_cut hE e38
          have t40 := congrArg Int32.toInt e38
          refine zi_iinc (pc := 35) (lv' := [(0, .ref (G.2.2 6 0)), (1, .int itsMark), (2, .int k2_20), (3, .int y37)]) F dX5_entryOf_35 3 rfl e38 (by decide) rfl ?_
          refine zi_goto (pc := 38) (tgt := 4) F dX5_entryOf_38 (by decide) ?_
          refine zi_sub [0, 1, 2, 3] rfl ?_
          exact ih k2_20 y37 (⟨by (show 0 ≤ Int32.toInt y37; omega), by (show Int32.toInt y37 ≤ 12; omega), by (show -1 ≤ Int32.toInt k2_20; omega), by (show Int32.toInt k2_20 < Int32.toInt (R 12 0); omega)⟩) (by omega) _ hE hK
        · have hE := zite_t hE c35
          have t41 := congrArg Int32.toInt c35
          refine zi_aload_n (pc := 22) F dX5_entryOf_22 0 rfl ?_
          refine zi_get (pc := 23) (C := RX5) (T := TX5) (N := 27) (v := .int (R 12 0)) F (hw_X5_entryOf_X5) 0 rfl rfl 12 (by decide) (List.mem_of_getElem? (i := 1) rfl) rfl rfl dX5_entryOf_23 ?_
          refine zi_iconst (pc := 26) (v := 1) F dX5_entryOf_26 rfl ?_
          refine zi_isub (pc := 27) F dX5_entryOf_27 ?_
          refine zi_iload_n (pc := 28) F dX5_entryOf_28 3 rfl ?_
          refine zi_isub (pc := 29) F dX5_entryOf_29 ?_
          refine zi_goto (pc := 30) (tgt := 34) F dX5_entryOf_30 (by decide) ?_
          try have t44 := zt_sub (a := (R 12 0)) (b := 1) (by omega) (by omega)
          try have t45 := zt_sub (a := ((R 12 0) - 1)) (b := k3_21) (by omega) (by omega)
          refine zi_topi (fun y42 e43 => ?_)
          have hE := zbnd_cut hE e43
          have t46 := congrArg Int32.toInt e43
          refine zi_istore_n (pc := 34) (lv' := [(0, .ref (G.2.2 6 0)), (1, .int itsMark), (2, .int y42), (3, .int k3_21)]) F dX5_entryOf_34 (by decide) rfl ?_
          try have t49 := zt_add (a := k3_21) (b := 1) (by omega) (by omega)
          obtain ⟨y47, e48⟩ : ∃ z : Int32, (k3_21 + 1) = z := ⟨_, rfl⟩
          have hE := zbnd_cut hE e48
          have t50 := congrArg Int32.toInt e48
          refine zi_iinc (pc := 35) (lv' := [(0, .ref (G.2.2 6 0)), (1, .int itsMark), (2, .int y42), (3, .int y47)]) F dX5_entryOf_35 3 rfl e48 (by decide) rfl ?_
          refine zi_goto (pc := 38) (tgt := 4) F dX5_entryOf_38 (by decide) ?_
          refine zi_sub [0, 1, 2, 3] rfl ?_
          exact ih y42 y47 (⟨by (show 0 ≤ Int32.toInt y47; omega), by (show Int32.toInt y47 ≤ 12; omega), by (show -1 ≤ Int32.toInt y42; omega), by (show Int32.toInt y42 < Int32.toInt (R 12 0); omega)⟩) (by omega) _ hE hK
  obtain ⟨⟨k2_51, k3_52⟩, e53⟩ : ∃ z, mX5_entryOf_L4 itsMark R 13 (-1) 0 = z := ⟨_, rfl⟩
  have hE := zbnd2_cut hE e53
  refine hL4 13 (-1) 0 (⟨by (show 0 ≤ Int32.toInt 0; omega), by (show Int32.toInt 0 ≤ 12; omega), by (show -1 ≤ Int32.toInt (-1); omega), by (show Int32.toInt (-1) < Int32.toInt (R 12 0); omega)⟩) (by omega) _ e53 (fun hI54 => ?_)
  have hI54 : (0 ≤ Int32.toInt k3_52) ∧ (Int32.toInt k3_52 ≤ 12) ∧ (-1 ≤ Int32.toInt k2_51) ∧ (Int32.toInt k2_51 < Int32.toInt (R 12 0)) := hI54
  obtain ⟨i55, i56, i57, i58⟩ := id hI54
  show zW p l e rmX5_entryOf s m args below meth c 0 0 Q G.1 A 4 (zWR G R) [(0, .ref (G.2.2 6 0)), (1, .int itsMark), (2, .int k2_51), (3, .int k3_52)] 41 []
  refine zi_iload_n (pc := 41) F dX5_entryOf_41 2 rfl ?_
  subst hE
  exact hret _ _ dX5_entryOf_42
/-! X5_layer -/
def mX5_layer_S7 (which : Int32) (byi : Int32) (y1 : Int32) (R : zS_t) : Int32 := if which = 1 then (if y1 = 7 then (zbnd (mX5_thingOf (R 10 byi.toNatClampNeg) R) (fun r37 => r37)) else (-1)) else (-1)
def mX5_layer_S34 (byi : Int32) (w15 : Int32) (R : zS_t) : zS_t := if w15 < 0 then R else (zsF R 18 (upd (R 18) w15.toNatClampNeg (R 8 byi.toNatClampNeg)))
def mX5_layer_S64 (k5_331 : Int32) (R332 : zS_t) : Int32 := if ((R332 21 k5_331.toNatClampNeg) &&& 1) = 1 then 1 else 0
def mX5_layer_S84 (which : Int32) (y1 : Int32) (k5_331 : Int32) (R332 : zS_t) : zS_t := if which = 2 then (if y1 = 5 then (if ((R332 21 k5_331.toNatClampNeg) &&& 2) = 2 then (zsF R332 19 (upd (R332 19) k5_331.toNatClampNeg ((R332 19 k5_331.toNatClampNeg) ||| 1))) else R332) else R332) else R332
def mX5_layer_S118 (which : Int32) (y1 : Int32) (k5_331 : Int32) (w365 : Int32) (R380 : zS_t) : zS_t := if which = 2 then (if y1 = 6 then (if w365 = 0 then R380 else (zsF R380 19 (upd (R380 19) k5_331.toNatClampNeg (((R380 19 k5_331.toNatClampNeg) &&& 4) ||| 2)))) else R380) else R380
def mX5_layer_S152 (which : Int32) (y1 : Int32) (k5_331 : Int32) (w365 : Int32) (R421 : zS_t) : zS_t := if which = 3 then (if w365 = 0 then R421 else (if y1 = 3 then (if y1 = 3 then (zsF R421 20 (upd (R421 20) k5_331.toNatClampNeg 1)) else (zsF R421 20 (upd (R421 20) k5_331.toNatClampNeg 4))) else (if y1 = 4 then (if y1 = 3 then (zsF R421 20 (upd (R421 20) k5_331.toNatClampNeg 1)) else (zsF R421 20 (upd (R421 20) k5_331.toNatClampNeg 4))) else R421))) else R421
def mX5_layer_S189 (which : Int32) (byi : Int32) (y1 : Int32) (k5_331 : Int32) (w365 : Int32) (R471 : zS_t) : zS_t := if which = 4 then (if w365 = 0 then R471 else (if y1 = 2 then (if (R471 18 k5_331.toNatClampNeg) = (R471 18 byi.toNatClampNeg) then (zsF R471 20 (upd (R471 20) k5_331.toNatClampNeg ((R471 20 k5_331.toNatClampNeg) + 2))) else R471) else R471)) else R471
def mX5_layer_S231 (which : Int32) (y1 : Int32) (k5_331 : Int32) (w365 : Int32) (R533 : zS_t) : zS_t := if which = 5 then (if w365 = 0 then R533 else (if y1 = 8 then (if (R533 22 k5_331.toNatClampNeg) < 3 then R533 else (zsF R533 20 (upd (R533 20) k5_331.toNatClampNeg ((R533 20 k5_331.toNatClampNeg) * 2)))) else R533)) else R533
def mX5_layer_L55 (which : Int32) (byi : Int32) (y1 : Int32) : Nat → Int32 → zS_t → Int32 × zS_t
  | 0, k5_331, R332 => (k5_331, R332)
  | n333 + 1, k5_331, R332 => if (R332 6 0) ≤ k5_331 then (k5_331, R332) else (zbnd (mX5_layer_S64 k5_331 R332) (fun w365 => zbnd (mX5_layer_S84 which y1 k5_331 R332) (fun R380 => zbnd (mX5_layer_S118 which y1 k5_331 w365 R380) (fun R421 => zbnd (mX5_layer_S152 which y1 k5_331 w365 R421) (fun R471 => zbnd (mX5_layer_S189 which byi y1 k5_331 w365 R471) (fun R533 => zbnd (mX5_layer_S231 which y1 k5_331 w365 R533) (fun R583 => zbnd ((k5_331 + 1)) (fun y621 => mX5_layer_L55 which byi y1 n333 y621 R583))))))))
def mX5_layer (which : Int32) (byi : Int32) (R : zS_t) : zS_t := zbnd ((R 7 byi.toNatClampNeg)) (fun y1 => zbnd (mX5_layer_S7 which byi y1 R) (fun w15 => zbnd (mX5_layer_S34 byi w15 R) (fun R45 => zbnd2 (mX5_layer_L55 which byi y1 11 0 R45) (fun k5_625 R626 => R626))))
set_option maxHeartbeats 4000000 in
set_option maxRecDepth 100000 in
theorem pp_X5_layer (which : Int32) (byi : Int32) (R : zS_t) (hIR : zIR R) (hx0 : 0 ≤ Int32.toInt byi ∧ Int32.toInt byi < 10) : (zIR (mX5_layer which byi R)) := by
  obtain ⟨X, hE⟩ : ∃ z, mX5_layer which byi R = z := ⟨_, rfl⟩
  rw [hE]
  have k_m1 : Int32.toInt (-1) = -1 := by decide
  have k_0 : Int32.toInt 0 = 0 := by decide
  have k_1 : Int32.toInt 1 = 1 := by decide
  have k_2 : Int32.toInt 2 = 2 := by decide
  have k_3 : Int32.toInt 3 = 3 := by decide
  have k_4 : Int32.toInt 4 = 4 := by decide
  have k_5 : Int32.toInt 5 = 5 := by decide
  have k_6 : Int32.toInt 6 = 6 := by decide
  have k_7 : Int32.toInt 7 = 7 := by decide
  have k_8 : Int32.toInt 8 = 8 := by decide
  obtain ⟨⟨i493, i494⟩, ⟨i495, i496⟩, ⟨i497, i498⟩, ⟨i499, i500⟩, ⟨i501, i502⟩, hIR_b14, hIR_p15⟩ := id hIR
  unfold mX5_layer at hE
  obtain ⟨y1, e2⟩ : ∃ z : Int32, (R 7 byi.toNatClampNeg) = z := ⟨_, rfl⟩
  have hE := zbnd_cut hE e2
  have t3 := congrArg Int32.toInt e2
  obtain ⟨w15, e16⟩ : ∃ z, mX5_layer_S7 which byi y1 R = z := ⟨_, rfl⟩
  have hE := zbnd_cut hE e16
  have hQ17 : (Int32.toInt w15 < Int32.toInt (R 6 0)) := by
    have hE := e16
    unfold mX5_layer_S7 at hE
    by_cases c18 : which = 1
    · have hE := zite_t hE c18
      have t19 := congrArg Int32.toInt c18
      by_cases c20 : y1 = 7
      · have hE := zite_t hE c20
        have t21 := congrArg Int32.toInt c20
        have pp25 := pp_X5_thingOf (R 10 byi.toNatClampNeg) R (hIR)
        obtain ⟨r22, e23⟩ : ∃ z, mX5_thingOf (R 10 byi.toNatClampNeg) R = z := ⟨_, rfl⟩
        have hE := zbnd_cut hE e23
        rw [e23] at pp25
        have q26 := pp25
        subst hE
        exact by (show Int32.toInt r22 < Int32.toInt (R 6 0); omega)
      · have hE := zite_f hE c20
        have t27 := zt_ne c20
        subst hE
        exact by (show Int32.toInt (-1) < Int32.toInt (R 6 0); omega)
    · have hE := zite_f hE c18
      have t28 := zt_ne c18
      subst hE
      exact by (show Int32.toInt (-1) < Int32.toInt (R 6 0); omega)
  have i29 := hQ17
  obtain ⟨R33, e34⟩ : ∃ z, mX5_layer_S34 byi w15 R = z := ⟨_, rfl⟩
  have hE := zbnd_cut hE e34
  have hQ35 : (zIR R33) := by
    have hE := e34
    unfold mX5_layer_S34 at hE
    by_cases c36 : w15 < 0
    · have hE := zite_t hE c36
      have t37 := zt_lt c36
      subst hE
      exact hIR
    · have hE := zite_f hE c36
      have t38 := zt_nlt c36
      subst hE
      exact hIR
  have hIR33 := hQ35
  obtain ⟨⟨i39, i40⟩, ⟨i41, i42⟩, ⟨i43, i44⟩, ⟨i45, i46⟩, ⟨i47, i48⟩, hIR33_b14, hIR33_p15⟩ := id hIR33
  have hL55 : ∀ (n251 : Nat) (k5_249 : Int32) (R250 : zS_t), (0 ≤ Int32.toInt k5_249) ∧ (Int32.toInt k5_249 ≤ 10) ∧ (zIR R250) → 11 - Int32.toInt k5_249 ≤ (n251 : Int) → ∀ Y252, mX5_layer_L55 which byi y1 n251 k5_249 R250 = Y252 → (0 ≤ Int32.toInt Y252.1) ∧ (Int32.toInt Y252.1 ≤ 10) ∧ (zIR (Y252.2)) := by
    intro n251
    induction n251 with
    | zero =>
      intro k5_249 R250 hI hM9
      obtain ⟨i253, i254, hIR250⟩ := id hI
      obtain ⟨⟨i255, i256⟩, ⟨i257, i258⟩, ⟨i259, i260⟩, ⟨i261, i262⟩, ⟨i263, i264⟩, hIR250_b14, hIR250_p15⟩ := id hIR250
      exact absurd hM9 (by omega)
    | succ n251 ih =>
      intro k5_249 R250 hI hM9 Y252 hE
      obtain ⟨i265, i266, hIR250⟩ := id hI
      obtain ⟨⟨i267, i268⟩, ⟨i269, i270⟩, ⟨i271, i272⟩, ⟨i273, i274⟩, ⟨i275, i276⟩, hIR250_b14, hIR250_p15⟩ := id hIR250
      rw [mX5_layer_L55.eq_2] at hE
      by_cases c277 : (R250 6 0) ≤ k5_249
      · have hE := zite_t hE c277
        have t278 := zt_le c277
        subst hE
        exact ⟨by (show 0 ≤ Int32.toInt k5_249; omega), by (show Int32.toInt k5_249 ≤ 10; omega), hIR250⟩
      · have hE := zite_f hE c277
        have t279 := zt_nle c277
        obtain ⟨w283, e284⟩ : ∃ z, mX5_layer_S64 k5_249 R250 = z := ⟨_, rfl⟩
        have hE := zbnd_cut hE e284
        obtain ⟨R297, e298⟩ : ∃ z, mX5_layer_S84 which y1 k5_249 R250 = z := ⟨_, rfl⟩
        have hE := zbnd_cut hE e298
        have hQ299 : (zIR R297) := by
          have hE := e298
          unfold mX5_layer_S84 at hE
          by_cases c300 : which = 2
          · have hE := zite_t hE c300
            have t301 := congrArg Int32.toInt c300
            by_cases c302 : y1 = 5
            · have hE := zite_t hE c302
              have t303 := congrArg Int32.toInt c302
              by_cases c304 : ((R250 21 k5_249.toNatClampNeg) &&& 2) = 2
              · have hE := zite_t hE c304
                have t305 := congrArg Int32.toInt c304
                subst hE
                exact hIR250
              · have hE := zite_f hE c304
                have t306 := zt_ne c304
                subst hE
                exact hIR250
            · have hE := zite_f hE c302
              have t307 := zt_ne c302
              subst hE
              exact hIR250
          · have hE := zite_f hE c300
            have t308 := zt_ne c300
            subst hE
            exact hIR250
        have hIR297 := hQ299
        obtain ⟨⟨i309, i310⟩, ⟨i311, i312⟩, ⟨i313, i314⟩, ⟨i315, i316⟩, ⟨i317, i318⟩, hIR297_b14, hIR297_p15⟩ := id hIR297
        obtain ⟨R328, e329⟩ : ∃ z, mX5_layer_S118 which y1 k5_249 w283 R297 = z := ⟨_, rfl⟩
        have hE := zbnd_cut hE e329
        have hQ330 : (zIR R328) := by
          have hE := e329
          unfold mX5_layer_S118 at hE
          by_cases c331 : which = 2
          · have hE := zite_t hE c331
            have t332 := congrArg Int32.toInt c331
            by_cases c333 : y1 = 6
            · have hE := zite_t hE c333
              have t334 := congrArg Int32.toInt c333
              by_cases c335 : w283 = 0
              · have hE := zite_t hE c335
                have t336 := congrArg Int32.toInt c335
                subst hE
                exact hIR297
              · have hE := zite_f hE c335
                have t337 := zt_ne c335
                subst hE
                exact hIR297
            · have hE := zite_f hE c333
              have t338 := zt_ne c333
              subst hE
              exact hIR297
          · have hE := zite_f hE c331
            have t339 := zt_ne c331
            subst hE
            exact hIR297
        have hIR328 := hQ330
        obtain ⟨⟨i340, i341⟩, ⟨i342, i343⟩, ⟨i344, i345⟩, ⟨i346, i347⟩, ⟨i348, i349⟩, hIR328_b14, hIR328_p15⟩ := id hIR328
        obtain ⟨R368, e369⟩ : ∃ z, mX5_layer_S152 which y1 k5_249 w283 R328 = z := ⟨_, rfl⟩
        have hE := zbnd_cut hE e369
        have hQ370 : (zIR R368) := by
          have hE := e369
          unfold mX5_layer_S152 at hE
          by_cases c371 : which = 3
          · have hE := zite_t hE c371
            have t372 := congrArg Int32.toInt c371
            by_cases c373 : w283 = 0
            · have hE := zite_t hE c373
              have t374 := congrArg Int32.toInt c373
              subst hE
              exact hIR328
            · have hE := zite_f hE c373
              have t375 := zt_ne c373
              by_cases c376 : y1 = 3
              · have hE := zite_t hE c376
                have t377 := congrArg Int32.toInt c376
                by_cases c378 : y1 = 3
                · have hE := zite_t hE c378
                  have t379 := congrArg Int32.toInt c378
                  subst hE
                  exact hIR328
                · have hE := zite_f hE c378
                  have t380 := zt_ne c378
                  subst hE
                  exact hIR328
              · have hE := zite_f hE c376
                have t381 := zt_ne c376
                by_cases c382 : y1 = 4
                · have hE := zite_t hE c382
                  have t383 := congrArg Int32.toInt c382
                  by_cases c384 : y1 = 3
                  · have hE := zite_t hE c384
                    have t385 := congrArg Int32.toInt c384
                    subst hE
                    exact hIR328
                  · have hE := zite_f hE c384
                    have t386 := zt_ne c384
                    subst hE
                    exact hIR328
                · have hE := zite_f hE c382
                  have t387 := zt_ne c382
                  subst hE
                  exact hIR328
          · have hE := zite_f hE c371
            have t388 := zt_ne c371
            subst hE
            exact hIR328
        have hIR368 := hQ370
        obtain ⟨⟨i389, i390⟩, ⟨i391, i392⟩, ⟨i393, i394⟩, ⟨i395, i396⟩, ⟨i397, i398⟩, hIR368_b14, hIR368_p15⟩ := id hIR368
        obtain ⟨R411, e412⟩ : ∃ z, mX5_layer_S189 which byi y1 k5_249 w283 R368 = z := ⟨_, rfl⟩
        have hE := zbnd_cut hE e412
        have hQ413 : (zIR R411) := by
          have hE := e412
          unfold mX5_layer_S189 at hE
          by_cases c414 : which = 4
          · have hE := zite_t hE c414
            have t415 := congrArg Int32.toInt c414
            by_cases c416 : w283 = 0
            · have hE := zite_t hE c416
              have t417 := congrArg Int32.toInt c416
              subst hE
              exact hIR368
            · have hE := zite_f hE c416
              have t418 := zt_ne c416
              by_cases c419 : y1 = 2
              · have hE := zite_t hE c419
                have t420 := congrArg Int32.toInt c419
                by_cases c421 : (R368 18 k5_249.toNatClampNeg) = (R368 18 byi.toNatClampNeg)
                · have hE := zite_t hE c421
                  have t422 := congrArg Int32.toInt c421
                  subst hE
                  exact hIR368
                · have hE := zite_f hE c421
                  have t423 := zt_ne c421
                  subst hE
                  exact hIR368
              · have hE := zite_f hE c419
                have t424 := zt_ne c419
                subst hE
                exact hIR368
          · have hE := zite_f hE c414
            have t425 := zt_ne c414
            subst hE
            exact hIR368
        have hIR411 := hQ413
        obtain ⟨⟨i426, i427⟩, ⟨i428, i429⟩, ⟨i430, i431⟩, ⟨i432, i433⟩, ⟨i434, i435⟩, hIR411_b14, hIR411_p15⟩ := id hIR411
        obtain ⟨R448, e449⟩ : ∃ z, mX5_layer_S231 which y1 k5_249 w283 R411 = z := ⟨_, rfl⟩
        have hE := zbnd_cut hE e449
        have hQ450 : (zIR R448) := by
          have hE := e449
          unfold mX5_layer_S231 at hE
          by_cases c451 : which = 5
          · have hE := zite_t hE c451
            have t452 := congrArg Int32.toInt c451
            by_cases c453 : w283 = 0
            · have hE := zite_t hE c453
              have t454 := congrArg Int32.toInt c453
              subst hE
              exact hIR411
            · have hE := zite_f hE c453
              have t455 := zt_ne c453
              by_cases c456 : y1 = 8
              · have hE := zite_t hE c456
                have t457 := congrArg Int32.toInt c456
                by_cases c458 : (R411 22 k5_249.toNatClampNeg) < 3
                · have hE := zite_t hE c458
                  have t459 := zt_lt c458
                  subst hE
                  exact hIR411
                · have hE := zite_f hE c458
                  have t460 := zt_nlt c458
                  subst hE
                  exact hIR411
              · have hE := zite_f hE c456
                have t461 := zt_ne c456
                subst hE
                exact hIR411
          · have hE := zite_f hE c451
            have t462 := zt_ne c451
            subst hE
            exact hIR411
        have hIR448 := hQ450
        obtain ⟨⟨i463, i464⟩, ⟨i465, i466⟩, ⟨i467, i468⟩, ⟨i469, i470⟩, ⟨i471, i472⟩, hIR448_b14, hIR448_p15⟩ := id hIR448
        try have t475 := zt_add (a := k5_249) (b := 1) (by omega) (by omega)
        obtain ⟨y473, e474⟩ : ∃ z : Int32, (k5_249 + 1) = z := ⟨_, rfl⟩
        have hE := zbnd_cut hE e474
        have t476 := congrArg Int32.toInt e474
        exact ih y473 R448 (⟨by (show 0 ≤ Int32.toInt y473; omega), by (show Int32.toInt y473 ≤ 10; omega), hIR448⟩) (by omega) _ hE
  obtain ⟨⟨k5_477, R478⟩, e479⟩ : ∃ z, mX5_layer_L55 which byi y1 11 0 R33 = z := ⟨_, rfl⟩
  have hE := zbnd2_cut hE e479
  have hI480 := hL55 11 0 R33 (⟨by (show 0 ≤ Int32.toInt 0; omega), by (show Int32.toInt 0 ≤ 10; omega), hIR33⟩) (by omega) _ e479
  have hI480 : (0 ≤ Int32.toInt k5_477) ∧ (Int32.toInt k5_477 ≤ 10) ∧ (zIR R478) := hI480
  obtain ⟨i481, i482, hIR478⟩ := id hI480
  obtain ⟨⟨i483, i484⟩, ⟨i485, i486⟩, ⟨i487, i488⟩, ⟨i489, i490⟩, ⟨i491, i492⟩, hIR478_b14, hIR478_p15⟩ := id hIR478
  subst hE
  exact hIR478
theorem hw_X5_layer_X5 : ∀ w ∈ wsX50, w ∈ wsX5_layer := fun w h => List.mem_cons_of_mem _ (List.mem_append_right _ (h))
abbrev rmX5_layer : Room := { frames := 1, cells := 0, slots := 0, locals := 23 }
theorem hd_X5_layer : yX5_layer.cls = RX5 ∧ yX5_layer.cls ≠ "java/lang/invoke/MethodHandle" ∧ yX5_layer.cls ≠ "java/lang/invoke/VarHandle" ∧ (parseMethodDescriptor yX5_layer.desc).map (fun d => d.parameters.length) = some 2 := by decide +kernel
set_option maxHeartbeats 4000000 in
set_option maxRecDepth 100000 in
theorem c_X5_layer (l : Launch) (G : zG_t) (which : Int32) (byi : Int32) (R : zS_t) (hIR : zIR R) (hx0 : 0 ≤ Int32.toInt byi ∧ Int32.toInt byi < 10) : zCV l G.1 (zty G) yX5_layer wsX5_layer rmX5_layer [.ref (G.2.2 6 0), .int which, .int byi] (zWR G R) (zWR G (mX5_layer which byi R)) := by
  obtain ⟨X, hE⟩ : ∃ z, mX5_layer which byi R = z := ⟨_, rfl⟩
  rw [hE]
  refine zb_V (cc := cX5_layer) (maxL := 7) (by decide) rfl (Nat.le_of_ble_eq_true rfl) ?_
  intro p e s m args below meth c Q A F hret
  show zW p l e rmX5_layer s m args below meth c 0 0 Q G.1 A 7 (zWR G R) [(0, .ref (G.2.2 6 0)), (1, .int which), (2, .int byi)] 0 []
  have k_m1 : Int32.toInt (-1) = -1 := by decide
  have k_0 : Int32.toInt 0 = 0 := by decide
  have k_1 : Int32.toInt 1 = 1 := by decide
  have k_2 : Int32.toInt 2 = 2 := by decide
  have k_3 : Int32.toInt 3 = 3 := by decide
  have k_4 : Int32.toInt 4 = 4 := by decide
  have k_5 : Int32.toInt 5 = 5 := by decide
  have k_6 : Int32.toInt 6 = 6 := by decide
  have k_7 : Int32.toInt 7 = 7 := by decide
  have k_8 : Int32.toInt 8 = 8 := by decide
  obtain ⟨⟨i503, i504⟩, ⟨i505, i506⟩, ⟨i507, i508⟩, ⟨i509, i510⟩, ⟨i511, i512⟩, hIR_b14, hIR_p15⟩ := id hIR
  unfold mX5_layer at hE
  refine zi_aload_n (pc := 0) F dX5_layer_0 0 rfl ?_
  refine zi_get (pc := 1) (C := RX5) (T := TX5) (N := 27) (v := .ref (G.2.2 6 2)) F (hw_X5_layer_X5) 0 rfl rfl 7 (by decide) (List.mem_of_getElem? (i := 1) rfl) rfl rfl dX5_layer_1 ?_
  refine zi_iload_n (pc := 4) F dX5_layer_4 2 rfl ?_
  refine zi_iald (pc := 5) (v := (R 7 byi.toNatClampNeg)) F 2 0 rfl rfl (zin (a := byi) (by omega) (by omega)) rfl dX5_layer_5 ?_
  refine zi_topi (fun y1 e2 => ?_)
  have hE := zbnd_cut hE e2
  have t3 := congrArg Int32.toInt e2
  refine zi_istore_n (pc := 6) (lv' := [(0, .ref (G.2.2 6 0)), (1, .int which), (2, .int byi), (3, .int y1)]) F dX5_layer_6 (by decide) rfl ?_
  obtain ⟨w15, e16⟩ : ∃ z, mX5_layer_S7 which byi y1 R = z := ⟨_, rfl⟩
  have hE := zbnd_cut hE e16
  have hQ17 : (Int32.toInt w15 < Int32.toInt (R 6 0)) := by
    have hE := e16
    unfold mX5_layer_S7 at hE
    by_cases c18 : which = 1
    · have hE := zite_t hE c18
      have t19 := congrArg Int32.toInt c18
      by_cases c20 : y1 = 7
      · have hE := zite_t hE c20
        have t21 := congrArg Int32.toInt c20
        have pp25 := pp_X5_thingOf (R 10 byi.toNatClampNeg) R (hIR)
        obtain ⟨r22, e23⟩ : ∃ z, mX5_thingOf (R 10 byi.toNatClampNeg) R = z := ⟨_, rfl⟩
        have hE := zbnd_cut hE e23
        rw [e23] at pp25
        have q26 := pp25
        subst hE
        exact by (show Int32.toInt r22 < Int32.toInt (R 6 0); omega)
      · have hE := zite_f hE c20
        have t27 := zt_ne c20
        subst hE
        exact by (show Int32.toInt (-1) < Int32.toInt (R 6 0); omega)
    · have hE := zite_f hE c18
      have t28 := zt_ne c18
      subst hE
      exact by (show Int32.toInt (-1) < Int32.toInt (R 6 0); omega)
  have i29 := hQ17
  have hK30 : zW p l e rmX5_layer s m args below meth c 0 0 Q G.1 A 7 (zWR G R) [(0, .ref (G.2.2 6 0)), (1, .int which), (2, .int byi), (3, .int y1)] 32 [.int w15] → zW p l e rmX5_layer s m args below meth c 0 0 Q G.1 A 7 (zWR G R) [(0, .ref (G.2.2 6 0)), (1, .int which), (2, .int byi), (3, .int y1)] 7 [] := by
    intro hK
    have hE := e16
    unfold mX5_layer_S7 at hE
    refine zi_iload_n (pc := 7) F dX5_layer_7 1 rfl ?_
    refine zi_iconst (pc := 8) (v := 1) F dX5_layer_8 rfl ?_
    refine zi_icmp_ne (pc := 9) (tgt := 31) F dX5_layer_9 (by decide) (fun c31 => ?_) (fun c31 => ?_)
    · have hE := zite_f hE c31
      have t32 := zt_ne c31
      refine zi_iconst (pc := 31) (v := (-1)) F dX5_layer_31 rfl ?_
      subst hE
      exact zi_sub [0, 1, 2, 3] rfl hK
    · have hE := zite_t hE c31
      have t33 := congrArg Int32.toInt c31
      refine zi_iload_n (pc := 12) F dX5_layer_12 3 rfl ?_
      refine zi_bipush (pc := 13) (v := 7) F dX5_layer_13 rfl ?_
      refine zi_icmp_ne (pc := 15) (tgt := 31) F dX5_layer_15 (by decide) (fun c34 => ?_) (fun c34 => ?_)
      · have hE := zite_f hE c34
        have t35 := zt_ne c34
        refine zi_iconst (pc := 31) (v := (-1)) F dX5_layer_31 rfl ?_
        subst hE
        exact zi_sub [0, 1, 2, 3] rfl hK
      · have hE := zite_t hE c34
        have t36 := congrArg Int32.toInt c34
        refine zi_aload_n (pc := 18) F dX5_layer_18 0 rfl ?_
        refine zi_aload_n (pc := 19) F dX5_layer_19 0 rfl ?_
        refine zi_get (pc := 20) (C := RX5) (T := TX5) (N := 27) (v := .ref (G.2.2 6 5)) F (hw_X5_layer_X5) 0 rfl rfl 10 (by decide) (List.mem_of_getElem? (i := 2) rfl) rfl rfl dX5_layer_20 ?_
        refine zi_iload_n (pc := 23) F dX5_layer_23 2 rfl ?_
        refine zi_iald (pc := 24) (v := (R 10 byi.toNatClampNeg)) F 5 0 rfl rfl (zin (a := byi) (by omega) (by omega)) rfl dX5_layer_24 ?_
        have hM39 := c_X5_thingOf l G (R 10 byi.toNatClampNeg) R (hIR)
        have pp40 := pp_X5_thingOf (R 10 byi.toNatClampNeg) R (hIR)
        obtain ⟨r37, e38⟩ : ∃ z, mX5_thingOf (R 10 byi.toNatClampNeg) R = z := ⟨_, rfl⟩
        have hE := zbnd_cut hE e38
        rw [e38] at hM39
        rw [e38] at pp40
        have q41 := pp40
        refine zi_callVI (pc := 25) (rest := []) (ws' := zWR G R) F hM39 (cwV 1 F.1.2.2.2.2 gX5_layer_X5_thingOf rfl rfl rfl hd_X5_thingOf ⟨Nat.le_of_ble_eq_true rfl, Nat.le_of_ble_eq_true rfl⟩) 0 rfl rfl _ _ (zw_nil _) (zw_nil _).symm rfl rfl (Nat.le_of_ble_eq_true rfl) dX5_layer_25 ⟨Nat.zero_le _, Nat.zero_le _⟩ ?_
        refine zi_goto (pc := 28) (tgt := 32) F dX5_layer_28 (by decide) ?_
        subst hE
        exact zi_sub [0, 1, 2, 3] rfl hK
  refine hK30 ?_
  refine zi_istore (pc := 32) (lv' := [(0, .ref (G.2.2 6 0)), (1, .int which), (2, .int byi), (3, .int y1), (4, .int w15)]) F dX5_layer_32 (by decide) rfl ?_
  obtain ⟨R45, e46⟩ : ∃ z, mX5_layer_S34 byi w15 R = z := ⟨_, rfl⟩
  have hE := zbnd_cut hE e46
  have hQ47 : (zIR R45) := by
    have hE := e46
    unfold mX5_layer_S34 at hE
    by_cases c48 : w15 < 0
    · have hE := zite_t hE c48
      have t49 := zt_lt c48
      subst hE
      exact hIR
    · have hE := zite_f hE c48
      have t50 := zt_nlt c48
      subst hE
      exact hIR
  have hIR45 := hQ47
  obtain ⟨⟨i51, i52⟩, ⟨i53, i54⟩, ⟨i55, i56⟩, ⟨i57, i58⟩, ⟨i59, i60⟩, hIR45_b14, hIR45_p15⟩ := id hIR45
  have hK61 : zW p l e rmX5_layer s m args below meth c 0 0 Q G.1 A 7 (zWR G R45) [(0, .ref (G.2.2 6 0)), (1, .int which), (2, .int byi), (3, .int y1), (4, .int w15)] 52 [] → zW p l e rmX5_layer s m args below meth c 0 0 Q G.1 A 7 (zWR G R) [(0, .ref (G.2.2 6 0)), (1, .int which), (2, .int byi), (3, .int y1), (4, .int w15)] 34 [] := by
    intro hK
    have hE := e46
    unfold mX5_layer_S34 at hE
    refine zi_iload (pc := 34) F dX5_layer_34 4 rfl ?_
    refine zi_if_lt (pc := 36) (tgt := 52) F dX5_layer_36 (by decide) (fun c62 => ?_) (fun c62 => ?_)
    · have hE := zite_t hE c62
      have t63 := zt_lt c62
      subst hE
      exact zi_sub [0, 1, 2, 3, 4] rfl hK
    · have hE := zite_f hE c62
      have t64 := zt_nlt c62
      refine zi_aload_n (pc := 39) F dX5_layer_39 0 rfl ?_
      refine zi_get (pc := 40) (C := RX5) (T := TX5) (N := 27) (v := .ref (G.2.2 6 11)) F (hw_X5_layer_X5) 0 rfl rfl 18 (by decide) (List.mem_of_getElem? (i := 3) rfl) rfl rfl dX5_layer_40 ?_
      refine zi_iload (pc := 43) F dX5_layer_43 4 rfl ?_
      refine zi_aload_n (pc := 45) F dX5_layer_45 0 rfl ?_
      refine zi_get (pc := 46) (C := RX5) (T := TX5) (N := 27) (v := .ref (G.2.2 6 3)) F (hw_X5_layer_X5) 0 rfl rfl 8 (by decide) (List.mem_of_getElem? (i := 4) rfl) rfl rfl dX5_layer_46 ?_
      refine zi_iload_n (pc := 49) F dX5_layer_49 2 rfl ?_
      refine zi_iald (pc := 50) (v := (R 8 byi.toNatClampNeg)) F 3 0 rfl rfl (zin (a := byi) (by omega) (by omega)) rfl dX5_layer_50 ?_
      refine zi_iast (pc := 51) (ws' := zWR G (zsF R 18 (upd (R 18) w15.toNatClampNeg (R 8 byi.toNatClampNeg)))) F 11 0 rfl rfl (zin (a := w15) (by omega) (by omega)) rfl dX5_layer_51 ?_
      subst hE
      exact zi_sub [0, 1, 2, 3, 4] rfl hK
  refine hK61 ?_
  refine zi_iconst (pc := 52) (v := 0) F dX5_layer_52 rfl ?_
  refine zi_istore (pc := 53) (lv' := [(0, .ref (G.2.2 6 0)), (1, .int which), (2, .int byi), (3, .int y1), (4, .int w15), (5, .int 0)]) F dX5_layer_53 (by decide) rfl ?_
  have hL55 : ∀ (n333 : Nat) (k5_331 : Int32) (R332 : zS_t), (0 ≤ Int32.toInt k5_331) ∧ (Int32.toInt k5_331 ≤ 10) ∧ (zIR R332) → 11 - Int32.toInt k5_331 ≤ (n333 : Int) → ∀ Y334, mX5_layer_L55 which byi y1 n333 k5_331 R332 = Y334 → (((0 ≤ Int32.toInt Y334.1) ∧ (Int32.toInt Y334.1 ≤ 10) ∧ (zIR (Y334.2))) → zW p l e rmX5_layer s m args below meth c 0 0 Q G.1 A 7 (zWR G (Y334.2)) [(0, .ref (G.2.2 6 0)), (1, .int which), (2, .int byi), (3, .int y1), (4, .int w15), (5, .int Y334.1)] 275 []) → zW p l e rmX5_layer s m args below meth c 0 0 Q G.1 A 7 (zWR G R332) [(0, .ref (G.2.2 6 0)), (1, .int which), (2, .int byi), (3, .int y1), (4, .int w15), (5, .int k5_331)] 55 [] := by
    intro n333
    induction n333 with
    | zero =>
      intro k5_331 R332 hI hM9
      obtain ⟨i335, i336, hIR332⟩ := id hI
      obtain ⟨⟨i337, i338⟩, ⟨i339, i340⟩, ⟨i341, i342⟩, ⟨i343, i344⟩, ⟨i345, i346⟩, hIR332_b14, hIR332_p15⟩ := id hIR332
      exact absurd hM9 (by omega)
    | succ n333 ih =>
      intro k5_331 R332 hI hM9 Y334 hE hK
      obtain ⟨i347, i348, hIR332⟩ := id hI
      obtain ⟨⟨i349, i350⟩, ⟨i351, i352⟩, ⟨i353, i354⟩, ⟨i355, i356⟩, ⟨i357, i358⟩, hIR332_b14, hIR332_p15⟩ := id hIR332
      rw [mX5_layer_L55.eq_2] at hE
      refine zi_iload (pc := 55) F dX5_layer_55 5 rfl ?_
      refine zi_aload_n (pc := 57) F dX5_layer_57 0 rfl ?_
      refine zi_get (pc := 58) (C := RX5) (T := TX5) (N := 27) (v := .int (R332 6 0)) F (hw_X5_layer_X5) 0 rfl rfl 6 (by decide) (List.mem_of_getElem? (i := 5) rfl) rfl rfl dX5_layer_58 ?_
      refine zi_icmp_ge (pc := 61) (tgt := 275) F dX5_layer_61 (by decide) (fun c359 => ?_) (fun c359 => ?_)
      · have hE := zite_t hE c359
        have t360 := zt_le c359
        subst hE
        refine zi_sub [0, 1, 2, 3, 4, 5] rfl ?_
        exact hK (⟨by (show 0 ≤ Int32.toInt k5_331; omega), by (show Int32.toInt k5_331 ≤ 10; omega), hIR332⟩)
      · have hE := zite_f hE c359
        have t361 := zt_nle c359
        obtain ⟨w365, e366⟩ : ∃ z, mX5_layer_S64 k5_331 R332 = z := ⟨_, rfl⟩
        have hE := zbnd_cut hE e366
        have hK367 : zW p l e rmX5_layer s m args below meth c 0 0 Q G.1 A 7 (zWR G R332) [(0, .ref (G.2.2 6 0)), (1, .int which), (2, .int byi), (3, .int y1), (4, .int w15), (5, .int k5_331)] 82 [.int w365] → zW p l e rmX5_layer s m args below meth c 0 0 Q G.1 A 7 (zWR G R332) [(0, .ref (G.2.2 6 0)), (1, .int which), (2, .int byi), (3, .int y1), (4, .int w15), (5, .int k5_331)] 64 [] := by
          intro hK
          have hE := e366
          unfold mX5_layer_S64 at hE
          refine zi_aload_n (pc := 64) F dX5_layer_64 0 rfl ?_
          refine zi_get (pc := 65) (C := RX5) (T := TX5) (N := 27) (v := .ref (G.2.2 6 14)) F (hw_X5_layer_X5) 0 rfl rfl 21 (by decide) (List.mem_of_getElem? (i := 6) rfl) rfl rfl dX5_layer_65 ?_
          refine zi_iload (pc := 68) F dX5_layer_68 5 rfl ?_
          refine zi_iald (pc := 70) (v := (R332 21 k5_331.toNatClampNeg)) F 14 0 rfl rfl (zin (a := k5_331) (by omega) (by omega)) rfl dX5_layer_70 ?_
          refine zi_iconst (pc := 71) (v := 1) F dX5_layer_71 rfl ?_
          refine zi_iand (pc := 72) F dX5_layer_72 ?_
          refine zi_iconst (pc := 73) (v := 1) F dX5_layer_73 rfl ?_
          refine zi_icmp_ne (pc := 74) (tgt := 81) F dX5_layer_74 (by decide) (fun c368 => ?_) (fun c368 => ?_)
          · have hE := zite_f hE c368
            have t369 := zt_ne c368
            refine zi_iconst (pc := 81) (v := 0) F dX5_layer_81 rfl ?_
            subst hE
            exact zi_sub [0, 1, 2, 3, 4, 5] rfl hK
          · have hE := zite_t hE c368
            have t370 := congrArg Int32.toInt c368
            refine zi_iconst (pc := 77) (v := 1) F dX5_layer_77 rfl ?_
            refine zi_goto (pc := 78) (tgt := 82) F dX5_layer_78 (by decide) ?_
            subst hE
            exact zi_sub [0, 1, 2, 3, 4, 5] rfl hK
        refine hK367 ?_
        refine zi_istore (pc := 82) (lv' := [(0, .ref (G.2.2 6 0)), (1, .int which), (2, .int byi), (3, .int y1), (4, .int w15), (5, .int k5_331), (6, .int w365)]) F dX5_layer_82 (by decide) rfl ?_
        obtain ⟨R380, e381⟩ : ∃ z, mX5_layer_S84 which y1 k5_331 R332 = z := ⟨_, rfl⟩
        have hE := zbnd_cut hE e381
        have hQ382 : (zIR R380) := by
          have hE := e381
          unfold mX5_layer_S84 at hE
          by_cases c383 : which = 2
          · have hE := zite_t hE c383
            have t384 := congrArg Int32.toInt c383
            by_cases c385 : y1 = 5
            · have hE := zite_t hE c385
              have t386 := congrArg Int32.toInt c385
              by_cases c387 : ((R332 21 k5_331.toNatClampNeg) &&& 2) = 2
              · have hE := zite_t hE c387
                have t388 := congrArg Int32.toInt c387
                subst hE
                exact hIR332
              · have hE := zite_f hE c387
                have t389 := zt_ne c387
                subst hE
                exact hIR332
            · have hE := zite_f hE c385
              have t390 := zt_ne c385
              subst hE
              exact hIR332
          · have hE := zite_f hE c383
            have t391 := zt_ne c383
            subst hE
            exact hIR332
        have hIR380 := hQ382
        obtain ⟨⟨i392, i393⟩, ⟨i394, i395⟩, ⟨i396, i397⟩, ⟨i398, i399⟩, ⟨i400, i401⟩, hIR380_b14, hIR380_p15⟩ := id hIR380
        have hK402 : zW p l e rmX5_layer s m args below meth c 0 0 Q G.1 A 7 (zWR G R380) [(0, .ref (G.2.2 6 0)), (1, .int which), (2, .int byi), (3, .int y1), (4, .int w15), (5, .int k5_331), (6, .int w365)] 118 [] → zW p l e rmX5_layer s m args below meth c 0 0 Q G.1 A 7 (zWR G R332) [(0, .ref (G.2.2 6 0)), (1, .int which), (2, .int byi), (3, .int y1), (4, .int w15), (5, .int k5_331), (6, .int w365)] 84 [] := by
          intro hK
          have hE := e381
          unfold mX5_layer_S84 at hE
          refine zi_iload_n (pc := 84) F dX5_layer_84 1 rfl ?_
          refine zi_iconst (pc := 85) (v := 2) F dX5_layer_85 rfl ?_
          refine zi_icmp_ne (pc := 86) (tgt := 118) F dX5_layer_86 (by decide) (fun c403 => ?_) (fun c403 => ?_)
          · have hE := zite_f hE c403
            have t404 := zt_ne c403
            subst hE
            exact zi_sub [0, 1, 2, 3, 4, 5, 6] rfl hK
          · have hE := zite_t hE c403
            have t405 := congrArg Int32.toInt c403
            refine zi_iload_n (pc := 89) F dX5_layer_89 3 rfl ?_
            refine zi_iconst (pc := 90) (v := 5) F dX5_layer_90 rfl ?_
            refine zi_icmp_ne (pc := 91) (tgt := 118) F dX5_layer_91 (by decide) (fun c406 => ?_) (fun c406 => ?_)
            · have hE := zite_f hE c406
              have t407 := zt_ne c406
              subst hE
              exact zi_sub [0, 1, 2, 3, 4, 5, 6] rfl hK
            · have hE := zite_t hE c406
              have t408 := congrArg Int32.toInt c406
              refine zi_aload_n (pc := 94) F dX5_layer_94 0 rfl ?_
              refine zi_get (pc := 95) (C := RX5) (T := TX5) (N := 27) (v := .ref (G.2.2 6 14)) F (hw_X5_layer_X5) 0 rfl rfl 21 (by decide) (List.mem_of_getElem? (i := 6) rfl) rfl rfl dX5_layer_95 ?_
              refine zi_iload (pc := 98) F dX5_layer_98 5 rfl ?_
              refine zi_iald (pc := 100) (v := (R332 21 k5_331.toNatClampNeg)) F 14 0 rfl rfl (zin (a := k5_331) (by omega) (by omega)) rfl dX5_layer_100 ?_
              refine zi_iconst (pc := 101) (v := 2) F dX5_layer_101 rfl ?_
              refine zi_iand (pc := 102) F dX5_layer_102 ?_
              refine zi_iconst (pc := 103) (v := 2) F dX5_layer_103 rfl ?_
              refine zi_icmp_ne (pc := 104) (tgt := 118) F dX5_layer_104 (by decide) (fun c409 => ?_) (fun c409 => ?_)
              · have hE := zite_f hE c409
                have t410 := zt_ne c409
                subst hE
                exact zi_sub [0, 1, 2, 3, 4, 5, 6] rfl hK
              · have hE := zite_t hE c409
                have t411 := congrArg Int32.toInt c409
                refine zi_aload_n (pc := 107) F dX5_layer_107 0 rfl ?_
                refine zi_get (pc := 108) (C := RX5) (T := TX5) (N := 27) (v := .ref (G.2.2 6 12)) F (hw_X5_layer_X5) 0 rfl rfl 19 (by decide) (List.mem_of_getElem? (i := 7) rfl) rfl rfl dX5_layer_108 ?_
                refine zi_iload (pc := 111) F dX5_layer_111 5 rfl ?_
                refine zi_dup2 (pc := 113) F dX5_layer_113 rfl rfl ?_
                refine zi_iald (pc := 114) (v := (R332 19 k5_331.toNatClampNeg)) F 12 0 rfl rfl (zin (a := k5_331) (by omega) (by omega)) rfl dX5_layer_114 ?_
                refine zi_iconst (pc := 115) (v := 1) F dX5_layer_115 rfl ?_
                refine zi_ior (pc := 116) F dX5_layer_116 ?_
                refine zi_iast (pc := 117) (ws' := zWR G (zsF R332 19 (upd (R332 19) k5_331.toNatClampNeg ((R332 19 k5_331.toNatClampNeg) ||| 1)))) F 12 0 rfl rfl (zin (a := k5_331) (by omega) (by omega)) rfl dX5_layer_117 ?_
                subst hE
                exact zi_sub [0, 1, 2, 3, 4, 5, 6] rfl hK
        refine hK402 ?_
        obtain ⟨R421, e422⟩ : ∃ z, mX5_layer_S118 which y1 k5_331 w365 R380 = z := ⟨_, rfl⟩
        have hE := zbnd_cut hE e422
        have hQ423 : (zIR R421) := by
          have hE := e422
          unfold mX5_layer_S118 at hE
          by_cases c424 : which = 2
          · have hE := zite_t hE c424
            have t425 := congrArg Int32.toInt c424
            by_cases c426 : y1 = 6
            · have hE := zite_t hE c426
              have t427 := congrArg Int32.toInt c426
              by_cases c428 : w365 = 0
              · have hE := zite_t hE c428
                have t429 := congrArg Int32.toInt c428
                subst hE
                exact hIR380
              · have hE := zite_f hE c428
                have t430 := zt_ne c428
                subst hE
                exact hIR380
            · have hE := zite_f hE c426
              have t431 := zt_ne c426
              subst hE
              exact hIR380
          · have hE := zite_f hE c424
            have t432 := zt_ne c424
            subst hE
            exact hIR380
        have hIR421 := hQ423
        obtain ⟨⟨i433, i434⟩, ⟨i435, i436⟩, ⟨i437, i438⟩, ⟨i439, i440⟩, ⟨i441, i442⟩, hIR421_b14, hIR421_p15⟩ := id hIR421
        have hK443 : zW p l e rmX5_layer s m args below meth c 0 0 Q G.1 A 7 (zWR G R421) [(0, .ref (G.2.2 6 0)), (1, .int which), (2, .int byi), (3, .int y1), (4, .int w15), (5, .int k5_331), (6, .int w365)] 152 [] → zW p l e rmX5_layer s m args below meth c 0 0 Q G.1 A 7 (zWR G R380) [(0, .ref (G.2.2 6 0)), (1, .int which), (2, .int byi), (3, .int y1), (4, .int w15), (5, .int k5_331), (6, .int w365)] 118 [] := by
          intro hK
          have hE := e422
          unfold mX5_layer_S118 at hE
          refine zi_iload_n (pc := 118) F dX5_layer_118 1 rfl ?_
          refine zi_iconst (pc := 119) (v := 2) F dX5_layer_119 rfl ?_
          refine zi_icmp_ne (pc := 120) (tgt := 152) F dX5_layer_120 (by decide) (fun c444 => ?_) (fun c444 => ?_)
          · have hE := zite_f hE c444
            have t445 := zt_ne c444
            subst hE
            exact zi_sub [0, 1, 2, 3, 4, 5, 6] rfl hK
          · have hE := zite_t hE c444
            have t446 := congrArg Int32.toInt c444
            refine zi_iload_n (pc := 123) F dX5_layer_123 3 rfl ?_
            refine zi_bipush (pc := 124) (v := 6) F dX5_layer_124 rfl ?_
            refine zi_icmp_ne (pc := 126) (tgt := 152) F dX5_layer_126 (by decide) (fun c447 => ?_) (fun c447 => ?_)
            · have hE := zite_f hE c447
              have t448 := zt_ne c447
              subst hE
              exact zi_sub [0, 1, 2, 3, 4, 5, 6] rfl hK
            · have hE := zite_t hE c447
              have t449 := congrArg Int32.toInt c447
              refine zi_iload (pc := 129) F dX5_layer_129 6 rfl ?_
              refine zi_if_eq (pc := 131) (tgt := 152) F dX5_layer_131 (by decide) (fun c450 => ?_) (fun c450 => ?_)
              · have hE := zite_t hE c450
                have t451 := congrArg Int32.toInt c450
                subst hE
                exact zi_sub [0, 1, 2, 3, 4, 5, 6] rfl hK
              · have hE := zite_f hE c450
                have t452 := zt_ne c450
                refine zi_aload_n (pc := 134) F dX5_layer_134 0 rfl ?_
                refine zi_get (pc := 135) (C := RX5) (T := TX5) (N := 27) (v := .ref (G.2.2 6 12)) F (hw_X5_layer_X5) 0 rfl rfl 19 (by decide) (List.mem_of_getElem? (i := 7) rfl) rfl rfl dX5_layer_135 ?_
                refine zi_iload (pc := 138) F dX5_layer_138 5 rfl ?_
                refine zi_aload_n (pc := 140) F dX5_layer_140 0 rfl ?_
                refine zi_get (pc := 141) (C := RX5) (T := TX5) (N := 27) (v := .ref (G.2.2 6 12)) F (hw_X5_layer_X5) 0 rfl rfl 19 (by decide) (List.mem_of_getElem? (i := 7) rfl) rfl rfl dX5_layer_141 ?_
                refine zi_iload (pc := 144) F dX5_layer_144 5 rfl ?_
                refine zi_iald (pc := 146) (v := (R380 19 k5_331.toNatClampNeg)) F 12 0 rfl rfl (zin (a := k5_331) (by omega) (by omega)) rfl dX5_layer_146 ?_
                refine zi_iconst (pc := 147) (v := 4) F dX5_layer_147 rfl ?_
                refine zi_iand (pc := 148) F dX5_layer_148 ?_
                refine zi_iconst (pc := 149) (v := 2) F dX5_layer_149 rfl ?_
                refine zi_ior (pc := 150) F dX5_layer_150 ?_
                refine zi_iast (pc := 151) (ws' := zWR G (zsF R380 19 (upd (R380 19) k5_331.toNatClampNeg (((R380 19 k5_331.toNatClampNeg) &&& 4) ||| 2)))) F 12 0 rfl rfl (zin (a := k5_331) (by omega) (by omega)) rfl dX5_layer_151 ?_
                subst hE
                exact zi_sub [0, 1, 2, 3, 4, 5, 6] rfl hK
        refine hK443 ?_
        obtain ⟨R471, e472⟩ : ∃ z, mX5_layer_S152 which y1 k5_331 w365 R421 = z := ⟨_, rfl⟩
        have hE := zbnd_cut hE e472
        have hQ473 : (zIR R471) := by
          have hE := e472
          unfold mX5_layer_S152 at hE
          by_cases c474 : which = 3
          · have hE := zite_t hE c474
            have t475 := congrArg Int32.toInt c474
            by_cases c476 : w365 = 0
            · have hE := zite_t hE c476
              have t477 := congrArg Int32.toInt c476
              subst hE
              exact hIR421
            · have hE := zite_f hE c476
              have t478 := zt_ne c476
              by_cases c479 : y1 = 3
              · have hE := zite_t hE c479
                have t480 := congrArg Int32.toInt c479
                by_cases c481 : y1 = 3
                · have hE := zite_t hE c481
                  have t482 := congrArg Int32.toInt c481
                  subst hE
                  exact hIR421
                · have hE := zite_f hE c481
                  have t483 := zt_ne c481
                  subst hE
                  exact hIR421
              · have hE := zite_f hE c479
                have t484 := zt_ne c479
                by_cases c485 : y1 = 4
                · have hE := zite_t hE c485
                  have t486 := congrArg Int32.toInt c485
                  by_cases c487 : y1 = 3
                  · have hE := zite_t hE c487
                    have t488 := congrArg Int32.toInt c487
                    subst hE
                    exact hIR421
                  · have hE := zite_f hE c487
                    have t489 := zt_ne c487
                    subst hE
                    exact hIR421
                · have hE := zite_f hE c485
                  have t490 := zt_ne c485
                  subst hE
                  exact hIR421
          · have hE := zite_f hE c474
            have t491 := zt_ne c474
            subst hE
            exact hIR421
        have hIR471 := hQ473
        obtain ⟨⟨i492, i493⟩, ⟨i494, i495⟩, ⟨i496, i497⟩, ⟨i498, i499⟩, ⟨i500, i501⟩, hIR471_b14, hIR471_p15⟩ := id hIR471
        have hK502 : zW p l e rmX5_layer s m args below meth c 0 0 Q G.1 A 7 (zWR G R471) [(0, .ref (G.2.2 6 0)), (1, .int which), (2, .int byi), (3, .int y1), (4, .int w15), (5, .int k5_331), (6, .int w365)] 189 [] → zW p l e rmX5_layer s m args below meth c 0 0 Q G.1 A 7 (zWR G R421) [(0, .ref (G.2.2 6 0)), (1, .int which), (2, .int byi), (3, .int y1), (4, .int w15), (5, .int k5_331), (6, .int w365)] 152 [] := by
          intro hK
          have hE := e472
          unfold mX5_layer_S152 at hE
          refine zi_iload_n (pc := 152) F dX5_layer_152 1 rfl ?_
          refine zi_iconst (pc := 153) (v := 3) F dX5_layer_153 rfl ?_
          refine zi_icmp_ne (pc := 154) (tgt := 189) F dX5_layer_154 (by decide) (fun c503 => ?_) (fun c503 => ?_)
          · have hE := zite_f hE c503
            have t504 := zt_ne c503
            subst hE
            exact zi_sub [0, 1, 2, 3, 4, 5, 6] rfl hK
          · have hE := zite_t hE c503
            have t505 := congrArg Int32.toInt c503
            refine zi_iload (pc := 157) F dX5_layer_157 6 rfl ?_
            refine zi_if_eq (pc := 159) (tgt := 189) F dX5_layer_159 (by decide) (fun c506 => ?_) (fun c506 => ?_)
            · have hE := zite_t hE c506
              have t507 := congrArg Int32.toInt c506
              subst hE
              exact zi_sub [0, 1, 2, 3, 4, 5, 6] rfl hK
            · have hE := zite_f hE c506
              have t508 := zt_ne c506
              refine zi_iload_n (pc := 162) F dX5_layer_162 3 rfl ?_
              refine zi_iconst (pc := 163) (v := 3) F dX5_layer_163 rfl ?_
              refine zi_icmp_eq (pc := 164) (tgt := 172) F dX5_layer_164 (by decide) (fun c509 => ?_) (fun c509 => ?_)
              · have hE := zite_t hE c509
                have t510 := congrArg Int32.toInt c509
                refine zi_aload_n (pc := 172) F dX5_layer_172 0 rfl ?_
                refine zi_get (pc := 173) (C := RX5) (T := TX5) (N := 27) (v := .ref (G.2.2 6 13)) F (hw_X5_layer_X5) 0 rfl rfl 20 (by decide) (List.mem_of_getElem? (i := 8) rfl) rfl rfl dX5_layer_173 ?_
                refine zi_iload (pc := 176) F dX5_layer_176 5 rfl ?_
                refine zi_iload_n (pc := 178) F dX5_layer_178 3 rfl ?_
                refine zi_iconst (pc := 179) (v := 3) F dX5_layer_179 rfl ?_
                refine zi_icmp_ne (pc := 180) (tgt := 187) F dX5_layer_180 (by decide) (fun c511 => ?_) (fun c511 => ?_)
                · have hE := zite_f hE c511
                  have t512 := zt_ne c511
                  refine zi_iconst (pc := 187) (v := 4) F dX5_layer_187 rfl ?_
                  refine zi_iast (pc := 188) (ws' := zWR G (zsF R421 20 (upd (R421 20) k5_331.toNatClampNeg 4))) F 13 0 rfl rfl (zin (a := k5_331) (by omega) (by omega)) rfl dX5_layer_188 ?_
                  subst hE
                  exact zi_sub [0, 1, 2, 3, 4, 5, 6] rfl hK
                · have hE := zite_t hE c511
                  have t513 := congrArg Int32.toInt c511
                  refine zi_iconst (pc := 183) (v := 1) F dX5_layer_183 rfl ?_
                  refine zi_goto (pc := 184) (tgt := 188) F dX5_layer_184 (by decide) ?_
                  refine zi_iast (pc := 188) (ws' := zWR G (zsF R421 20 (upd (R421 20) k5_331.toNatClampNeg 1))) F 13 0 rfl rfl (zin (a := k5_331) (by omega) (by omega)) rfl dX5_layer_188 ?_
                  subst hE
                  exact zi_sub [0, 1, 2, 3, 4, 5, 6] rfl hK
              · have hE := zite_f hE c509
                have t514 := zt_ne c509
                refine zi_iload_n (pc := 167) F dX5_layer_167 3 rfl ?_
                refine zi_iconst (pc := 168) (v := 4) F dX5_layer_168 rfl ?_
                refine zi_icmp_ne (pc := 169) (tgt := 189) F dX5_layer_169 (by decide) (fun c515 => ?_) (fun c515 => ?_)
                · have hE := zite_f hE c515
                  have t516 := zt_ne c515
                  subst hE
                  exact zi_sub [0, 1, 2, 3, 4, 5, 6] rfl hK
                · have hE := zite_t hE c515
                  have t517 := congrArg Int32.toInt c515
                  refine zi_aload_n (pc := 172) F dX5_layer_172 0 rfl ?_
                  refine zi_get (pc := 173) (C := RX5) (T := TX5) (N := 27) (v := .ref (G.2.2 6 13)) F (hw_X5_layer_X5) 0 rfl rfl 20 (by decide) (List.mem_of_getElem? (i := 8) rfl) rfl rfl dX5_layer_173 ?_
                  refine zi_iload (pc := 176) F dX5_layer_176 5 rfl ?_
                  refine zi_iload_n (pc := 178) F dX5_layer_178 3 rfl ?_
                  refine zi_iconst (pc := 179) (v := 3) F dX5_layer_179 rfl ?_
                  refine zi_icmp_ne (pc := 180) (tgt := 187) F dX5_layer_180 (by decide) (fun c518 => ?_) (fun c518 => ?_)
                  · have hE := zite_f hE c518
                    have t519 := zt_ne c518
                    refine zi_iconst (pc := 187) (v := 4) F dX5_layer_187 rfl ?_
                    refine zi_iast (pc := 188) (ws' := zWR G (zsF R421 20 (upd (R421 20) k5_331.toNatClampNeg 4))) F 13 0 rfl rfl (zin (a := k5_331) (by omega) (by omega)) rfl dX5_layer_188 ?_
                    subst hE
                    exact zi_sub [0, 1, 2, 3, 4, 5, 6] rfl hK
                  · have hE := zite_t hE c518
                    have t520 := congrArg Int32.toInt c518
                    refine zi_iconst (pc := 183) (v := 1) F dX5_layer_183 rfl ?_
                    refine zi_goto (pc := 184) (tgt := 188) F dX5_layer_184 (by decide) ?_
                    refine zi_iast (pc := 188) (ws' := zWR G (zsF R421 20 (upd (R421 20) k5_331.toNatClampNeg 1))) F 13 0 rfl rfl (zin (a := k5_331) (by omega) (by omega)) rfl dX5_layer_188 ?_
                    subst hE
                    exact zi_sub [0, 1, 2, 3, 4, 5, 6] rfl hK
        refine hK502 ?_
        obtain ⟨R533, e534⟩ : ∃ z, mX5_layer_S189 which byi y1 k5_331 w365 R471 = z := ⟨_, rfl⟩
        have hE := zbnd_cut hE e534
        have hQ535 : (zIR R533) := by
          have hE := e534
          unfold mX5_layer_S189 at hE
          by_cases c536 : which = 4
          · have hE := zite_t hE c536
            have t537 := congrArg Int32.toInt c536
            by_cases c538 : w365 = 0
            · have hE := zite_t hE c538
              have t539 := congrArg Int32.toInt c538
              subst hE
              exact hIR471
            · have hE := zite_f hE c538
              have t540 := zt_ne c538
              by_cases c541 : y1 = 2
              · have hE := zite_t hE c541
                have t542 := congrArg Int32.toInt c541
                by_cases c543 : (R471 18 k5_331.toNatClampNeg) = (R471 18 byi.toNatClampNeg)
                · have hE := zite_t hE c543
                  have t544 := congrArg Int32.toInt c543
                  subst hE
                  exact hIR471
                · have hE := zite_f hE c543
                  have t545 := zt_ne c543
                  subst hE
                  exact hIR471
              · have hE := zite_f hE c541
                have t546 := zt_ne c541
                subst hE
                exact hIR471
          · have hE := zite_f hE c536
            have t547 := zt_ne c536
            subst hE
            exact hIR471
        have hIR533 := hQ535
        obtain ⟨⟨i548, i549⟩, ⟨i550, i551⟩, ⟨i552, i553⟩, ⟨i554, i555⟩, ⟨i556, i557⟩, hIR533_b14, hIR533_p15⟩ := id hIR533
        have hK558 : zW p l e rmX5_layer s m args below meth c 0 0 Q G.1 A 7 (zWR G R533) [(0, .ref (G.2.2 6 0)), (1, .int which), (2, .int byi), (3, .int y1), (4, .int w15), (5, .int k5_331), (6, .int w365)] 231 [] → zW p l e rmX5_layer s m args below meth c 0 0 Q G.1 A 7 (zWR G R471) [(0, .ref (G.2.2 6 0)), (1, .int which), (2, .int byi), (3, .int y1), (4, .int w15), (5, .int k5_331), (6, .int w365)] 189 [] := by
          intro hK
          have hE := e534
          unfold mX5_layer_S189 at hE
          refine zi_iload_n (pc := 189) F dX5_layer_189 1 rfl ?_
          refine zi_iconst (pc := 190) (v := 4) F dX5_layer_190 rfl ?_
          refine zi_icmp_ne (pc := 191) (tgt := 231) F dX5_layer_191 (by decide) (fun c559 => ?_) (fun c559 => ?_)
          · have hE := zite_f hE c559
            have t560 := zt_ne c559
            subst hE
            exact zi_sub [0, 1, 2, 3, 4, 5, 6] rfl hK
          · have hE := zite_t hE c559
            have t561 := congrArg Int32.toInt c559
            refine zi_iload (pc := 194) F dX5_layer_194 6 rfl ?_
            refine zi_if_eq (pc := 196) (tgt := 231) F dX5_layer_196 (by decide) (fun c562 => ?_) (fun c562 => ?_)
            · have hE := zite_t hE c562
              have t563 := congrArg Int32.toInt c562
              subst hE
              exact zi_sub [0, 1, 2, 3, 4, 5, 6] rfl hK
            · have hE := zite_f hE c562
              have t564 := zt_ne c562
              refine zi_iload_n (pc := 199) F dX5_layer_199 3 rfl ?_
              refine zi_iconst (pc := 200) (v := 2) F dX5_layer_200 rfl ?_
              refine zi_icmp_ne (pc := 201) (tgt := 231) F dX5_layer_201 (by decide) (fun c565 => ?_) (fun c565 => ?_)
              · have hE := zite_f hE c565
                have t566 := zt_ne c565
                subst hE
                exact zi_sub [0, 1, 2, 3, 4, 5, 6] rfl hK
              · have hE := zite_t hE c565
                have t567 := congrArg Int32.toInt c565
                refine zi_aload_n (pc := 204) F dX5_layer_204 0 rfl ?_
                refine zi_get (pc := 205) (C := RX5) (T := TX5) (N := 27) (v := .ref (G.2.2 6 11)) F (hw_X5_layer_X5) 0 rfl rfl 18 (by decide) (List.mem_of_getElem? (i := 3) rfl) rfl rfl dX5_layer_205 ?_
                refine zi_iload (pc := 208) F dX5_layer_208 5 rfl ?_
                refine zi_iald (pc := 210) (v := (R471 18 k5_331.toNatClampNeg)) F 11 0 rfl rfl (zin (a := k5_331) (by omega) (by omega)) rfl dX5_layer_210 ?_
                refine zi_aload_n (pc := 211) F dX5_layer_211 0 rfl ?_
                refine zi_get (pc := 212) (C := RX5) (T := TX5) (N := 27) (v := .ref (G.2.2 6 11)) F (hw_X5_layer_X5) 0 rfl rfl 18 (by decide) (List.mem_of_getElem? (i := 3) rfl) rfl rfl dX5_layer_212 ?_
                refine zi_iload_n (pc := 215) F dX5_layer_215 2 rfl ?_
                refine zi_iald (pc := 216) (v := (R471 18 byi.toNatClampNeg)) F 11 0 rfl rfl (zin (a := byi) (by omega) (by omega)) rfl dX5_layer_216 ?_
                refine zi_icmp_ne (pc := 217) (tgt := 231) F dX5_layer_217 (by decide) (fun c568 => ?_) (fun c568 => ?_)
                · have hE := zite_f hE c568
                  have t569 := zt_ne c568
                  subst hE
                  exact zi_sub [0, 1, 2, 3, 4, 5, 6] rfl hK
                · have hE := zite_t hE c568
                  have t570 := congrArg Int32.toInt c568
                  refine zi_aload_n (pc := 220) F dX5_layer_220 0 rfl ?_
                  refine zi_get (pc := 221) (C := RX5) (T := TX5) (N := 27) (v := .ref (G.2.2 6 13)) F (hw_X5_layer_X5) 0 rfl rfl 20 (by decide) (List.mem_of_getElem? (i := 8) rfl) rfl rfl dX5_layer_221 ?_
                  refine zi_iload (pc := 224) F dX5_layer_224 5 rfl ?_
                  refine zi_dup2 (pc := 226) F dX5_layer_226 rfl rfl ?_
                  refine zi_iald (pc := 227) (v := (R471 20 k5_331.toNatClampNeg)) F 13 0 rfl rfl (zin (a := k5_331) (by omega) (by omega)) rfl dX5_layer_227 ?_
                  refine zi_iconst (pc := 228) (v := 2) F dX5_layer_228 rfl ?_
                  refine zi_iadd (pc := 229) F dX5_layer_229 ?_
                  refine zi_iast (pc := 230) (ws' := zWR G (zsF R471 20 (upd (R471 20) k5_331.toNatClampNeg ((R471 20 k5_331.toNatClampNeg) + 2)))) F 13 0 rfl rfl (zin (a := k5_331) (by omega) (by omega)) rfl dX5_layer_230 ?_
                  subst hE
                  exact zi_sub [0, 1, 2, 3, 4, 5, 6] rfl hK
        refine hK558 ?_
        obtain ⟨R583, e584⟩ : ∃ z, mX5_layer_S231 which y1 k5_331 w365 R533 = z := ⟨_, rfl⟩
        have hE := zbnd_cut hE e584
        have hQ585 : (zIR R583) := by
          have hE := e584
          unfold mX5_layer_S231 at hE
          by_cases c586 : which = 5
          · have hE := zite_t hE c586
            have t587 := congrArg Int32.toInt c586
            by_cases c588 : w365 = 0
            · have hE := zite_t hE c588
              have t589 := congrArg Int32.toInt c588
              subst hE
              exact hIR533
            · have hE := zite_f hE c588
              have t590 := zt_ne c588
              by_cases c591 : y1 = 8
              · have hE := zite_t hE c591
                have t592 := congrArg Int32.toInt c591
                by_cases c593 : (R533 22 k5_331.toNatClampNeg) < 3
                · have hE := zite_t hE c593
                  have t594 := zt_lt c593
                  subst hE
                  exact hIR533
                · have hE := zite_f hE c593
                  have t595 := zt_nlt c593
                  subst hE
                  exact hIR533
              · have hE := zite_f hE c591
                have t596 := zt_ne c591
                subst hE
                exact hIR533
          · have hE := zite_f hE c586
            have t597 := zt_ne c586
            subst hE
            exact hIR533
        have hIR583 := hQ585
        obtain ⟨⟨i598, i599⟩, ⟨i600, i601⟩, ⟨i602, i603⟩, ⟨i604, i605⟩, ⟨i606, i607⟩, hIR583_b14, hIR583_p15⟩ := id hIR583
        have hK608 : zW p l e rmX5_layer s m args below meth c 0 0 Q G.1 A 7 (zWR G R583) [(0, .ref (G.2.2 6 0)), (1, .int which), (2, .int byi), (3, .int y1), (4, .int w15), (5, .int k5_331), (6, .int w365)] 269 [] → zW p l e rmX5_layer s m args below meth c 0 0 Q G.1 A 7 (zWR G R533) [(0, .ref (G.2.2 6 0)), (1, .int which), (2, .int byi), (3, .int y1), (4, .int w15), (5, .int k5_331), (6, .int w365)] 231 [] := by
          intro hK
          have hE := e584
          unfold mX5_layer_S231 at hE
          refine zi_iload_n (pc := 231) F dX5_layer_231 1 rfl ?_
          refine zi_iconst (pc := 232) (v := 5) F dX5_layer_232 rfl ?_
          refine zi_icmp_ne (pc := 233) (tgt := 269) F dX5_layer_233 (by decide) (fun c609 => ?_) (fun c609 => ?_)
          · have hE := zite_f hE c609
            have t610 := zt_ne c609
            subst hE
            exact zi_sub [0, 1, 2, 3, 4, 5, 6] rfl hK
          · have hE := zite_t hE c609
            have t611 := congrArg Int32.toInt c609
            refine zi_iload (pc := 236) F dX5_layer_236 6 rfl ?_
            refine zi_if_eq (pc := 238) (tgt := 269) F dX5_layer_238 (by decide) (fun c612 => ?_) (fun c612 => ?_)
            · have hE := zite_t hE c612
              have t613 := congrArg Int32.toInt c612
              subst hE
              exact zi_sub [0, 1, 2, 3, 4, 5, 6] rfl hK
            · have hE := zite_f hE c612
              have t614 := zt_ne c612
              refine zi_iload_n (pc := 241) F dX5_layer_241 3 rfl ?_
              refine zi_bipush (pc := 242) (v := 8) F dX5_layer_242 rfl ?_
              refine zi_icmp_ne (pc := 244) (tgt := 269) F dX5_layer_244 (by decide) (fun c615 => ?_) (fun c615 => ?_)
              · have hE := zite_f hE c615
                have t616 := zt_ne c615
                subst hE
                exact zi_sub [0, 1, 2, 3, 4, 5, 6] rfl hK
              · have hE := zite_t hE c615
                have t617 := congrArg Int32.toInt c615
                refine zi_aload_n (pc := 247) F dX5_layer_247 0 rfl ?_
                refine zi_get (pc := 248) (C := RX5) (T := TX5) (N := 27) (v := .ref (G.2.2 6 15)) F (hw_X5_layer_X5) 0 rfl rfl 22 (by decide) (List.mem_of_getElem? (i := 9) rfl) rfl rfl dX5_layer_248 ?_
                refine zi_iload (pc := 251) F dX5_layer_251 5 rfl ?_
                refine zi_iald (pc := 253) (v := (R533 22 k5_331.toNatClampNeg)) F 15 0 rfl rfl (zin (a := k5_331) (by omega) (by omega)) rfl dX5_layer_253 ?_
                refine zi_iconst (pc := 254) (v := 3) F dX5_layer_254 rfl ?_
                refine zi_icmp_lt (pc := 255) (tgt := 269) F dX5_layer_255 (by decide) (fun c618 => ?_) (fun c618 => ?_)
                · have hE := zite_t hE c618
                  have t619 := zt_lt c618
                  subst hE
                  exact zi_sub [0, 1, 2, 3, 4, 5, 6] rfl hK
                · have hE := zite_f hE c618
                  have t620 := zt_nlt c618
                  refine zi_aload_n (pc := 258) F dX5_layer_258 0 rfl ?_
                  refine zi_get (pc := 259) (C := RX5) (T := TX5) (N := 27) (v := .ref (G.2.2 6 13)) F (hw_X5_layer_X5) 0 rfl rfl 20 (by decide) (List.mem_of_getElem? (i := 8) rfl) rfl rfl dX5_layer_259 ?_
                  refine zi_iload (pc := 262) F dX5_layer_262 5 rfl ?_
                  refine zi_dup2 (pc := 264) F dX5_layer_264 rfl rfl ?_
                  refine zi_iald (pc := 265) (v := (R533 20 k5_331.toNatClampNeg)) F 13 0 rfl rfl (zin (a := k5_331) (by omega) (by omega)) rfl dX5_layer_265 ?_
                  refine zi_iconst (pc := 266) (v := 2) F dX5_layer_266 rfl ?_
                  refine zi_imul (pc := 267) F dX5_layer_267 ?_
                  refine zi_iast (pc := 268) (ws' := zWR G (zsF R533 20 (upd (R533 20) k5_331.toNatClampNeg ((R533 20 k5_331.toNatClampNeg) * 2)))) F 13 0 rfl rfl (zin (a := k5_331) (by omega) (by omega)) rfl dX5_layer_268 ?_
                  subst hE
                  exact zi_sub [0, 1, 2, 3, 4, 5, 6] rfl hK
        refine hK608 ?_
        try have t623 := zt_add (a := k5_331) (b := 1) (by omega) (by omega)
        obtain ⟨y621, e622⟩ : ∃ z : Int32, (k5_331 + 1) = z := ⟨_, rfl⟩
        have hE := zbnd_cut hE e622
        have t624 := congrArg Int32.toInt e622
        refine zi_iinc (pc := 269) (lv' := [(0, .ref (G.2.2 6 0)), (1, .int which), (2, .int byi), (3, .int y1), (4, .int w15), (5, .int y621), (6, .int w365)]) F dX5_layer_269 5 rfl e622 (by decide) rfl ?_
        refine zi_goto (pc := 272) (tgt := 55) F dX5_layer_272 (by decide) ?_
        refine zi_sub [0, 1, 2, 3, 4, 5] rfl ?_
        exact ih y621 R583 (⟨by (show 0 ≤ Int32.toInt y621; omega), by (show Int32.toInt y621 ≤ 10; omega), hIR583⟩) (by omega) _ hE hK
  obtain ⟨⟨k5_625, R626⟩, e627⟩ : ∃ z, mX5_layer_L55 which byi y1 11 0 R45 = z := ⟨_, rfl⟩
  have hE := zbnd2_cut hE e627
  refine hL55 11 0 R45 (⟨by (show 0 ≤ Int32.toInt 0; omega), by (show Int32.toInt 0 ≤ 10; omega), hIR45⟩) (by omega) _ e627 (fun hI628 => ?_)
  have hI628 : (0 ≤ Int32.toInt k5_625) ∧ (Int32.toInt k5_625 ≤ 10) ∧ (zIR R626) := hI628
  obtain ⟨i629, i630, hIR626⟩ := id hI628
  obtain ⟨⟨i631, i632⟩, ⟨i633, i634⟩, ⟨i635, i636⟩, ⟨i637, i638⟩, ⟨i639, i640⟩, hIR626_b14, hIR626_p15⟩ := id hIR626
  show zW p l e rmX5_layer s m args below meth c 0 0 Q G.1 A 7 (zWR G R626) [(0, .ref (G.2.2 6 0)), (1, .int which), (2, .int byi), (3, .int y1), (4, .int w15), (5, .int k5_625)] 275 []
  subst hE
  exact hret _ _ dX5_layer_275
/-! X5_lays -/
def mX5_lays_L2  : Nat → Int32 → zS_t → Int32 × zS_t
  | 0, k2_64, R65 => (k2_64, R65)
  | n66 + 1, k2_64, R65 => if (R65 6 0) ≤ k2_64 then (k2_64, R65) else (if (R65 7 k2_64.toNatClampNeg) = 0 then (if (R65 7 k2_64.toNatClampNeg) = 0 then (zbnd ((k2_64 + 1)) (fun y151 => mX5_lays_L2  n66 y151 (zsF (zsF (zsF R65 18 (upd (R65 18) k2_64.toNatClampNeg (R65 8 k2_64.toNatClampNeg))) 19 (upd (R65 19) k2_64.toNatClampNeg 1)) 20 (upd (R65 20) k2_64.toNatClampNeg 2)))) else (if (R65 7 k2_64.toNatClampNeg) = 1 then (zbnd ((k2_64 + 1)) (fun y146 => mX5_lays_L2  n66 y146 (zsF (zsF (zsF R65 18 (upd (R65 18) k2_64.toNatClampNeg (R65 8 k2_64.toNatClampNeg))) 19 (upd (R65 19) k2_64.toNatClampNeg 1)) 20 (upd (R65 20) k2_64.toNatClampNeg 1)))) else (zbnd ((k2_64 + 1)) (fun y141 => mX5_lays_L2  n66 y141 (zsF (zsF (zsF R65 18 (upd (R65 18) k2_64.toNatClampNeg (R65 8 k2_64.toNatClampNeg))) 19 (upd (R65 19) k2_64.toNatClampNeg 1)) 20 (upd (R65 20) k2_64.toNatClampNeg 0)))))) else (if (R65 7 k2_64.toNatClampNeg) = 1 then (if (R65 7 k2_64.toNatClampNeg) = 0 then (zbnd ((k2_64 + 1)) (fun y132 => mX5_lays_L2  n66 y132 (zsF (zsF (zsF R65 18 (upd (R65 18) k2_64.toNatClampNeg (R65 8 k2_64.toNatClampNeg))) 19 (upd (R65 19) k2_64.toNatClampNeg 2)) 20 (upd (R65 20) k2_64.toNatClampNeg 2)))) else (if (R65 7 k2_64.toNatClampNeg) = 1 then (zbnd ((k2_64 + 1)) (fun y127 => mX5_lays_L2  n66 y127 (zsF (zsF (zsF R65 18 (upd (R65 18) k2_64.toNatClampNeg (R65 8 k2_64.toNatClampNeg))) 19 (upd (R65 19) k2_64.toNatClampNeg 2)) 20 (upd (R65 20) k2_64.toNatClampNeg 1)))) else (zbnd ((k2_64 + 1)) (fun y122 => mX5_lays_L2  n66 y122 (zsF (zsF (zsF R65 18 (upd (R65 18) k2_64.toNatClampNeg (R65 8 k2_64.toNatClampNeg))) 19 (upd (R65 19) k2_64.toNatClampNeg 2)) 20 (upd (R65 20) k2_64.toNatClampNeg 0)))))) else (if (R65 7 k2_64.toNatClampNeg) = 0 then (zbnd ((k2_64 + 1)) (fun y113 => mX5_lays_L2  n66 y113 (zsF (zsF (zsF R65 18 (upd (R65 18) k2_64.toNatClampNeg (R65 8 k2_64.toNatClampNeg))) 19 (upd (R65 19) k2_64.toNatClampNeg 4)) 20 (upd (R65 20) k2_64.toNatClampNeg 2)))) else (if (R65 7 k2_64.toNatClampNeg) = 1 then (zbnd ((k2_64 + 1)) (fun y108 => mX5_lays_L2  n66 y108 (zsF (zsF (zsF R65 18 (upd (R65 18) k2_64.toNatClampNeg (R65 8 k2_64.toNatClampNeg))) 19 (upd (R65 19) k2_64.toNatClampNeg 4)) 20 (upd (R65 20) k2_64.toNatClampNeg 1)))) else (zbnd ((k2_64 + 1)) (fun y103 => mX5_lays_L2  n66 y103 (zsF (zsF (zsF R65 18 (upd (R65 18) k2_64.toNatClampNeg (R65 8 k2_64.toNatClampNeg))) 19 (upd (R65 19) k2_64.toNatClampNeg 4)) 20 (upd (R65 20) k2_64.toNatClampNeg 0))))))))
def mX5_lays_L105  : Nat → Int32 → zS_t → Int32 × zS_t
  | 0, k3_360, R361 => (k3_360, R361)
  | n362 + 1, k3_360, R361 => if (R361 6 0) ≤ k3_360 then (k3_360, R361) else (zbnd ((k3_360 + 1)) (fun y391 => mX5_lays_L105  n362 y391 (zsF (zsF R361 21 (upd (R361 21) k3_360.toNatClampNeg (R361 19 k3_360.toNatClampNeg))) 22 (upd (R361 22) k3_360.toNatClampNeg (R361 20 k3_360.toNatClampNeg)))))
def mX5_lays_L145 (k2_322 : Int32) : Nat → Int32 → zS_t → Int32 × zS_t
  | 0, k3_432, R433 => (k3_432, R433)
  | n434 + 1, k3_432, R433 => if (R433 6 0) ≤ k3_432 then (k3_432, R433) else (zbnd (mX5_layer k2_322 k3_432 R433) (fun R463 => zbnd ((k3_432 + 1)) (fun y477 => mX5_lays_L145 k2_322 n434 y477 R463)))
def mX5_lays_L98 (layers : Int32) : Nat → Int32 → zS_t → Int32 × zS_t
  | 0, k2_322, R323 => (k2_322, R323)
  | n324 + 1, k2_322, R323 => if layers < k2_322 then (k2_322, R323) else (zbnd2 (mX5_lays_L105  11 0 R323) (fun k3_395 R396 => zbnd2 (mX5_lays_L145 k2_322 11 0 R396) (fun k3_481 R482 => zbnd ((k2_322 + 1)) (fun y497 => mX5_lays_L98 layers n324 y497 R482))))
def mX5_lays (layers : Int32) (R : zS_t) : zS_t := zbnd2 (mX5_lays_L2  11 0 R) (fun k2_155 R156 => zbnd2 (mX5_lays_L98 layers 7 1 R156) (fun k2_501 R502 => R502))
set_option maxHeartbeats 4000000 in
set_option maxRecDepth 100000 in
theorem pp_X5_lays (layers : Int32) (R : zS_t) (hIR : zIR R) (hx0 : Int32.toInt layers ≤ 5) : (zIR (mX5_lays layers R)) := by
  obtain ⟨X, hE⟩ : ∃ z, mX5_lays layers R = z := ⟨_, rfl⟩
  rw [hE]
  have k_0 : Int32.toInt 0 = 0 := by decide
  have k_1 : Int32.toInt 1 = 1 := by decide
  have k_2 : Int32.toInt 2 = 2 := by decide
  have k_4 : Int32.toInt 4 = 4 := by decide
  obtain ⟨⟨i517, i518⟩, ⟨i519, i520⟩, ⟨i521, i522⟩, ⟨i523, i524⟩, ⟨i525, i526⟩, hIR_b14, hIR_p15⟩ := id hIR
  unfold mX5_lays at hE
  have hL2 : ∀ (n66 : Nat) (k2_64 : Int32) (R65 : zS_t), (0 ≤ Int32.toInt k2_64) ∧ (Int32.toInt k2_64 ≤ 10) ∧ (zIR R65) → 11 - Int32.toInt k2_64 ≤ (n66 : Int) → ∀ Y67, mX5_lays_L2  n66 k2_64 R65 = Y67 → (0 ≤ Int32.toInt Y67.1) ∧ (Int32.toInt Y67.1 ≤ 10) ∧ (zIR (Y67.2)) := by
    intro n66
    induction n66 with
    | zero =>
      intro k2_64 R65 hI hM9
      obtain ⟨i68, i69, hIR65⟩ := id hI
      obtain ⟨⟨i70, i71⟩, ⟨i72, i73⟩, ⟨i74, i75⟩, ⟨i76, i77⟩, ⟨i78, i79⟩, hIR65_b14, hIR65_p15⟩ := id hIR65
      exact absurd hM9 (by omega)
    | succ n66 ih =>
      intro k2_64 R65 hI hM9 Y67 hE
      obtain ⟨i80, i81, hIR65⟩ := id hI
      obtain ⟨⟨i82, i83⟩, ⟨i84, i85⟩, ⟨i86, i87⟩, ⟨i88, i89⟩, ⟨i90, i91⟩, hIR65_b14, hIR65_p15⟩ := id hIR65
      rw [mX5_lays_L2.eq_2] at hE
      by_cases c92 : (R65 6 0) ≤ k2_64
      · have hE := zite_t hE c92
        have t93 := zt_le c92
        subst hE
        exact ⟨by (show 0 ≤ Int32.toInt k2_64; omega), by (show Int32.toInt k2_64 ≤ 10; omega), hIR65⟩
      · have hE := zite_f hE c92
        have t94 := zt_nle c92
        by_cases c95 : (R65 7 k2_64.toNatClampNeg) = 0
        · have hE := zite_t hE c95
          have t96 := congrArg Int32.toInt c95
          by_cases c97 : (R65 7 k2_64.toNatClampNeg) = 0
          · have hE := zite_t hE c97
            have t98 := congrArg Int32.toInt c97
            try have t101 := zt_add (a := k2_64) (b := 1) (by omega) (by omega)
            obtain ⟨y99, e100⟩ : ∃ z : Int32, (k2_64 + 1) = z := ⟨_, rfl⟩
            have hE := zbnd_cut hE e100
            have t102 := congrArg Int32.toInt e100
            exact ih y99 (zsF (zsF (zsF R65 18 (upd (R65 18) k2_64.toNatClampNeg (R65 8 k2_64.toNatClampNeg))) 19 (upd (R65 19) k2_64.toNatClampNeg 1)) 20 (upd (R65 20) k2_64.toNatClampNeg 2)) (⟨by (show 0 ≤ Int32.toInt y99; omega), by (show Int32.toInt y99 ≤ 10; omega), hIR65⟩) (by omega) _ hE
          · have hE := zite_f hE c97
            have t103 := zt_ne c97
            by_cases c104 : (R65 7 k2_64.toNatClampNeg) = 1
            · have hE := zite_t hE c104
              have t105 := congrArg Int32.toInt c104
              try have t108 := zt_add (a := k2_64) (b := 1) (by omega) (by omega)
              obtain ⟨y106, e107⟩ : ∃ z : Int32, (k2_64 + 1) = z := ⟨_, rfl⟩
              have hE := zbnd_cut hE e107
              have t109 := congrArg Int32.toInt e107
              exact ih y106 (zsF (zsF (zsF R65 18 (upd (R65 18) k2_64.toNatClampNeg (R65 8 k2_64.toNatClampNeg))) 19 (upd (R65 19) k2_64.toNatClampNeg 1)) 20 (upd (R65 20) k2_64.toNatClampNeg 1)) (⟨by (show 0 ≤ Int32.toInt y106; omega), by (show Int32.toInt y106 ≤ 10; omega), hIR65⟩) (by omega) _ hE
            · have hE := zite_f hE c104
              have t110 := zt_ne c104
              try have t113 := zt_add (a := k2_64) (b := 1) (by omega) (by omega)
              obtain ⟨y111, e112⟩ : ∃ z : Int32, (k2_64 + 1) = z := ⟨_, rfl⟩
              have hE := zbnd_cut hE e112
              have t114 := congrArg Int32.toInt e112
              exact ih y111 (zsF (zsF (zsF R65 18 (upd (R65 18) k2_64.toNatClampNeg (R65 8 k2_64.toNatClampNeg))) 19 (upd (R65 19) k2_64.toNatClampNeg 1)) 20 (upd (R65 20) k2_64.toNatClampNeg 0)) (⟨by (show 0 ≤ Int32.toInt y111; omega), by (show Int32.toInt y111 ≤ 10; omega), hIR65⟩) (by omega) _ hE
        · have hE := zite_f hE c95
          have t115 := zt_ne c95
          by_cases c116 : (R65 7 k2_64.toNatClampNeg) = 1
          · have hE := zite_t hE c116
            have t117 := congrArg Int32.toInt c116
            by_cases c118 : (R65 7 k2_64.toNatClampNeg) = 0
            · have hE := zite_t hE c118
              have t119 := congrArg Int32.toInt c118
              try have t122 := zt_add (a := k2_64) (b := 1) (by omega) (by omega)
              obtain ⟨y120, e121⟩ : ∃ z : Int32, (k2_64 + 1) = z := ⟨_, rfl⟩
              have hE := zbnd_cut hE e121
              have t123 := congrArg Int32.toInt e121
              exact ih y120 (zsF (zsF (zsF R65 18 (upd (R65 18) k2_64.toNatClampNeg (R65 8 k2_64.toNatClampNeg))) 19 (upd (R65 19) k2_64.toNatClampNeg 2)) 20 (upd (R65 20) k2_64.toNatClampNeg 2)) (⟨by (show 0 ≤ Int32.toInt y120; omega), by (show Int32.toInt y120 ≤ 10; omega), hIR65⟩) (by omega) _ hE
            · have hE := zite_f hE c118
              have t124 := zt_ne c118
              by_cases c125 : (R65 7 k2_64.toNatClampNeg) = 1
              · have hE := zite_t hE c125
                have t126 := congrArg Int32.toInt c125
                try have t129 := zt_add (a := k2_64) (b := 1) (by omega) (by omega)
                obtain ⟨y127, e128⟩ : ∃ z : Int32, (k2_64 + 1) = z := ⟨_, rfl⟩
                have hE := zbnd_cut hE e128
                have t130 := congrArg Int32.toInt e128
                exact ih y127 (zsF (zsF (zsF R65 18 (upd (R65 18) k2_64.toNatClampNeg (R65 8 k2_64.toNatClampNeg))) 19 (upd (R65 19) k2_64.toNatClampNeg 2)) 20 (upd (R65 20) k2_64.toNatClampNeg 1)) (⟨by (show 0 ≤ Int32.toInt y127; omega), by (show Int32.toInt y127 ≤ 10; omega), hIR65⟩) (by omega) _ hE
              · have hE := zite_f hE c125
                have t131 := zt_ne c125
                try have t134 := zt_add (a := k2_64) (b := 1) (by omega) (by omega)
                obtain ⟨y132, e133⟩ : ∃ z : Int32, (k2_64 + 1) = z := ⟨_, rfl⟩
                have hE := zbnd_cut hE e133
                have t135 := congrArg Int32.toInt e133
                exact ih y132 (zsF (zsF (zsF R65 18 (upd (R65 18) k2_64.toNatClampNeg (R65 8 k2_64.toNatClampNeg))) 19 (upd (R65 19) k2_64.toNatClampNeg 2)) 20 (upd (R65 20) k2_64.toNatClampNeg 0)) (⟨by (show 0 ≤ Int32.toInt y132; omega), by (show Int32.toInt y132 ≤ 10; omega), hIR65⟩) (by omega) _ hE
          · have hE := zite_f hE c116
            have t136 := zt_ne c116
            by_cases c137 : (R65 7 k2_64.toNatClampNeg) = 0
            · have hE := zite_t hE c137
              have t138 := congrArg Int32.toInt c137
              try have t141 := zt_add (a := k2_64) (b := 1) (by omega) (by omega)
              obtain ⟨y139, e140⟩ : ∃ z : Int32, (k2_64 + 1) = z := ⟨_, rfl⟩
              have hE := zbnd_cut hE e140
              have t142 := congrArg Int32.toInt e140
              exact ih y139 (zsF (zsF (zsF R65 18 (upd (R65 18) k2_64.toNatClampNeg (R65 8 k2_64.toNatClampNeg))) 19 (upd (R65 19) k2_64.toNatClampNeg 4)) 20 (upd (R65 20) k2_64.toNatClampNeg 2)) (⟨by (show 0 ≤ Int32.toInt y139; omega), by (show Int32.toInt y139 ≤ 10; omega), hIR65⟩) (by omega) _ hE
            · have hE := zite_f hE c137
              have t143 := zt_ne c137
              by_cases c144 : (R65 7 k2_64.toNatClampNeg) = 1
              · have hE := zite_t hE c144
                have t145 := congrArg Int32.toInt c144
                try have t148 := zt_add (a := k2_64) (b := 1) (by omega) (by omega)
                obtain ⟨y146, e147⟩ : ∃ z : Int32, (k2_64 + 1) = z := ⟨_, rfl⟩
                have hE := zbnd_cut hE e147
                have t149 := congrArg Int32.toInt e147
                exact ih y146 (zsF (zsF (zsF R65 18 (upd (R65 18) k2_64.toNatClampNeg (R65 8 k2_64.toNatClampNeg))) 19 (upd (R65 19) k2_64.toNatClampNeg 4)) 20 (upd (R65 20) k2_64.toNatClampNeg 1)) (⟨by (show 0 ≤ Int32.toInt y146; omega), by (show Int32.toInt y146 ≤ 10; omega), hIR65⟩) (by omega) _ hE
              · have hE := zite_f hE c144
                have t150 := zt_ne c144
                try have t153 := zt_add (a := k2_64) (b := 1) (by omega) (by omega)
                obtain ⟨y151, e152⟩ : ∃ z : Int32, (k2_64 + 1) = z := ⟨_, rfl⟩
                have hE := zbnd_cut hE e152
                have t154 := congrArg Int32.toInt e152
                exact ih y151 (zsF (zsF (zsF R65 18 (upd (R65 18) k2_64.toNatClampNeg (R65 8 k2_64.toNatClampNeg))) 19 (upd (R65 19) k2_64.toNatClampNeg 4)) 20 (upd (R65 20) k2_64.toNatClampNeg 0)) (⟨by (show 0 ≤ Int32.toInt y151; omega), by (show Int32.toInt y151 ≤ 10; omega), hIR65⟩) (by omega) _ hE
  obtain ⟨⟨k2_155, R156⟩, e157⟩ : ∃ z, mX5_lays_L2  11 0 R = z := ⟨_, rfl⟩
  have hE := zbnd2_cut hE e157
  have hI158 := hL2 11 0 R (⟨by (show 0 ≤ Int32.toInt 0; omega), by (show Int32.toInt 0 ≤ 10; omega), hIR⟩) (by omega) _ e157
  have hI158 : (0 ≤ Int32.toInt k2_155) ∧ (Int32.toInt k2_155 ≤ 10) ∧ (zIR R156) := hI158
  obtain ⟨i159, i160, hIR156⟩ := id hI158
  obtain ⟨⟨i161, i162⟩, ⟨i163, i164⟩, ⟨i165, i166⟩, ⟨i167, i168⟩, ⟨i169, i170⟩, hIR156_b14, hIR156_p15⟩ := id hIR156
  have hL98 : ∀ (n324 : Nat) (k2_322 : Int32) (R323 : zS_t), (0 ≤ Int32.toInt k2_322) ∧ (Int32.toInt k2_322 ≤ 6) ∧ (zIR R323) → 7 - Int32.toInt k2_322 ≤ (n324 : Int) → ∀ Y325, mX5_lays_L98 layers n324 k2_322 R323 = Y325 → (0 ≤ Int32.toInt Y325.1) ∧ (Int32.toInt Y325.1 ≤ 6) ∧ (zIR (Y325.2)) := by
    intro n324
    induction n324 with
    | zero =>
      intro k2_322 R323 hI hM9
      obtain ⟨i326, i327, hIR323⟩ := id hI
      obtain ⟨⟨i328, i329⟩, ⟨i330, i331⟩, ⟨i332, i333⟩, ⟨i334, i335⟩, ⟨i336, i337⟩, hIR323_b14, hIR323_p15⟩ := id hIR323
      exact absurd hM9 (by omega)
    | succ n324 ih =>
      intro k2_322 R323 hI hM9 Y325 hE
      obtain ⟨i338, i339, hIR323⟩ := id hI
      obtain ⟨⟨i340, i341⟩, ⟨i342, i343⟩, ⟨i344, i345⟩, ⟨i346, i347⟩, ⟨i348, i349⟩, hIR323_b14, hIR323_p15⟩ := id hIR323
      rw [mX5_lays_L98.eq_2] at hE
      by_cases c350 : layers < k2_322
      · have hE := zite_t hE c350
        have t351 := zt_lt c350
        subst hE
        exact ⟨by (show 0 ≤ Int32.toInt k2_322; omega), by (show Int32.toInt k2_322 ≤ 6; omega), hIR323⟩
      · have hE := zite_f hE c350
        have t352 := zt_nlt c350
        have hL105 : ∀ (n362 : Nat) (k3_360 : Int32) (R361 : zS_t), (0 ≤ Int32.toInt k3_360) ∧ (Int32.toInt k3_360 ≤ 10) ∧ (zIR R361) → 11 - Int32.toInt k3_360 ≤ (n362 : Int) → ∀ Y363, mX5_lays_L105  n362 k3_360 R361 = Y363 → (0 ≤ Int32.toInt Y363.1) ∧ (Int32.toInt Y363.1 ≤ 10) ∧ (zIR (Y363.2)) := by
          intro n362
          induction n362 with
          | zero =>
            intro k3_360 R361 hI hM9
            obtain ⟨i364, i365, hIR361⟩ := id hI
            obtain ⟨⟨i366, i367⟩, ⟨i368, i369⟩, ⟨i370, i371⟩, ⟨i372, i373⟩, ⟨i374, i375⟩, hIR361_b14, hIR361_p15⟩ := id hIR361
            exact absurd hM9 (by omega)
          | succ n362 ih =>
            intro k3_360 R361 hI hM9 Y363 hE
            obtain ⟨i376, i377, hIR361⟩ := id hI
            obtain ⟨⟨i378, i379⟩, ⟨i380, i381⟩, ⟨i382, i383⟩, ⟨i384, i385⟩, ⟨i386, i387⟩, hIR361_b14, hIR361_p15⟩ := id hIR361
            rw [mX5_lays_L105.eq_2] at hE
            by_cases c388 : (R361 6 0) ≤ k3_360
            · have hE := zite_t hE c388
              have t389 := zt_le c388
              subst hE
              exact ⟨by (show 0 ≤ Int32.toInt k3_360; omega), by (show Int32.toInt k3_360 ≤ 10; omega), hIR361⟩
            · have hE := zite_f hE c388
              have t390 := zt_nle c388
              try have t393 := zt_add (a := k3_360) (b := 1) (by omega) (by omega)
              obtain ⟨y391, e392⟩ : ∃ z : Int32, (k3_360 + 1) = z := ⟨_, rfl⟩
              have hE := zbnd_cut hE e392
              have t394 := congrArg Int32.toInt e392
              exact ih y391 (zsF (zsF R361 21 (upd (R361 21) k3_360.toNatClampNeg (R361 19 k3_360.toNatClampNeg))) 22 (upd (R361 22) k3_360.toNatClampNeg (R361 20 k3_360.toNatClampNeg))) (⟨by (show 0 ≤ Int32.toInt y391; omega), by (show Int32.toInt y391 ≤ 10; omega), hIR361⟩) (by omega) _ hE
        obtain ⟨⟨k3_395, R396⟩, e397⟩ : ∃ z, mX5_lays_L105  11 0 R323 = z := ⟨_, rfl⟩
        have hE := zbnd2_cut hE e397
        have hI398 := hL105 11 0 R323 (⟨by (show 0 ≤ Int32.toInt 0; omega), by (show Int32.toInt 0 ≤ 10; omega), hIR323⟩) (by omega) _ e397
        have hI398 : (0 ≤ Int32.toInt k3_395) ∧ (Int32.toInt k3_395 ≤ 10) ∧ (zIR R396) := hI398
        obtain ⟨i399, i400, hIR396⟩ := id hI398
        obtain ⟨⟨i401, i402⟩, ⟨i403, i404⟩, ⟨i405, i406⟩, ⟨i407, i408⟩, ⟨i409, i410⟩, hIR396_b14, hIR396_p15⟩ := id hIR396
        have hL145 : ∀ (n434 : Nat) (k3_432 : Int32) (R433 : zS_t), (0 ≤ Int32.toInt k3_432) ∧ (Int32.toInt k3_432 ≤ 10) ∧ (zIR R433) → 11 - Int32.toInt k3_432 ≤ (n434 : Int) → ∀ Y435, mX5_lays_L145 k2_322 n434 k3_432 R433 = Y435 → (0 ≤ Int32.toInt Y435.1) ∧ (Int32.toInt Y435.1 ≤ 10) ∧ (zIR (Y435.2)) := by
          intro n434
          induction n434 with
          | zero =>
            intro k3_432 R433 hI hM9
            obtain ⟨i436, i437, hIR433⟩ := id hI
            obtain ⟨⟨i438, i439⟩, ⟨i440, i441⟩, ⟨i442, i443⟩, ⟨i444, i445⟩, ⟨i446, i447⟩, hIR433_b14, hIR433_p15⟩ := id hIR433
            exact absurd hM9 (by omega)
          | succ n434 ih =>
            intro k3_432 R433 hI hM9 Y435 hE
            obtain ⟨i448, i449, hIR433⟩ := id hI
            obtain ⟨⟨i450, i451⟩, ⟨i452, i453⟩, ⟨i454, i455⟩, ⟨i456, i457⟩, ⟨i458, i459⟩, hIR433_b14, hIR433_p15⟩ := id hIR433
            rw [mX5_lays_L145.eq_2] at hE
            by_cases c460 : (R433 6 0) ≤ k3_432
            · have hE := zite_t hE c460
              have t461 := zt_le c460
              subst hE
              exact ⟨by (show 0 ≤ Int32.toInt k3_432; omega), by (show Int32.toInt k3_432 ≤ 10; omega), hIR433⟩
            · have hE := zite_f hE c460
              have t462 := zt_nle c460
              have pp466 := pp_X5_layer k2_322 k3_432 R433 (hIR433) (by first | omega | (show 0 ≤ Int32.toInt k3_432 ∧ Int32.toInt k3_432 < 10; omega))
              obtain ⟨R463, e464⟩ : ∃ z, mX5_layer k2_322 k3_432 R433 = z := ⟨_, rfl⟩
              have hE := zbnd_cut hE e464
              rw [e464] at pp466
              have hIR463 := pp466
              obtain ⟨⟨i467, i468⟩, ⟨i469, i470⟩, ⟨i471, i472⟩, ⟨i473, i474⟩, ⟨i475, i476⟩, hIR463_b14, hIR463_p15⟩ := id hIR463
              try have t479 := zt_add (a := k3_432) (b := 1) (by omega) (by omega)
              obtain ⟨y477, e478⟩ : ∃ z : Int32, (k3_432 + 1) = z := ⟨_, rfl⟩
              have hE := zbnd_cut hE e478
              have t480 := congrArg Int32.toInt e478
              exact ih y477 R463 (⟨by (show 0 ≤ Int32.toInt y477; omega), by (show Int32.toInt y477 ≤ 10; omega), hIR463⟩) (by omega) _ hE
        obtain ⟨⟨k3_481, R482⟩, e483⟩ : ∃ z, mX5_lays_L145 k2_322 11 0 R396 = z := ⟨_, rfl⟩
        have hE := zbnd2_cut hE e483
        have hI484 := hL145 11 0 R396 (⟨by (show 0 ≤ Int32.toInt 0; omega), by (show Int32.toInt 0 ≤ 10; omega), hIR396⟩) (by omega) _ e483
        have hI484 : (0 ≤ Int32.toInt k3_481) ∧ (Int32.toInt k3_481 ≤ 10) ∧ (zIR R482) := hI484
        obtain ⟨i485, i486, hIR482⟩ := id hI484
        obtain ⟨⟨i487, i488⟩, ⟨i489, i490⟩, ⟨i491, i492⟩, ⟨i493, i494⟩, ⟨i495, i496⟩, hIR482_b14, hIR482_p15⟩ := id hIR482
        try have t499 := zt_add (a := k2_322) (b := 1) (by omega) (by omega)
        obtain ⟨y497, e498⟩ : ∃ z : Int32, (k2_322 + 1) = z := ⟨_, rfl⟩
        have hE := zbnd_cut hE e498
        have t500 := congrArg Int32.toInt e498
        exact ih y497 R482 (⟨by (show 0 ≤ Int32.toInt y497; omega), by (show Int32.toInt y497 ≤ 6; omega), hIR482⟩) (by omega) _ hE
  obtain ⟨⟨k2_501, R502⟩, e503⟩ : ∃ z, mX5_lays_L98 layers 7 1 R156 = z := ⟨_, rfl⟩
  have hE := zbnd2_cut hE e503
  have hI504 := hL98 7 1 R156 (⟨by (show 0 ≤ Int32.toInt 1; omega), by (show Int32.toInt 1 ≤ 6; omega), hIR156⟩) (by omega) _ e503
  have hI504 : (0 ≤ Int32.toInt k2_501) ∧ (Int32.toInt k2_501 ≤ 6) ∧ (zIR R502) := hI504
  obtain ⟨i505, i506, hIR502⟩ := id hI504
  obtain ⟨⟨i507, i508⟩, ⟨i509, i510⟩, ⟨i511, i512⟩, ⟨i513, i514⟩, ⟨i515, i516⟩, hIR502_b14, hIR502_p15⟩ := id hIR502
  subst hE
  exact hIR502
theorem hw_X5_lays_X5 : ∀ w ∈ wsX50, w ∈ wsX5_lays := fun w h => List.mem_cons_of_mem _ (List.mem_append_right _ (h))
abbrev rmX5_lays : Room := { frames := 2, cells := 0, slots := 0, locals := 49 }
theorem hd_X5_lays : yX5_lays.cls = RX5 ∧ yX5_lays.cls ≠ "java/lang/invoke/MethodHandle" ∧ yX5_lays.cls ≠ "java/lang/invoke/VarHandle" ∧ (parseMethodDescriptor yX5_lays.desc).map (fun d => d.parameters.length) = some 1 := by decide +kernel
set_option maxHeartbeats 4000000 in
set_option maxRecDepth 100000 in
theorem c_X5_lays (l : Launch) (G : zG_t) (layers : Int32) (R : zS_t) (hIR : zIR R) (hx0 : Int32.toInt layers ≤ 5) : zCV l G.1 (zty G) yX5_lays wsX5_lays rmX5_lays [.ref (G.2.2 6 0), .int layers] (zWR G R) (zWR G (mX5_lays layers R)) := by
  obtain ⟨X, hE⟩ : ∃ z, mX5_lays layers R = z := ⟨_, rfl⟩
  rw [hE]
  refine zb_V (cc := cX5_lays) (maxL := 4) (by decide) rfl (Nat.le_of_ble_eq_true rfl) ?_
  intro p e s m args below meth c Q A F hret
  show zW p l e rmX5_lays s m args below meth c 0 0 Q G.1 A 4 (zWR G R) [(0, .ref (G.2.2 6 0)), (1, .int layers)] 0 []
  have k_0 : Int32.toInt 0 = 0 := by decide
  have k_1 : Int32.toInt 1 = 1 := by decide
  have k_2 : Int32.toInt 2 = 2 := by decide
  have k_4 : Int32.toInt 4 = 4 := by decide
  obtain ⟨⟨i527, i528⟩, ⟨i529, i530⟩, ⟨i531, i532⟩, ⟨i533, i534⟩, ⟨i535, i536⟩, hIR_b14, hIR_p15⟩ := id hIR
  unfold mX5_lays at hE
  refine zi_iconst (pc := 0) (v := 0) F dX5_lays_0 rfl ?_
  refine zi_istore_n (pc := 1) (lv' := [(0, .ref (G.2.2 6 0)), (1, .int layers), (2, .int 0)]) F dX5_lays_1 (by decide) rfl ?_
  have hL2 : ∀ (n66 : Nat) (k2_64 : Int32) (R65 : zS_t), (0 ≤ Int32.toInt k2_64) ∧ (Int32.toInt k2_64 ≤ 10) ∧ (zIR R65) → 11 - Int32.toInt k2_64 ≤ (n66 : Int) → ∀ Y67, mX5_lays_L2  n66 k2_64 R65 = Y67 → (((0 ≤ Int32.toInt Y67.1) ∧ (Int32.toInt Y67.1 ≤ 10) ∧ (zIR (Y67.2))) → zW p l e rmX5_lays s m args below meth c 0 0 Q G.1 A 4 (zWR G (Y67.2)) [(0, .ref (G.2.2 6 0)), (1, .int layers), (2, .int Y67.1)] 96 []) → zW p l e rmX5_lays s m args below meth c 0 0 Q G.1 A 4 (zWR G R65) [(0, .ref (G.2.2 6 0)), (1, .int layers), (2, .int k2_64)] 2 [] := by
    intro n66
    induction n66 with
    | zero =>
      intro k2_64 R65 hI hM9
      obtain ⟨i68, i69, hIR65⟩ := id hI
      obtain ⟨⟨i70, i71⟩, ⟨i72, i73⟩, ⟨i74, i75⟩, ⟨i76, i77⟩, ⟨i78, i79⟩, hIR65_b14, hIR65_p15⟩ := id hIR65
      exact absurd hM9 (by omega)
    | succ n66 ih =>
      intro k2_64 R65 hI hM9 Y67 hE hK
      obtain ⟨i80, i81, hIR65⟩ := id hI
      obtain ⟨⟨i82, i83⟩, ⟨i84, i85⟩, ⟨i86, i87⟩, ⟨i88, i89⟩, ⟨i90, i91⟩, hIR65_b14, hIR65_p15⟩ := id hIR65
      rw [mX5_lays_L2.eq_2] at hE
      refine zi_iload_n (pc := 2) F dX5_lays_2 2 rfl ?_
      refine zi_aload_n (pc := 3) F dX5_lays_3 0 rfl ?_
      refine zi_get (pc := 4) (C := RX5) (T := TX5) (N := 27) (v := .int (R65 6 0)) F (hw_X5_lays_X5) 0 rfl rfl 6 (by decide) (List.mem_of_getElem? (i := 1) rfl) rfl rfl dX5_lays_4 ?_
      refine zi_icmp_ge (pc := 7) (tgt := 96) F dX5_lays_7 (by decide) (fun c92 => ?_) (fun c92 => ?_)
      · have hE := zite_t hE c92
        have t93 := zt_le c92
        subst hE
        refine zi_sub [0, 1, 2] rfl ?_
        exact hK (⟨by (show 0 ≤ Int32.toInt k2_64; omega), by (show Int32.toInt k2_64 ≤ 10; omega), hIR65⟩)
      · have hE := zite_f hE c92
        have t94 := zt_nle c92
        refine zi_aload_n (pc := 10) F dX5_lays_10 0 rfl ?_
        refine zi_get (pc := 11) (C := RX5) (T := TX5) (N := 27) (v := .ref (G.2.2 6 11)) F (hw_X5_lays_X5) 0 rfl rfl 18 (by decide) (List.mem_of_getElem? (i := 2) rfl) rfl rfl dX5_lays_11 ?_
        refine zi_iload_n (pc := 14) F dX5_lays_14 2 rfl ?_
        refine zi_aload_n (pc := 15) F dX5_lays_15 0 rfl ?_
        refine zi_get (pc := 16) (C := RX5) (T := TX5) (N := 27) (v := .ref (G.2.2 6 3)) F (hw_X5_lays_X5) 0 rfl rfl 8 (by decide) (List.mem_of_getElem? (i := 3) rfl) rfl rfl dX5_lays_16 ?_
        refine zi_iload_n (pc := 19) F dX5_lays_19 2 rfl ?_
        refine zi_iald (pc := 20) (v := (R65 8 k2_64.toNatClampNeg)) F 3 0 rfl rfl (zin (a := k2_64) (by omega) (by omega)) rfl dX5_lays_20 ?_
        refine zi_iast (pc := 21) (ws' := zWR G (zsF R65 18 (upd (R65 18) k2_64.toNatClampNeg (R65 8 k2_64.toNatClampNeg)))) F 11 0 rfl rfl (zin (a := k2_64) (by omega) (by omega)) rfl dX5_lays_21 ?_
        refine zi_aload_n (pc := 22) F dX5_lays_22 0 rfl ?_
        refine zi_get (pc := 23) (C := RX5) (T := TX5) (N := 27) (v := .ref (G.2.2 6 12)) F (hw_X5_lays_X5) 0 rfl rfl 19 (by decide) (List.mem_of_getElem? (i := 4) rfl) rfl rfl dX5_lays_23 ?_
        refine zi_iload_n (pc := 26) F dX5_lays_26 2 rfl ?_
        refine zi_aload_n (pc := 27) F dX5_lays_27 0 rfl ?_
        refine zi_get (pc := 28) (C := RX5) (T := TX5) (N := 27) (v := .ref (G.2.2 6 2)) F (hw_X5_lays_X5) 0 rfl rfl 7 (by decide) (List.mem_of_getElem? (i := 5) rfl) rfl rfl dX5_lays_28 ?_
        refine zi_iload_n (pc := 31) F dX5_lays_31 2 rfl ?_
        refine zi_iald (pc := 32) (v := (R65 7 k2_64.toNatClampNeg)) F 2 0 rfl rfl (zin (a := k2_64) (by omega) (by omega)) rfl dX5_lays_32 ?_
        refine zi_if_ne (pc := 33) (tgt := 40) F dX5_lays_33 (by decide) (fun c95 => ?_) (fun c95 => ?_)
        · have hE := zite_f hE c95
          have t96 := zt_ne c95
          refine zi_aload_n (pc := 40) F dX5_lays_40 0 rfl ?_
          refine zi_get (pc := 41) (C := RX5) (T := TX5) (N := 27) (v := .ref (G.2.2 6 2)) F (hw_X5_lays_X5) 0 rfl rfl 7 (by decide) (List.mem_of_getElem? (i := 5) rfl) rfl rfl dX5_lays_41 ?_
          refine zi_iload_n (pc := 44) F dX5_lays_44 2 rfl ?_
          refine zi_iald (pc := 45) (v := (R65 7 k2_64.toNatClampNeg)) F 2 0 rfl rfl (zin (a := k2_64) (by omega) (by omega)) rfl dX5_lays_45 ?_
          refine zi_iconst (pc := 46) (v := 1) F dX5_lays_46 rfl ?_
          refine zi_icmp_ne (pc := 47) (tgt := 54) F dX5_lays_47 (by decide) (fun c97 => ?_) (fun c97 => ?_)
          · have hE := zite_f hE c97
            have t98 := zt_ne c97
            refine zi_iconst (pc := 54) (v := 4) F dX5_lays_54 rfl ?_
            refine zi_iast (pc := 55) (ws' := zWR G (zsF (zsF R65 18 (upd (R65 18) k2_64.toNatClampNeg (R65 8 k2_64.toNatClampNeg))) 19 (upd (R65 19) k2_64.toNatClampNeg 4))) F 12 0 rfl rfl (zin (a := k2_64) (by omega) (by omega)) rfl dX5_lays_55 ?_
            refine zi_aload_n (pc := 56) F dX5_lays_56 0 rfl ?_
            refine zi_get (pc := 57) (C := RX5) (T := TX5) (N := 27) (v := .ref (G.2.2 6 13)) F (hw_X5_lays_X5) 0 rfl rfl 20 (by decide) (List.mem_of_getElem? (i := 6) rfl) rfl rfl dX5_lays_57 ?_
            refine zi_iload_n (pc := 60) F dX5_lays_60 2 rfl ?_
            refine zi_aload_n (pc := 61) F dX5_lays_61 0 rfl ?_
            refine zi_get (pc := 62) (C := RX5) (T := TX5) (N := 27) (v := .ref (G.2.2 6 2)) F (hw_X5_lays_X5) 0 rfl rfl 7 (by decide) (List.mem_of_getElem? (i := 5) rfl) rfl rfl dX5_lays_62 ?_
            refine zi_iload_n (pc := 65) F dX5_lays_65 2 rfl ?_
            refine zi_iald (pc := 66) (v := (R65 7 k2_64.toNatClampNeg)) F 2 0 rfl rfl (zin (a := k2_64) (by omega) (by omega)) rfl dX5_lays_66 ?_
            refine zi_if_ne (pc := 67) (tgt := 74) F dX5_lays_67 (by decide) (fun c99 => ?_) (fun c99 => ?_)
            · have hE := zite_f hE c99
              have t100 := zt_ne c99
              refine zi_aload_n (pc := 74) F dX5_lays_74 0 rfl ?_
              refine zi_get (pc := 75) (C := RX5) (T := TX5) (N := 27) (v := .ref (G.2.2 6 2)) F (hw_X5_lays_X5) 0 rfl rfl 7 (by decide) (List.mem_of_getElem? (i := 5) rfl) rfl rfl dX5_lays_75 ?_
              refine zi_iload_n (pc := 78) F dX5_lays_78 2 rfl ?_
              refine zi_iald (pc := 79) (v := (R65 7 k2_64.toNatClampNeg)) F 2 0 rfl rfl (zin (a := k2_64) (by omega) (by omega)) rfl dX5_lays_79 ?_
              refine zi_iconst (pc := 80) (v := 1) F dX5_lays_80 rfl ?_
              refine zi_icmp_ne (pc := 81) (tgt := 88) F dX5_lays_81 (by decide) (fun c101 => ?_) (fun c101 => ?_)
              · have hE := zite_f hE c101
                have t102 := zt_ne c101
                refine zi_iconst (pc := 88) (v := 0) F dX5_lays_88 rfl ?_
                refine zi_iast (pc := 89) (ws' := zWR G (zsF (zsF (zsF R65 18 (upd (R65 18) k2_64.toNatClampNeg (R65 8 k2_64.toNatClampNeg))) 19 (upd (R65 19) k2_64.toNatClampNeg 4)) 20 (upd (R65 20) k2_64.toNatClampNeg 0))) F 13 0 rfl rfl (zin (a := k2_64) (by omega) (by omega)) rfl dX5_lays_89 ?_
                try have t105 := zt_add (a := k2_64) (b := 1) (by omega) (by omega)
                obtain ⟨y103, e104⟩ : ∃ z : Int32, (k2_64 + 1) = z := ⟨_, rfl⟩
                have hE := zbnd_cut hE e104
                have t106 := congrArg Int32.toInt e104
                refine zi_iinc (pc := 90) (lv' := [(0, .ref (G.2.2 6 0)), (1, .int layers), (2, .int y103)]) F dX5_lays_90 2 rfl e104 (by decide) rfl ?_
                refine zi_goto (pc := 93) (tgt := 2) F dX5_lays_93 (by decide) ?_
                refine zi_sub [0, 1, 2] rfl ?_
                exact ih y103 (zsF (zsF (zsF R65 18 (upd (R65 18) k2_64.toNatClampNeg (R65 8 k2_64.toNatClampNeg))) 19 (upd (R65 19) k2_64.toNatClampNeg 4)) 20 (upd (R65 20) k2_64.toNatClampNeg 0)) (⟨by (show 0 ≤ Int32.toInt y103; omega), by (show Int32.toInt y103 ≤ 10; omega), hIR65⟩) (by omega) _ hE hK
              · have hE := zite_t hE c101
                have t107 := congrArg Int32.toInt c101
                refine zi_iconst (pc := 84) (v := 1) F dX5_lays_84 rfl ?_
                refine zi_goto (pc := 85) (tgt := 89) F dX5_lays_85 (by decide) ?_
                refine zi_iast (pc := 89) (ws' := zWR G (zsF (zsF (zsF R65 18 (upd (R65 18) k2_64.toNatClampNeg (R65 8 k2_64.toNatClampNeg))) 19 (upd (R65 19) k2_64.toNatClampNeg 4)) 20 (upd (R65 20) k2_64.toNatClampNeg 1))) F 13 0 rfl rfl (zin (a := k2_64) (by omega) (by omega)) rfl dX5_lays_89 ?_
                try have t110 := zt_add (a := k2_64) (b := 1) (by omega) (by omega)
                obtain ⟨y108, e109⟩ : ∃ z : Int32, (k2_64 + 1) = z := ⟨_, rfl⟩
                have hE := zbnd_cut hE e109
                have t111 := congrArg Int32.toInt e109
                refine zi_iinc (pc := 90) (lv' := [(0, .ref (G.2.2 6 0)), (1, .int layers), (2, .int y108)]) F dX5_lays_90 2 rfl e109 (by decide) rfl ?_
                refine zi_goto (pc := 93) (tgt := 2) F dX5_lays_93 (by decide) ?_
                refine zi_sub [0, 1, 2] rfl ?_
                exact ih y108 (zsF (zsF (zsF R65 18 (upd (R65 18) k2_64.toNatClampNeg (R65 8 k2_64.toNatClampNeg))) 19 (upd (R65 19) k2_64.toNatClampNeg 4)) 20 (upd (R65 20) k2_64.toNatClampNeg 1)) (⟨by (show 0 ≤ Int32.toInt y108; omega), by (show Int32.toInt y108 ≤ 10; omega), hIR65⟩) (by omega) _ hE hK
            · have hE := zite_t hE c99
              have t112 := congrArg Int32.toInt c99
              refine zi_iconst (pc := 70) (v := 2) F dX5_lays_70 rfl ?_
              refine zi_goto (pc := 71) (tgt := 89) F dX5_lays_71 (by decide) ?_
              refine zi_iast (pc := 89) (ws' := zWR G (zsF (zsF (zsF R65 18 (upd (R65 18) k2_64.toNatClampNeg (R65 8 k2_64.toNatClampNeg))) 19 (upd (R65 19) k2_64.toNatClampNeg 4)) 20 (upd (R65 20) k2_64.toNatClampNeg 2))) F 13 0 rfl rfl (zin (a := k2_64) (by omega) (by omega)) rfl dX5_lays_89 ?_
              try have t115 := zt_add (a := k2_64) (b := 1) (by omega) (by omega)
              obtain ⟨y113, e114⟩ : ∃ z : Int32, (k2_64 + 1) = z := ⟨_, rfl⟩
              have hE := zbnd_cut hE e114
              have t116 := congrArg Int32.toInt e114
              refine zi_iinc (pc := 90) (lv' := [(0, .ref (G.2.2 6 0)), (1, .int layers), (2, .int y113)]) F dX5_lays_90 2 rfl e114 (by decide) rfl ?_
              refine zi_goto (pc := 93) (tgt := 2) F dX5_lays_93 (by decide) ?_
              refine zi_sub [0, 1, 2] rfl ?_
              exact ih y113 (zsF (zsF (zsF R65 18 (upd (R65 18) k2_64.toNatClampNeg (R65 8 k2_64.toNatClampNeg))) 19 (upd (R65 19) k2_64.toNatClampNeg 4)) 20 (upd (R65 20) k2_64.toNatClampNeg 2)) (⟨by (show 0 ≤ Int32.toInt y113; omega), by (show Int32.toInt y113 ≤ 10; omega), hIR65⟩) (by omega) _ hE hK
          · have hE := zite_t hE c97
            have t117 := congrArg Int32.toInt c97
            refine zi_iconst (pc := 50) (v := 2) F dX5_lays_50 rfl ?_
            refine zi_goto (pc := 51) (tgt := 55) F dX5_lays_51 (by decide) ?_
            refine zi_iast (pc := 55) (ws' := zWR G (zsF (zsF R65 18 (upd (R65 18) k2_64.toNatClampNeg (R65 8 k2_64.toNatClampNeg))) 19 (upd (R65 19) k2_64.toNatClampNeg 2))) F 12 0 rfl rfl (zin (a := k2_64) (by omega) (by omega)) rfl dX5_lays_55 ?_
            refine zi_aload_n (pc := 56) F dX5_lays_56 0 rfl ?_
            refine zi_get (pc := 57) (C := RX5) (T := TX5) (N := 27) (v := .ref (G.2.2 6 13)) F (hw_X5_lays_X5) 0 rfl rfl 20 (by decide) (List.mem_of_getElem? (i := 6) rfl) rfl rfl dX5_lays_57 ?_
            refine zi_iload_n (pc := 60) F dX5_lays_60 2 rfl ?_
            refine zi_aload_n (pc := 61) F dX5_lays_61 0 rfl ?_
            refine zi_get (pc := 62) (C := RX5) (T := TX5) (N := 27) (v := .ref (G.2.2 6 2)) F (hw_X5_lays_X5) 0 rfl rfl 7 (by decide) (List.mem_of_getElem? (i := 5) rfl) rfl rfl dX5_lays_62 ?_
            refine zi_iload_n (pc := 65) F dX5_lays_65 2 rfl ?_
            refine zi_iald (pc := 66) (v := (R65 7 k2_64.toNatClampNeg)) F 2 0 rfl rfl (zin (a := k2_64) (by omega) (by omega)) rfl dX5_lays_66 ?_
            refine zi_if_ne (pc := 67) (tgt := 74) F dX5_lays_67 (by decide) (fun c118 => ?_) (fun c118 => ?_)
            · have hE := zite_f hE c118
              have t119 := zt_ne c118
              refine zi_aload_n (pc := 74) F dX5_lays_74 0 rfl ?_
              refine zi_get (pc := 75) (C := RX5) (T := TX5) (N := 27) (v := .ref (G.2.2 6 2)) F (hw_X5_lays_X5) 0 rfl rfl 7 (by decide) (List.mem_of_getElem? (i := 5) rfl) rfl rfl dX5_lays_75 ?_
              refine zi_iload_n (pc := 78) F dX5_lays_78 2 rfl ?_
              refine zi_iald (pc := 79) (v := (R65 7 k2_64.toNatClampNeg)) F 2 0 rfl rfl (zin (a := k2_64) (by omega) (by omega)) rfl dX5_lays_79 ?_
              refine zi_iconst (pc := 80) (v := 1) F dX5_lays_80 rfl ?_
              refine zi_icmp_ne (pc := 81) (tgt := 88) F dX5_lays_81 (by decide) (fun c120 => ?_) (fun c120 => ?_)
              · have hE := zite_f hE c120
                have t121 := zt_ne c120
                refine zi_iconst (pc := 88) (v := 0) F dX5_lays_88 rfl ?_
                refine zi_iast (pc := 89) (ws' := zWR G (zsF (zsF (zsF R65 18 (upd (R65 18) k2_64.toNatClampNeg (R65 8 k2_64.toNatClampNeg))) 19 (upd (R65 19) k2_64.toNatClampNeg 2)) 20 (upd (R65 20) k2_64.toNatClampNeg 0))) F 13 0 rfl rfl (zin (a := k2_64) (by omega) (by omega)) rfl dX5_lays_89 ?_
                try have t124 := zt_add (a := k2_64) (b := 1) (by omega) (by omega)
                obtain ⟨y122, e123⟩ : ∃ z : Int32, (k2_64 + 1) = z := ⟨_, rfl⟩
                have hE := zbnd_cut hE e123
                have t125 := congrArg Int32.toInt e123
                refine zi_iinc (pc := 90) (lv' := [(0, .ref (G.2.2 6 0)), (1, .int layers), (2, .int y122)]) F dX5_lays_90 2 rfl e123 (by decide) rfl ?_
                refine zi_goto (pc := 93) (tgt := 2) F dX5_lays_93 (by decide) ?_
                refine zi_sub [0, 1, 2] rfl ?_
                exact ih y122 (zsF (zsF (zsF R65 18 (upd (R65 18) k2_64.toNatClampNeg (R65 8 k2_64.toNatClampNeg))) 19 (upd (R65 19) k2_64.toNatClampNeg 2)) 20 (upd (R65 20) k2_64.toNatClampNeg 0)) (⟨by (show 0 ≤ Int32.toInt y122; omega), by (show Int32.toInt y122 ≤ 10; omega), hIR65⟩) (by omega) _ hE hK
              · have hE := zite_t hE c120
                have t126 := congrArg Int32.toInt c120
                refine zi_iconst (pc := 84) (v := 1) F dX5_lays_84 rfl ?_
                refine zi_goto (pc := 85) (tgt := 89) F dX5_lays_85 (by decide) ?_
                refine zi_iast (pc := 89) (ws' := zWR G (zsF (zsF (zsF R65 18 (upd (R65 18) k2_64.toNatClampNeg (R65 8 k2_64.toNatClampNeg))) 19 (upd (R65 19) k2_64.toNatClampNeg 2)) 20 (upd (R65 20) k2_64.toNatClampNeg 1))) F 13 0 rfl rfl (zin (a := k2_64) (by omega) (by omega)) rfl dX5_lays_89 ?_
                try have t129 := zt_add (a := k2_64) (b := 1) (by omega) (by omega)
                obtain ⟨y127, e128⟩ : ∃ z : Int32, (k2_64 + 1) = z := ⟨_, rfl⟩
                have hE := zbnd_cut hE e128
                have t130 := congrArg Int32.toInt e128
                refine zi_iinc (pc := 90) (lv' := [(0, .ref (G.2.2 6 0)), (1, .int layers), (2, .int y127)]) F dX5_lays_90 2 rfl e128 (by decide) rfl ?_
                refine zi_goto (pc := 93) (tgt := 2) F dX5_lays_93 (by decide) ?_
                refine zi_sub [0, 1, 2] rfl ?_
                exact ih y127 (zsF (zsF (zsF R65 18 (upd (R65 18) k2_64.toNatClampNeg (R65 8 k2_64.toNatClampNeg))) 19 (upd (R65 19) k2_64.toNatClampNeg 2)) 20 (upd (R65 20) k2_64.toNatClampNeg 1)) (⟨by (show 0 ≤ Int32.toInt y127; omega), by (show Int32.toInt y127 ≤ 10; omega), hIR65⟩) (by omega) _ hE hK
            · have hE := zite_t hE c118
              have t131 := congrArg Int32.toInt c118
              refine zi_iconst (pc := 70) (v := 2) F dX5_lays_70 rfl ?_
              refine zi_goto (pc := 71) (tgt := 89) F dX5_lays_71 (by decide) ?_
              refine zi_iast (pc := 89) (ws' := zWR G (zsF (zsF (zsF R65 18 (upd (R65 18) k2_64.toNatClampNeg (R65 8 k2_64.toNatClampNeg))) 19 (upd (R65 19) k2_64.toNatClampNeg 2)) 20 (upd (R65 20) k2_64.toNatClampNeg 2))) F 13 0 rfl rfl (zin (a := k2_64) (by omega) (by omega)) rfl dX5_lays_89 ?_
              try have t134 := zt_add (a := k2_64) (b := 1) (by omega) (by omega)
              obtain ⟨y132, e133⟩ : ∃ z : Int32, (k2_64 + 1) = z := ⟨_, rfl⟩
              have hE := zbnd_cut hE e133
              have t135 := congrArg Int32.toInt e133
              refine zi_iinc (pc := 90) (lv' := [(0, .ref (G.2.2 6 0)), (1, .int layers), (2, .int y132)]) F dX5_lays_90 2 rfl e133 (by decide) rfl ?_
              refine zi_goto (pc := 93) (tgt := 2) F dX5_lays_93 (by decide) ?_
              refine zi_sub [0, 1, 2] rfl ?_
              exact ih y132 (zsF (zsF (zsF R65 18 (upd (R65 18) k2_64.toNatClampNeg (R65 8 k2_64.toNatClampNeg))) 19 (upd (R65 19) k2_64.toNatClampNeg 2)) 20 (upd (R65 20) k2_64.toNatClampNeg 2)) (⟨by (show 0 ≤ Int32.toInt y132; omega), by (show Int32.toInt y132 ≤ 10; omega), hIR65⟩) (by omega) _ hE hK
        · have hE := zite_t hE c95
          have t136 := congrArg Int32.toInt c95
          refine zi_iconst (pc := 36) (v := 1) F dX5_lays_36 rfl ?_
          refine zi_goto (pc := 37) (tgt := 55) F dX5_lays_37 (by decide) ?_
          refine zi_iast (pc := 55) (ws' := zWR G (zsF (zsF R65 18 (upd (R65 18) k2_64.toNatClampNeg (R65 8 k2_64.toNatClampNeg))) 19 (upd (R65 19) k2_64.toNatClampNeg 1))) F 12 0 rfl rfl (zin (a := k2_64) (by omega) (by omega)) rfl dX5_lays_55 ?_
          refine zi_aload_n (pc := 56) F dX5_lays_56 0 rfl ?_
          refine zi_get (pc := 57) (C := RX5) (T := TX5) (N := 27) (v := .ref (G.2.2 6 13)) F (hw_X5_lays_X5) 0 rfl rfl 20 (by decide) (List.mem_of_getElem? (i := 6) rfl) rfl rfl dX5_lays_57 ?_
          refine zi_iload_n (pc := 60) F dX5_lays_60 2 rfl ?_
          refine zi_aload_n (pc := 61) F dX5_lays_61 0 rfl ?_
          refine zi_get (pc := 62) (C := RX5) (T := TX5) (N := 27) (v := .ref (G.2.2 6 2)) F (hw_X5_lays_X5) 0 rfl rfl 7 (by decide) (List.mem_of_getElem? (i := 5) rfl) rfl rfl dX5_lays_62 ?_
          refine zi_iload_n (pc := 65) F dX5_lays_65 2 rfl ?_
          refine zi_iald (pc := 66) (v := (R65 7 k2_64.toNatClampNeg)) F 2 0 rfl rfl (zin (a := k2_64) (by omega) (by omega)) rfl dX5_lays_66 ?_
          refine zi_if_ne (pc := 67) (tgt := 74) F dX5_lays_67 (by decide) (fun c137 => ?_) (fun c137 => ?_)
          · have hE := zite_f hE c137
            have t138 := zt_ne c137
            refine zi_aload_n (pc := 74) F dX5_lays_74 0 rfl ?_
            refine zi_get (pc := 75) (C := RX5) (T := TX5) (N := 27) (v := .ref (G.2.2 6 2)) F (hw_X5_lays_X5) 0 rfl rfl 7 (by decide) (List.mem_of_getElem? (i := 5) rfl) rfl rfl dX5_lays_75 ?_
            refine zi_iload_n (pc := 78) F dX5_lays_78 2 rfl ?_
            refine zi_iald (pc := 79) (v := (R65 7 k2_64.toNatClampNeg)) F 2 0 rfl rfl (zin (a := k2_64) (by omega) (by omega)) rfl dX5_lays_79 ?_
            refine zi_iconst (pc := 80) (v := 1) F dX5_lays_80 rfl ?_
            refine zi_icmp_ne (pc := 81) (tgt := 88) F dX5_lays_81 (by decide) (fun c139 => ?_) (fun c139 => ?_)
            · have hE := zite_f hE c139
              have t140 := zt_ne c139
              refine zi_iconst (pc := 88) (v := 0) F dX5_lays_88 rfl ?_
              refine zi_iast (pc := 89) (ws' := zWR G (zsF (zsF (zsF R65 18 (upd (R65 18) k2_64.toNatClampNeg (R65 8 k2_64.toNatClampNeg))) 19 (upd (R65 19) k2_64.toNatClampNeg 1)) 20 (upd (R65 20) k2_64.toNatClampNeg 0))) F 13 0 rfl rfl (zin (a := k2_64) (by omega) (by omega)) rfl dX5_lays_89 ?_
              try have t143 := zt_add (a := k2_64) (b := 1) (by omega) (by omega)
              obtain ⟨y141, e142⟩ : ∃ z : Int32, (k2_64 + 1) = z := ⟨_, rfl⟩
              have hE := zbnd_cut hE e142
              have t144 := congrArg Int32.toInt e142
              refine zi_iinc (pc := 90) (lv' := [(0, .ref (G.2.2 6 0)), (1, .int layers), (2, .int y141)]) F dX5_lays_90 2 rfl e142 (by decide) rfl ?_
              refine zi_goto (pc := 93) (tgt := 2) F dX5_lays_93 (by decide) ?_
              refine zi_sub [0, 1, 2] rfl ?_
              exact ih y141 (zsF (zsF (zsF R65 18 (upd (R65 18) k2_64.toNatClampNeg (R65 8 k2_64.toNatClampNeg))) 19 (upd (R65 19) k2_64.toNatClampNeg 1)) 20 (upd (R65 20) k2_64.toNatClampNeg 0)) (⟨by (show 0 ≤ Int32.toInt y141; omega), by (show Int32.toInt y141 ≤ 10; omega), hIR65⟩) (by omega) _ hE hK
            · have hE := zite_t hE c139
              have t145 := congrArg Int32.toInt c139
              refine zi_iconst (pc := 84) (v := 1) F dX5_lays_84 rfl ?_
              refine zi_goto (pc := 85) (tgt := 89) F dX5_lays_85 (by decide) ?_
              refine zi_iast (pc := 89) (ws' := zWR G (zsF (zsF (zsF R65 18 (upd (R65 18) k2_64.toNatClampNeg (R65 8 k2_64.toNatClampNeg))) 19 (upd (R65 19) k2_64.toNatClampNeg 1)) 20 (upd (R65 20) k2_64.toNatClampNeg 1))) F 13 0 rfl rfl (zin (a := k2_64) (by omega) (by omega)) rfl dX5_lays_89 ?_
              try have t148 := zt_add (a := k2_64) (b := 1) (by omega) (by omega)
              obtain ⟨y146, e147⟩ : ∃ z : Int32, (k2_64 + 1) = z := ⟨_, rfl⟩
              have hE := zbnd_cut hE e147
              have t149 := congrArg Int32.toInt e147
              refine zi_iinc (pc := 90) (lv' := [(0, .ref (G.2.2 6 0)), (1, .int layers), (2, .int y146)]) F dX5_lays_90 2 rfl e147 (by decide) rfl ?_
              refine zi_goto (pc := 93) (tgt := 2) F dX5_lays_93 (by decide) ?_
              refine zi_sub [0, 1, 2] rfl ?_
              exact ih y146 (zsF (zsF (zsF R65 18 (upd (R65 18) k2_64.toNatClampNeg (R65 8 k2_64.toNatClampNeg))) 19 (upd (R65 19) k2_64.toNatClampNeg 1)) 20 (upd (R65 20) k2_64.toNatClampNeg 1)) (⟨by (show 0 ≤ Int32.toInt y146; omega), by (show Int32.toInt y146 ≤ 10; omega), hIR65⟩) (by omega) _ hE hK
          · have hE := zite_t hE c137
            have t150 := congrArg Int32.toInt c137
            refine zi_iconst (pc := 70) (v := 2) F dX5_lays_70 rfl ?_
            refine zi_goto (pc := 71) (tgt := 89) F dX5_lays_71 (by decide) ?_
            refine zi_iast (pc := 89) (ws' := zWR G (zsF (zsF (zsF R65 18 (upd (R65 18) k2_64.toNatClampNeg (R65 8 k2_64.toNatClampNeg))) 19 (upd (R65 19) k2_64.toNatClampNeg 1)) 20 (upd (R65 20) k2_64.toNatClampNeg 2))) F 13 0 rfl rfl (zin (a := k2_64) (by omega) (by omega)) rfl dX5_lays_89 ?_
            try have t153 := zt_add (a := k2_64) (b := 1) (by omega) (by omega)
            obtain ⟨y151, e152⟩ : ∃ z : Int32, (k2_64 + 1) = z := ⟨_, rfl⟩
            have hE := zbnd_cut hE e152
            have t154 := congrArg Int32.toInt e152
            refine zi_iinc (pc := 90) (lv' := [(0, .ref (G.2.2 6 0)), (1, .int layers), (2, .int y151)]) F dX5_lays_90 2 rfl e152 (by decide) rfl ?_
            refine zi_goto (pc := 93) (tgt := 2) F dX5_lays_93 (by decide) ?_
            refine zi_sub [0, 1, 2] rfl ?_
            exact ih y151 (zsF (zsF (zsF R65 18 (upd (R65 18) k2_64.toNatClampNeg (R65 8 k2_64.toNatClampNeg))) 19 (upd (R65 19) k2_64.toNatClampNeg 1)) 20 (upd (R65 20) k2_64.toNatClampNeg 2)) (⟨by (show 0 ≤ Int32.toInt y151; omega), by (show Int32.toInt y151 ≤ 10; omega), hIR65⟩) (by omega) _ hE hK
  obtain ⟨⟨k2_155, R156⟩, e157⟩ : ∃ z, mX5_lays_L2  11 0 R = z := ⟨_, rfl⟩
  have hE := zbnd2_cut hE e157
  refine hL2 11 0 R (⟨by (show 0 ≤ Int32.toInt 0; omega), by (show Int32.toInt 0 ≤ 10; omega), hIR⟩) (by omega) _ e157 (fun hI158 => ?_)
  have hI158 : (0 ≤ Int32.toInt k2_155) ∧ (Int32.toInt k2_155 ≤ 10) ∧ (zIR R156) := hI158
  obtain ⟨i159, i160, hIR156⟩ := id hI158
  obtain ⟨⟨i161, i162⟩, ⟨i163, i164⟩, ⟨i165, i166⟩, ⟨i167, i168⟩, ⟨i169, i170⟩, hIR156_b14, hIR156_p15⟩ := id hIR156
  show zW p l e rmX5_lays s m args below meth c 0 0 Q G.1 A 4 (zWR G R156) [(0, .ref (G.2.2 6 0)), (1, .int layers), (2, .int k2_155)] 96 []
  refine zi_iconst (pc := 96) (v := 1) F dX5_lays_96 rfl ?_
  refine zi_istore_n (pc := 97) (lv' := [(0, .ref (G.2.2 6 0)), (1, .int layers), (2, .int 1)]) F dX5_lays_97 (by decide) rfl ?_
  have hL98 : ∀ (n324 : Nat) (k2_322 : Int32) (R323 : zS_t), (0 ≤ Int32.toInt k2_322) ∧ (Int32.toInt k2_322 ≤ 6) ∧ (zIR R323) → 7 - Int32.toInt k2_322 ≤ (n324 : Int) → ∀ Y325, mX5_lays_L98 layers n324 k2_322 R323 = Y325 → (((0 ≤ Int32.toInt Y325.1) ∧ (Int32.toInt Y325.1 ≤ 6) ∧ (zIR (Y325.2))) → zW p l e rmX5_lays s m args below meth c 0 0 Q G.1 A 4 (zWR G (Y325.2)) [(0, .ref (G.2.2 6 0)), (1, .int layers), (2, .int Y325.1)] 171 []) → zW p l e rmX5_lays s m args below meth c 0 0 Q G.1 A 4 (zWR G R323) [(0, .ref (G.2.2 6 0)), (1, .int layers), (2, .int k2_322)] 98 [] := by
    intro n324
    induction n324 with
    | zero =>
      intro k2_322 R323 hI hM9
      obtain ⟨i326, i327, hIR323⟩ := id hI
      obtain ⟨⟨i328, i329⟩, ⟨i330, i331⟩, ⟨i332, i333⟩, ⟨i334, i335⟩, ⟨i336, i337⟩, hIR323_b14, hIR323_p15⟩ := id hIR323
      exact absurd hM9 (by omega)
    | succ n324 ih =>
      intro k2_322 R323 hI hM9 Y325 hE hK
      obtain ⟨i338, i339, hIR323⟩ := id hI
      obtain ⟨⟨i340, i341⟩, ⟨i342, i343⟩, ⟨i344, i345⟩, ⟨i346, i347⟩, ⟨i348, i349⟩, hIR323_b14, hIR323_p15⟩ := id hIR323
      rw [mX5_lays_L98.eq_2] at hE
      refine zi_iload_n (pc := 98) F dX5_lays_98 2 rfl ?_
      refine zi_iload_n (pc := 99) F dX5_lays_99 1 rfl ?_
      refine zi_icmp_gt (pc := 100) (tgt := 171) F dX5_lays_100 (by decide) (fun c350 => ?_) (fun c350 => ?_)
      · have hE := zite_t hE c350
        have t351 := zt_lt c350
        subst hE
        refine zi_sub [0, 1, 2] rfl ?_
        exact hK (⟨by (show 0 ≤ Int32.toInt k2_322; omega), by (show Int32.toInt k2_322 ≤ 6; omega), hIR323⟩)
      · have hE := zite_f hE c350
        have t352 := zt_nlt c350
        refine zi_iconst (pc := 103) (v := 0) F dX5_lays_103 rfl ?_
        refine zi_istore_n (pc := 104) (lv' := [(0, .ref (G.2.2 6 0)), (1, .int layers), (2, .int k2_322), (3, .int 0)]) F dX5_lays_104 (by decide) rfl ?_
        have hL105 : ∀ (n362 : Nat) (k3_360 : Int32) (R361 : zS_t), (0 ≤ Int32.toInt k3_360) ∧ (Int32.toInt k3_360 ≤ 10) ∧ (zIR R361) → 11 - Int32.toInt k3_360 ≤ (n362 : Int) → ∀ Y363, mX5_lays_L105  n362 k3_360 R361 = Y363 → (((0 ≤ Int32.toInt Y363.1) ∧ (Int32.toInt Y363.1 ≤ 10) ∧ (zIR (Y363.2))) → zW p l e rmX5_lays s m args below meth c 0 0 Q G.1 A 4 (zWR G (Y363.2)) [(0, .ref (G.2.2 6 0)), (1, .int layers), (2, .int k2_322), (3, .int Y363.1)] 143 []) → zW p l e rmX5_lays s m args below meth c 0 0 Q G.1 A 4 (zWR G R361) [(0, .ref (G.2.2 6 0)), (1, .int layers), (2, .int k2_322), (3, .int k3_360)] 105 [] := by
          intro n362
          induction n362 with
          | zero =>
            intro k3_360 R361 hI hM9
            obtain ⟨i364, i365, hIR361⟩ := id hI
            obtain ⟨⟨i366, i367⟩, ⟨i368, i369⟩, ⟨i370, i371⟩, ⟨i372, i373⟩, ⟨i374, i375⟩, hIR361_b14, hIR361_p15⟩ := id hIR361
            exact absurd hM9 (by omega)
          | succ n362 ih =>
            intro k3_360 R361 hI hM9 Y363 hE hK
            obtain ⟨i376, i377, hIR361⟩ := id hI
            obtain ⟨⟨i378, i379⟩, ⟨i380, i381⟩, ⟨i382, i383⟩, ⟨i384, i385⟩, ⟨i386, i387⟩, hIR361_b14, hIR361_p15⟩ := id hIR361
            rw [mX5_lays_L105.eq_2] at hE
            refine zi_iload_n (pc := 105) F dX5_lays_105 3 rfl ?_
            refine zi_aload_n (pc := 106) F dX5_lays_106 0 rfl ?_
            refine zi_get (pc := 107) (C := RX5) (T := TX5) (N := 27) (v := .int (R361 6 0)) F (hw_X5_lays_X5) 0 rfl rfl 6 (by decide) (List.mem_of_getElem? (i := 1) rfl) rfl rfl dX5_lays_107 ?_
            refine zi_icmp_ge (pc := 110) (tgt := 143) F dX5_lays_110 (by decide) (fun c388 => ?_) (fun c388 => ?_)
            · have hE := zite_t hE c388
              have t389 := zt_le c388
              subst hE
              refine zi_sub [0, 1, 2, 3] rfl ?_
              exact hK (⟨by (show 0 ≤ Int32.toInt k3_360; omega), by (show Int32.toInt k3_360 ≤ 10; omega), hIR361⟩)
            · have hE := zite_f hE c388
              have t390 := zt_nle c388
              refine zi_aload_n (pc := 113) F dX5_lays_113 0 rfl ?_
              refine zi_get (pc := 114) (C := RX5) (T := TX5) (N := 27) (v := .ref (G.2.2 6 14)) F (hw_X5_lays_X5) 0 rfl rfl 21 (by decide) (List.mem_of_getElem? (i := 7) rfl) rfl rfl dX5_lays_114 ?_
              refine zi_iload_n (pc := 117) F dX5_lays_117 3 rfl ?_
              refine zi_aload_n (pc := 118) F dX5_lays_118 0 rfl ?_
              refine zi_get (pc := 119) (C := RX5) (T := TX5) (N := 27) (v := .ref (G.2.2 6 12)) F (hw_X5_lays_X5) 0 rfl rfl 19 (by decide) (List.mem_of_getElem? (i := 4) rfl) rfl rfl dX5_lays_119 ?_
              refine zi_iload_n (pc := 122) F dX5_lays_122 3 rfl ?_
              refine zi_iald (pc := 123) (v := (R361 19 k3_360.toNatClampNeg)) F 12 0 rfl rfl (zin (a := k3_360) (by omega) (by omega)) rfl dX5_lays_123 ?_
              refine zi_iast (pc := 124) (ws' := zWR G (zsF R361 21 (upd (R361 21) k3_360.toNatClampNeg (R361 19 k3_360.toNatClampNeg)))) F 14 0 rfl rfl (zin (a := k3_360) (by omega) (by omega)) rfl dX5_lays_124 ?_
              refine zi_aload_n (pc := 125) F dX5_lays_125 0 rfl ?_
              refine zi_get (pc := 126) (C := RX5) (T := TX5) (N := 27) (v := .ref (G.2.2 6 15)) F (hw_X5_lays_X5) 0 rfl rfl 22 (by decide) (List.mem_of_getElem? (i := 8) rfl) rfl rfl dX5_lays_126 ?_
              refine zi_iload_n (pc := 129) F dX5_lays_129 3 rfl ?_
              refine zi_aload_n (pc := 130) F dX5_lays_130 0 rfl ?_
              refine zi_get (pc := 131) (C := RX5) (T := TX5) (N := 27) (v := .ref (G.2.2 6 13)) F (hw_X5_lays_X5) 0 rfl rfl 20 (by decide) (List.mem_of_getElem? (i := 6) rfl) rfl rfl dX5_lays_131 ?_
              refine zi_iload_n (pc := 134) F dX5_lays_134 3 rfl ?_
              refine zi_iald (pc := 135) (v := (R361 20 k3_360.toNatClampNeg)) F 13 0 rfl rfl (zin (a := k3_360) (by omega) (by omega)) rfl dX5_lays_135 ?_
              refine zi_iast (pc := 136) (ws' := zWR G (zsF (zsF R361 21 (upd (R361 21) k3_360.toNatClampNeg (R361 19 k3_360.toNatClampNeg))) 22 (upd (R361 22) k3_360.toNatClampNeg (R361 20 k3_360.toNatClampNeg)))) F 15 0 rfl rfl (zin (a := k3_360) (by omega) (by omega)) rfl dX5_lays_136 ?_
              try have t393 := zt_add (a := k3_360) (b := 1) (by omega) (by omega)
              obtain ⟨y391, e392⟩ : ∃ z : Int32, (k3_360 + 1) = z := ⟨_, rfl⟩
              have hE := zbnd_cut hE e392
              have t394 := congrArg Int32.toInt e392
              refine zi_iinc (pc := 137) (lv' := [(0, .ref (G.2.2 6 0)), (1, .int layers), (2, .int k2_322), (3, .int y391)]) F dX5_lays_137 3 rfl e392 (by decide) rfl ?_
              refine zi_goto (pc := 140) (tgt := 105) F dX5_lays_140 (by decide) ?_
              refine zi_sub [0, 1, 2, 3] rfl ?_
              exact ih y391 (zsF (zsF R361 21 (upd (R361 21) k3_360.toNatClampNeg (R361 19 k3_360.toNatClampNeg))) 22 (upd (R361 22) k3_360.toNatClampNeg (R361 20 k3_360.toNatClampNeg))) (⟨by (show 0 ≤ Int32.toInt y391; omega), by (show Int32.toInt y391 ≤ 10; omega), hIR361⟩) (by omega) _ hE hK
        obtain ⟨⟨k3_395, R396⟩, e397⟩ : ∃ z, mX5_lays_L105  11 0 R323 = z := ⟨_, rfl⟩
        have hE := zbnd2_cut hE e397
        refine hL105 11 0 R323 (⟨by (show 0 ≤ Int32.toInt 0; omega), by (show Int32.toInt 0 ≤ 10; omega), hIR323⟩) (by omega) _ e397 (fun hI398 => ?_)
        have hI398 : (0 ≤ Int32.toInt k3_395) ∧ (Int32.toInt k3_395 ≤ 10) ∧ (zIR R396) := hI398
        obtain ⟨i399, i400, hIR396⟩ := id hI398
        obtain ⟨⟨i401, i402⟩, ⟨i403, i404⟩, ⟨i405, i406⟩, ⟨i407, i408⟩, ⟨i409, i410⟩, hIR396_b14, hIR396_p15⟩ := id hIR396
        show zW p l e rmX5_lays s m args below meth c 0 0 Q G.1 A 4 (zWR G R396) [(0, .ref (G.2.2 6 0)), (1, .int layers), (2, .int k2_322), (3, .int k3_395)] 143 []
        refine zi_iconst (pc := 143) (v := 0) F dX5_lays_143 rfl ?_
        refine zi_istore_n (pc := 144) (lv' := [(0, .ref (G.2.2 6 0)), (1, .int layers), (2, .int k2_322), (3, .int 0)]) F dX5_lays_144 (by decide) rfl ?_
        have hL145 : ∀ (n434 : Nat) (k3_432 : Int32) (R433 : zS_t), (0 ≤ Int32.toInt k3_432) ∧ (Int32.toInt k3_432 ≤ 10) ∧ (zIR R433) → 11 - Int32.toInt k3_432 ≤ (n434 : Int) → ∀ Y435, mX5_lays_L145 k2_322 n434 k3_432 R433 = Y435 → (((0 ≤ Int32.toInt Y435.1) ∧ (Int32.toInt Y435.1 ≤ 10) ∧ (zIR (Y435.2))) → zW p l e rmX5_lays s m args below meth c 0 0 Q G.1 A 4 (zWR G (Y435.2)) [(0, .ref (G.2.2 6 0)), (1, .int layers), (2, .int k2_322), (3, .int Y435.1)] 165 []) → zW p l e rmX5_lays s m args below meth c 0 0 Q G.1 A 4 (zWR G R433) [(0, .ref (G.2.2 6 0)), (1, .int layers), (2, .int k2_322), (3, .int k3_432)] 145 [] := by
          intro n434
          induction n434 with
          | zero =>
            intro k3_432 R433 hI hM9
            obtain ⟨i436, i437, hIR433⟩ := id hI
            obtain ⟨⟨i438, i439⟩, ⟨i440, i441⟩, ⟨i442, i443⟩, ⟨i444, i445⟩, ⟨i446, i447⟩, hIR433_b14, hIR433_p15⟩ := id hIR433
            exact absurd hM9 (by omega)
          | succ n434 ih =>
            intro k3_432 R433 hI hM9 Y435 hE hK
            obtain ⟨i448, i449, hIR433⟩ := id hI
            obtain ⟨⟨i450, i451⟩, ⟨i452, i453⟩, ⟨i454, i455⟩, ⟨i456, i457⟩, ⟨i458, i459⟩, hIR433_b14, hIR433_p15⟩ := id hIR433
            rw [mX5_lays_L145.eq_2] at hE
            refine zi_iload_n (pc := 145) F dX5_lays_145 3 rfl ?_
            refine zi_aload_n (pc := 146) F dX5_lays_146 0 rfl ?_
            refine zi_get (pc := 147) (C := RX5) (T := TX5) (N := 27) (v := .int (R433 6 0)) F (hw_X5_lays_X5) 0 rfl rfl 6 (by decide) (List.mem_of_getElem? (i := 1) rfl) rfl rfl dX5_lays_147 ?_
            refine zi_icmp_ge (pc := 150) (tgt := 165) F dX5_lays_150 (by decide) (fun c460 => ?_) (fun c460 => ?_)
            · have hE := zite_t hE c460
              have t461 := zt_le c460
              subst hE
              refine zi_sub [0, 1, 2, 3] rfl ?_
              exact hK (⟨by (show 0 ≤ Int32.toInt k3_432; omega), by (show Int32.toInt k3_432 ≤ 10; omega), hIR433⟩)
            · have hE := zite_f hE c460
              have t462 := zt_nle c460
              refine zi_aload_n (pc := 153) F dX5_lays_153 0 rfl ?_
              refine zi_iload_n (pc := 154) F dX5_lays_154 2 rfl ?_
              refine zi_iload_n (pc := 155) F dX5_lays_155 3 rfl ?_
              have hM465 := c_X5_layer l G k2_322 k3_432 R433 (hIR433) (by first | omega | (show 0 ≤ Int32.toInt k3_432 ∧ Int32.toInt k3_432 < 10; omega))
              have pp466 := pp_X5_layer k2_322 k3_432 R433 (hIR433) (by first | omega | (show 0 ≤ Int32.toInt k3_432 ∧ Int32.toInt k3_432 < 10; omega))
              obtain ⟨R463, e464⟩ : ∃ z, mX5_layer k2_322 k3_432 R433 = z := ⟨_, rfl⟩
              have hE := zbnd_cut hE e464
              rw [e464] at hM465
              rw [e464] at pp466
              have hIR463 := pp466
              obtain ⟨⟨i467, i468⟩, ⟨i469, i470⟩, ⟨i471, i472⟩, ⟨i473, i474⟩, ⟨i475, i476⟩, hIR463_b14, hIR463_p15⟩ := id hIR463
              refine zi_callVV (pc := 156) (rest := []) (ws' := zWR G R463) F hM465 (cwV 2 F.1.2.2.2.2 gX5_lays_X5_layer rfl rfl rfl hd_X5_layer ⟨Nat.le_of_ble_eq_true rfl, Nat.le_of_ble_eq_true rfl⟩) 0 rfl rfl _ _ (zw_nil _) (zw_nil _).symm rfl rfl (Nat.le_of_ble_eq_true rfl) dX5_lays_156 ⟨Nat.zero_le _, Nat.zero_le _⟩ ?_
              try have t479 := zt_add (a := k3_432) (b := 1) (by omega) (by omega)
              obtain ⟨y477, e478⟩ : ∃ z : Int32, (k3_432 + 1) = z := ⟨_, rfl⟩
              have hE := zbnd_cut hE e478
              have t480 := congrArg Int32.toInt e478
              refine zi_iinc (pc := 159) (lv' := [(0, .ref (G.2.2 6 0)), (1, .int layers), (2, .int k2_322), (3, .int y477)]) F dX5_lays_159 3 rfl e478 (by decide) rfl ?_
              refine zi_goto (pc := 162) (tgt := 145) F dX5_lays_162 (by decide) ?_
              refine zi_sub [0, 1, 2, 3] rfl ?_
              exact ih y477 R463 (⟨by (show 0 ≤ Int32.toInt y477; omega), by (show Int32.toInt y477 ≤ 10; omega), hIR463⟩) (by omega) _ hE hK
        obtain ⟨⟨k3_481, R482⟩, e483⟩ : ∃ z, mX5_lays_L145 k2_322 11 0 R396 = z := ⟨_, rfl⟩
        have hE := zbnd2_cut hE e483
        refine hL145 11 0 R396 (⟨by (show 0 ≤ Int32.toInt 0; omega), by (show Int32.toInt 0 ≤ 10; omega), hIR396⟩) (by omega) _ e483 (fun hI484 => ?_)
        have hI484 : (0 ≤ Int32.toInt k3_481) ∧ (Int32.toInt k3_481 ≤ 10) ∧ (zIR R482) := hI484
        obtain ⟨i485, i486, hIR482⟩ := id hI484
        obtain ⟨⟨i487, i488⟩, ⟨i489, i490⟩, ⟨i491, i492⟩, ⟨i493, i494⟩, ⟨i495, i496⟩, hIR482_b14, hIR482_p15⟩ := id hIR482
        show zW p l e rmX5_lays s m args below meth c 0 0 Q G.1 A 4 (zWR G R482) [(0, .ref (G.2.2 6 0)), (1, .int layers), (2, .int k2_322), (3, .int k3_481)] 165 []
        try have t499 := zt_add (a := k2_322) (b := 1) (by omega) (by omega)
        obtain ⟨y497, e498⟩ : ∃ z : Int32, (k2_322 + 1) = z := ⟨_, rfl⟩
        have hE := zbnd_cut hE e498
        have t500 := congrArg Int32.toInt e498
        refine zi_iinc (pc := 165) (lv' := [(0, .ref (G.2.2 6 0)), (1, .int layers), (2, .int y497), (3, .int k3_481)]) F dX5_lays_165 2 rfl e498 (by decide) rfl ?_
        refine zi_goto (pc := 168) (tgt := 98) F dX5_lays_168 (by decide) ?_
        refine zi_sub [0, 1, 2] rfl ?_
        exact ih y497 R482 (⟨by (show 0 ≤ Int32.toInt y497; omega), by (show Int32.toInt y497 ≤ 6; omega), hIR482⟩) (by omega) _ hE hK
  obtain ⟨⟨k2_501, R502⟩, e503⟩ : ∃ z, mX5_lays_L98 layers 7 1 R156 = z := ⟨_, rfl⟩
  have hE := zbnd2_cut hE e503
  refine hL98 7 1 R156 (⟨by (show 0 ≤ Int32.toInt 1; omega), by (show Int32.toInt 1 ≤ 6; omega), hIR156⟩) (by omega) _ e503 (fun hI504 => ?_)
  have hI504 : (0 ≤ Int32.toInt k2_501) ∧ (Int32.toInt k2_501 ≤ 6) ∧ (zIR R502) := hI504
  obtain ⟨i505, i506, hIR502⟩ := id hI504
  obtain ⟨⟨i507, i508⟩, ⟨i509, i510⟩, ⟨i511, i512⟩, ⟨i513, i514⟩, ⟨i515, i516⟩, hIR502_b14, hIR502_p15⟩ := id hIR502
  show zW p l e rmX5_lays s m args below meth c 0 0 Q G.1 A 4 (zWR G R502) [(0, .ref (G.2.2 6 0)), (1, .int layers), (2, .int k2_501)] 171 []
  subst hE
  exact hret _ _ dX5_lays_171
