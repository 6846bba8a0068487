/-! X1_forget -/
def mX1_forget  (M : zS_t) : zS_t := (zsI (zsI M 3 0) 4 0)
set_option maxHeartbeats 4000000 in
set_option maxRecDepth 100000 in
theorem pp_X1_forget  (M : zS_t) (hIM : zIM M) : (zIM (mX1_forget M)) := by
  obtain ⟨X, hE⟩ : ∃ z, mX1_forget M = z := ⟨_, rfl⟩
  rw [hE]
  have k_0 : Int32.toInt 0 = 0 := by decide
  have k_1 : Int32.toInt 1 = 1 := by decide
  obtain ⟨⟨i1, i2⟩, ⟨i3, i4⟩, ⟨i5, i6⟩⟩ := id hIM
  unfold mX1_forget at hE
  subst hE
  exact ⟨⟨by (show (0:Int) ≤ Int32.toInt (M 2 0)); omega, by (show Int32.toInt (M 2 0) ≤ (24:Int)); omega⟩, ⟨by (show (0:Int) ≤ Int32.toInt 0); omega, by (show Int32.toInt 0 ≤ (40:Int)); omega⟩, ⟨by (show (0:Int) ≤ Int32.toInt 0); omega, by (show Int32.toInt 0 ≤ (39:Int)); omega⟩⟩
theorem hw_X1_forget_X1 : ∀ w ∈ wsX10, w ∈ wsX1_forget := fun w h => List.mem_cons_of_mem _ (List.mem_append_right _ (h))
abbrev rmX1_forget : Room := { frames := 0, cells := 0, slots := 0, locals := 0 }
theorem hd_X1_forget : yX1_forget.cls = RX1 ∧ yX1_forget.cls ≠ "java/lang/invoke/MethodHandle" ∧ yX1_forget.cls ≠ "java/lang/invoke/VarHandle" ∧ (parseMethodDescriptor yX1_forget.desc).map (fun d => d.parameters.length) = some 0 := by decide +kernel
set_option maxHeartbeats 4000000 in
set_option maxRecDepth 100000 in
theorem c_X1_forget (l : Launch) (G : zG_t)  (M : zS_t) (K : zS_t) (hIM : zIM M) : zCV l G.1 (zty G) yX1_forget wsX1_forget rmX1_forget [.ref (G.2.2 4 0)] (zWM G M K) (zWM G (mX1_forget M) K) := by
  obtain ⟨X, hE⟩ : ∃ z, mX1_forget M = z := ⟨_, rfl⟩
  rw [hE]
  refine zb_V (cc := cX1_forget) (maxL := 1) (by decide) rfl (Nat.le_of_ble_eq_true rfl) ?_
  intro p e s m args below meth c Q A F hret
  show zW p l e rmX1_forget s m args below meth c 0 0 Q G.1 A 1 (zWM G M K) [(0, .ref (G.2.2 4 0))] 0 []
  have k_0 : Int32.toInt 0 = 0 := by decide
  have k_1 : Int32.toInt 1 = 1 := by decide
  obtain ⟨⟨i7, i8⟩, ⟨i9, i10⟩, ⟨i11, i12⟩⟩ := id hIM
  unfold mX1_forget at hE
  refine zi_aload_n (pc := 0) F dX1_forget_0 0 rfl ?_
  refine zi_iconst (pc := 1) (v := 0) F dX1_forget_1 rfl ?_
  refine zi_put (pc := 2) (C := RX1) (T := TX1) (N := 5) (ty := .int) (ws' := zWM G (zsI M 3 0) K) F (hw_X1_forget_X1) tyX1 tyX1_ok nmX1 0 rfl rfl 3 (by decide) (List.mem_of_getElem? (i := 1) rfl) rfl rfl rfl rfl rfl (Nat.le_of_ble_eq_true rfl) rfl dX1_forget_2 ?_
  refine zi_aload_n (pc := 5) F dX1_forget_5 0 rfl ?_
  refine zi_iconst (pc := 6) (v := 0) F dX1_forget_6 rfl ?_
  refine zi_put (pc := 7) (C := RX1) (T := TX1) (N := 5) (ty := .int) (ws' := zWM G (zsI (zsI M 3 0) 4 0) K) F (hw_X1_forget_X1) tyX1 tyX1_ok nmX1 0 rfl rfl 4 (by decide) (List.mem_of_getElem? (i := 2) rfl) rfl rfl rfl rfl rfl (Nat.le_of_ble_eq_true rfl) rfl dX1_forget_7 ?_
  subst hE
  exact hret _ _ dX1_forget_10
/-! X1_start -/
def mX1_start (things : Int32) (entries : Int32) (M : zS_t) : zS_t := (zsI (zsF M 0 (upd (upd (M 0) (0 : Int32).toNatClampNeg things) (1 : Int32).toNatClampNeg entries)) 2 2)
set_option maxHeartbeats 4000000 in
set_option maxRecDepth 100000 in
theorem pp_X1_start (things : Int32) (entries : Int32) (M : zS_t) (hIM : zIM M) : (zIM (mX1_start things entries M)) := by
  obtain ⟨X, hE⟩ : ∃ z, mX1_start things entries M = z := ⟨_, rfl⟩
  rw [hE]
  have k_0 : Int32.toInt 0 = 0 := by decide
  have k_1 : Int32.toInt 1 = 1 := by decide
  have k_2 : Int32.toInt 2 = 2 := by decide
  obtain ⟨⟨i1, i2⟩, ⟨i3, i4⟩, ⟨i5, i6⟩⟩ := id hIM
  unfold mX1_start at hE
  subst hE
  exact ⟨⟨by (show (0:Int) ≤ Int32.toInt 2); omega, by (show Int32.toInt 2 ≤ (24:Int)); omega⟩, ⟨by (show (0:Int) ≤ Int32.toInt (M 3 0)); omega, by (show Int32.toInt (M 3 0) ≤ (40:Int)); omega⟩, ⟨by (show (0:Int) ≤ Int32.toInt (M 4 0)); omega, by (show Int32.toInt (M 4 0) ≤ (39:Int)); omega⟩⟩
theorem hw_X1_start_X1 : ∀ w ∈ wsX10, w ∈ wsX1_start := fun w h => List.mem_cons_of_mem _ (List.mem_append_right _ (h))
abbrev rmX1_start : Room := { frames := 0, cells := 0, slots := 0, locals := 0 }
theorem hd_X1_start : yX1_start.cls = RX1 ∧ yX1_start.cls ≠ "java/lang/invoke/MethodHandle" ∧ yX1_start.cls ≠ "java/lang/invoke/VarHandle" ∧ (parseMethodDescriptor yX1_start.desc).map (fun d => d.parameters.length) = some 2 := by decide +kernel
set_option maxHeartbeats 4000000 in
set_option maxRecDepth 100000 in
theorem c_X1_start (l : Launch) (G : zG_t) (things : Int32) (entries : Int32) (M : zS_t) (K : zS_t) (hIM : zIM M) : zCV l G.1 (zty G) yX1_start wsX1_start rmX1_start [.ref (G.2.2 4 0), .int things, .int entries] (zWM G M K) (zWM G (mX1_start things entries M) K) := by
  obtain ⟨X, hE⟩ : ∃ z, mX1_start things entries M = z := ⟨_, rfl⟩
  rw [hE]
  refine zb_V (cc := cX1_start) (maxL := 3) (by decide) rfl (Nat.le_of_ble_eq_true rfl) ?_
  intro p e s m args below meth c Q A F hret
  show zW p l e rmX1_start s m args below meth c 0 0 Q G.1 A 3 (zWM G M K) [(0, .ref (G.2.2 4 0)), (1, .int things), (2, .int entries)] 0 []
  have k_0 : Int32.toInt 0 = 0 := by decide
  have k_1 : Int32.toInt 1 = 1 := by decide
  have k_2 : Int32.toInt 2 = 2 := by decide
  obtain ⟨⟨i7, i8⟩, ⟨i9, i10⟩, ⟨i11, i12⟩⟩ := id hIM
  unfold mX1_start at hE
  refine zi_aload_n (pc := 0) F dX1_start_0 0 rfl ?_
  refine zi_get (pc := 1) (C := RX1) (T := TX1) (N := 5) (v := .ref (G.2.2 4 1)) F (hw_X1_start_X1) 0 rfl rfl 0 (by decide) (List.mem_of_getElem? (i := 1) rfl) rfl rfl dX1_start_1 ?_
  refine zi_iconst (pc := 4) (v := 0) F dX1_start_4 rfl ?_
  refine zi_iload_n (pc := 5) F dX1_start_5 1 rfl ?_
  refine zi_iast (pc := 6) (ws' := zWM G (zsF M 0 (upd (M 0) (0 : Int32).toNatClampNeg things)) K) F 1 0 rfl rfl (zin (by decide) (by decide)) rfl dX1_start_6 ?_
  refine zi_aload_n (pc := 7) F dX1_start_7 0 rfl ?_
  refine zi_get (pc := 8) (C := RX1) (T := TX1) (N := 5) (v := .ref (G.2.2 4 1)) F (hw_X1_start_X1) 0 rfl rfl 0 (by decide) (List.mem_of_getElem? (i := 1) rfl) rfl rfl dX1_start_8 ?_
  refine zi_iconst (pc := 11) (v := 1) F dX1_start_11 rfl ?_
  refine zi_iload_n (pc := 12) F dX1_start_12 2 rfl ?_
  refine zi_iast (pc := 13) (ws' := zWM G (zsF M 0 (upd (upd (M 0) (0 : Int32).toNatClampNeg things) (1 : Int32).toNatClampNeg entries)) K) F 1 0 rfl rfl (zin (by decide) (by decide)) rfl dX1_start_13 ?_
  refine zi_aload_n (pc := 14) F dX1_start_14 0 rfl ?_
  refine zi_iconst (pc := 15) (v := 2) F dX1_start_15 rfl ?_
  refine zi_put (pc := 16) (C := RX1) (T := TX1) (N := 5) (ty := .int) (ws' := zWM G (zsI (zsF M 0 (upd (upd (M 0) (0 : Int32).toNatClampNeg things) (1 : Int32).toNatClampNeg entries)) 2 2) K) F (hw_X1_start_X1) tyX1 tyX1_ok nmX1 0 rfl rfl 2 (by decide) (List.mem_of_getElem? (i := 2) rfl) rfl rfl rfl rfl rfl (Nat.le_of_ble_eq_true rfl) rfl dX1_start_16 ?_
  subst hE
  exact hret _ _ dX1_start_19
/-! X1_write -/
def mX1_write (card : Int32) (trigger : Int32) (player : Int32) (place : Int32) (M : zS_t) : zS_t := if 24 ≤ (M 2 0) then M else (if trigger = 0 then (zsI (zsF M 0 (upd (M 0) (M 2 0).toNatClampNeg ((((card <<< ((16 : Int32) &&& 31)) ||| 0) ||| (player <<< ((8 : Int32) &&& 31))) ||| (place + 1)))) 2 ((M 2 0) + 1)) else (zsI (zsF M 0 (upd (M 0) (M 2 0).toNatClampNeg ((((card <<< ((16 : Int32) &&& 31)) ||| 4096) ||| (player <<< ((8 : Int32) &&& 31))) ||| (place + 1)))) 2 ((M 2 0) + 1)))
set_option maxHeartbeats 4000000 in
set_option maxRecDepth 100000 in
theorem pp_X1_write (card : Int32) (trigger : Int32) (player : Int32) (place : Int32) (M : zS_t) (hIM : zIM M) : (zIM (mX1_write card trigger player place M)) := by
  obtain ⟨X, hE⟩ : ∃ z, mX1_write card trigger player place M = z := ⟨_, rfl⟩
  rw [hE]
  have k_0 : Int32.toInt 0 = 0 := by decide
  have k_1 : Int32.toInt 1 = 1 := by decide
  have k_8 : Int32.toInt 8 = 8 := by decide
  have k_16 : Int32.toInt 16 = 16 := by decide
  have k_24 : Int32.toInt 24 = 24 := by decide
  have k_4096 : Int32.toInt 4096 = 4096 := by decide
  obtain ⟨⟨i9, i10⟩, ⟨i11, i12⟩, ⟨i13, i14⟩⟩ := id hIM
  unfold mX1_write at hE
  by_cases c1 : 24 ≤ (M 2 0)
  · have hE := zite_t hE c1
    have t2 := zt_le c1
    subst hE
    exact hIM
  · have hE := zite_f hE c1
    have t3 := zt_nle c1
    by_cases c4 : trigger = 0
    · have hE := zite_t hE c4
      have t5 := congrArg Int32.toInt c4
      subst hE
      try have t6 := zt_add (a := (M 2 0)) (b := 1) (by omega) (by omega)
      exact ⟨⟨by (show (0:Int) ≤ Int32.toInt ((M 2 0) + 1)); omega, by (show Int32.toInt ((M 2 0) + 1) ≤ (24:Int)); omega⟩, ⟨by (show (0:Int) ≤ Int32.toInt (M 3 0)); omega, by (show Int32.toInt (M 3 0) ≤ (40:Int)); omega⟩, ⟨by (show (0:Int) ≤ Int32.toInt (M 4 0)); omega, by (show Int32.toInt (M 4 0) ≤ (39:Int)); omega⟩⟩
    · have hE := zite_f hE c4
      have t7 := zt_ne c4
      subst hE
      try have t8 := zt_add (a := (M 2 0)) (b := 1) (by omega) (by omega)
      exact ⟨⟨by (show (0:Int) ≤ Int32.toInt ((M 2 0) + 1)); omega, by (show Int32.toInt ((M 2 0) + 1) ≤ (24:Int)); omega⟩, ⟨by (show (0:Int) ≤ Int32.toInt (M 3 0)); omega, by (show Int32.toInt (M 3 0) ≤ (40:Int)); omega⟩, ⟨by (show (0:Int) ≤ Int32.toInt (M 4 0)); omega, by (show Int32.toInt (M 4 0) ≤ (39:Int)); omega⟩⟩
theorem hw_X1_write_X1 : ∀ w ∈ wsX10, w ∈ wsX1_write := fun w h => List.mem_cons_of_mem _ (List.mem_append_right _ (h))
abbrev rmX1_write : Room := { frames := 0, cells := 0, slots := 0, locals := 0 }
theorem hd_X1_write : yX1_write.cls = RX1 ∧ yX1_write.cls ≠ "java/lang/invoke/MethodHandle" ∧ yX1_write.cls ≠ "java/lang/invoke/VarHandle" ∧ (parseMethodDescriptor yX1_write.desc).map (fun d => d.parameters.length) = some 4 := by decide +kernel
set_option maxHeartbeats 4000000 in
set_option maxRecDepth 100000 in
theorem c_X1_write (l : Launch) (G : zG_t) (card : Int32) (trigger : Int32) (player : Int32) (place : Int32) (M : zS_t) (K : zS_t) (hIM : zIM M) : zCV l G.1 (zty G) yX1_write wsX1_write rmX1_write [.ref (G.2.2 4 0), .int card, .int trigger, .int player, .int place] (zWM G M K) (zWM G (mX1_write card trigger player place M) K) := by
  obtain ⟨X, hE⟩ : ∃ z, mX1_write card trigger player place M = z := ⟨_, rfl⟩
  rw [hE]
  refine zb_V (cc := cX1_write) (maxL := 5) (by decide) rfl (Nat.le_of_ble_eq_true rfl) ?_
  intro p e s m args below meth c Q A F hret
  show zW p l e rmX1_write s m args below meth c 0 0 Q G.1 A 5 (zWM G M K) [(0, .ref (G.2.2 4 0)), (1, .int card), (2, .int trigger), (3, .int player), (4, .int place)] 0 []
  have k_0 : Int32.toInt 0 = 0 := by decide
  have k_1 : Int32.toInt 1 = 1 := by decide
  have k_8 : Int32.toInt 8 = 8 := by decide
  have k_16 : Int32.toInt 16 = 16 := by decide
  have k_24 : Int32.toInt 24 = 24 := by decide
  have k_4096 : Int32.toInt 4096 = 4096 := by decide
  obtain ⟨⟨i15, i16⟩, ⟨i17, i18⟩, ⟨i19, i20⟩⟩ := id hIM
  unfold mX1_write at hE
  refine zi_aload_n (pc := 0) F dX1_write_0 0 rfl ?_
  refine zi_get (pc := 1) (C := RX1) (T := TX1) (N := 5) (v := .int (M 2 0)) F (hw_X1_write_X1) 0 rfl rfl 2 (by decide) (List.mem_of_getElem? (i := 1) rfl) rfl rfl dX1_write_1 ?_
  refine zi_bipush (pc := 4) (v := 24) F dX1_write_4 rfl ?_
  refine zi_icmp_ge (pc := 6) (tgt := 54) F dX1_write_6 (by decide) (fun c1 => ?_) (fun c1 => ?_)
  · have hE := zite_t hE c1
    have t2 := zt_le c1
    subst hE
    exact hret _ _ dX1_write_54
  · have hE := zite_f hE c1
    have t3 := zt_nle c1
    refine zi_aload_n (pc := 9) F dX1_write_9 0 rfl ?_
    refine zi_get (pc := 10) (C := RX1) (T := TX1) (N := 5) (v := .ref (G.2.2 4 1)) F (hw_X1_write_X1) 0 rfl rfl 0 (by decide) (List.mem_of_getElem? (i := 2) rfl) rfl rfl dX1_write_10 ?_
    refine zi_aload_n (pc := 13) F dX1_write_13 0 rfl ?_
    refine zi_get (pc := 14) (C := RX1) (T := TX1) (N := 5) (v := .int (M 2 0)) F (hw_X1_write_X1) 0 rfl rfl 2 (by decide) (List.mem_of_getElem? (i := 1) rfl) rfl rfl dX1_write_14 ?_
    refine zi_iload_n (pc := 17) F dX1_write_17 1 rfl ?_
    refine zi_bipush (pc := 18) (v := 16) F dX1_write_18 rfl ?_
    refine zi_ishl (pc := 20) F dX1_write_20 ?_
    refine zi_iload_n (pc := 21) F dX1_write_21 2 rfl ?_
    refine zi_if_eq (pc := 22) (tgt := 31) F dX1_write_22 (by decide) (fun c4 => ?_) (fun c4 => ?_)
    · have hE := zite_t hE c4
      have t5 := congrArg Int32.toInt c4
      refine zi_iconst (pc := 31) (v := 0) F dX1_write_31 rfl ?_
      refine zi_ior (pc := 32) F dX1_write_32 ?_
      refine zi_iload_n (pc := 33) F dX1_write_33 3 rfl ?_
      refine zi_bipush (pc := 34) (v := 8) F dX1_write_34 rfl ?_
      refine zi_ishl (pc := 36) F dX1_write_36 ?_
      refine zi_ior (pc := 37) F dX1_write_37 ?_
      refine zi_iload (pc := 38) F dX1_write_38 4 rfl ?_
      refine zi_iconst (pc := 40) (v := 1) F dX1_write_40 rfl ?_
      refine zi_iadd (pc := 41) F dX1_write_41 ?_
      refine zi_ior (pc := 42) F dX1_write_42 ?_
      refine zi_iast (pc := 43) (ws' := zWM G (zsF M 0 (upd (M 0) (M 2 0).toNatClampNeg ((((card <<< ((16 : Int32) &&& 31)) ||| 0) ||| (player <<< ((8 : Int32) &&& 31))) ||| (place + 1)))) K) F 1 0 rfl rfl (zin (a := (M 2 0)) (by omega) (by omega)) rfl dX1_write_43 ?_
      refine zi_aload_n (pc := 44) F dX1_write_44 0 rfl ?_
      refine zi_dup (pc := 45) F dX1_write_45 rfl ?_
      refine zi_get (pc := 46) (C := RX1) (T := TX1) (N := 5) (v := .int (M 2 0)) F (hw_X1_write_X1) 0 rfl rfl 2 (by decide) (List.mem_of_getElem? (i := 1) rfl) rfl rfl dX1_write_46 ?_
      refine zi_iconst (pc := 49) (v := 1) F dX1_write_49 rfl ?_
      refine zi_iadd (pc := 50) F dX1_write_50 ?_
      refine zi_put (pc := 51) (C := RX1) (T := TX1) (N := 5) (ty := .int) (ws' := zWM G (zsI (zsF M 0 (upd (M 0) (M 2 0).toNatClampNeg ((((card <<< ((16 : Int32) &&& 31)) ||| 0) ||| (player <<< ((8 : Int32) &&& 31))) ||| (place + 1)))) 2 ((M 2 0) + 1)) K) F (hw_X1_write_X1) tyX1 tyX1_ok nmX1 0 rfl rfl 2 (by decide) (List.mem_of_getElem? (i := 1) rfl) rfl rfl rfl rfl rfl (Nat.le_of_ble_eq_true rfl) rfl dX1_write_51 ?_
      subst hE
      exact hret _ _ dX1_write_54
    · have hE := zite_f hE c4
      have t6 := zt_ne c4
      refine zi_sipush (pc := 25) (v := 4096) F dX1_write_25 rfl ?_
      refine zi_goto (pc := 28) (tgt := 32) F dX1_write_28 (by decide) ?_
      refine zi_ior (pc := 32) F dX1_write_32 ?_
      refine zi_iload_n (pc := 33) F dX1_write_33 3 rfl ?_
      refine zi_bipush (pc := 34) (v := 8) F dX1_write_34 rfl ?_
      refine zi_ishl (pc := 36) F dX1_write_36 ?_
      refine zi_ior (pc := 37) F dX1_write_37 ?_
      refine zi_iload (pc := 38) F dX1_write_38 4 rfl ?_
      refine zi_iconst (pc := 40) (v := 1) F dX1_write_40 rfl ?_
      refine zi_iadd (pc := 41) F dX1_write_41 ?_
      refine zi_ior (pc := 42) F dX1_write_42 ?_
      refine zi_iast (pc := 43) (ws' := zWM G (zsF M 0 (upd (M 0) (M 2 0).toNatClampNeg ((((card <<< ((16 : Int32) &&& 31)) ||| 4096) ||| (player <<< ((8 : Int32) &&& 31))) ||| (place + 1)))) K) F 1 0 rfl rfl (zin (a := (M 2 0)) (by omega) (by omega)) rfl dX1_write_43 ?_
      refine zi_aload_n (pc := 44) F dX1_write_44 0 rfl ?_
      refine zi_dup (pc := 45) F dX1_write_45 rfl ?_
      refine zi_get (pc := 46) (C := RX1) (T := TX1) (N := 5) (v := .int (M 2 0)) F (hw_X1_write_X1) 0 rfl rfl 2 (by decide) (List.mem_of_getElem? (i := 1) rfl) rfl rfl dX1_write_46 ?_
      refine zi_iconst (pc := 49) (v := 1) F dX1_write_49 rfl ?_
      refine zi_iadd (pc := 50) F dX1_write_50 ?_
      refine zi_put (pc := 51) (C := RX1) (T := TX1) (N := 5) (ty := .int) (ws' := zWM G (zsI (zsF M 0 (upd (M 0) (M 2 0).toNatClampNeg ((((card <<< ((16 : Int32) &&& 31)) ||| 4096) ||| (player <<< ((8 : Int32) &&& 31))) ||| (place + 1)))) 2 ((M 2 0) + 1)) K) F (hw_X1_write_X1) tyX1 tyX1_ok nmX1 0 rfl rfl 2 (by decide) (List.mem_of_getElem? (i := 1) rfl) rfl rfl rfl rfl rfl (Nat.le_of_ble_eq_true rfl) rfl dX1_write_51 ?_
      subst hE
      exact hret _ _ dX1_write_54
