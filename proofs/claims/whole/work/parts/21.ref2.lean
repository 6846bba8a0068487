/-! X5_triggers -/
def mX5_triggers (its : Int32) (player : Int32) (R : zS_t) : zS_t := if 12 ≤ (R 12 0) then R else (zsF (zsF (zsF (zsF (zsF (zsI (zsI R 11 ((R 11 0) + 1)) 12 ((R 12 0) + 1)) 13 (upd (R 13) (R 12 0).toNatClampNeg its)) 14 (upd (R 14) (R 12 0).toNatClampNeg (vp_nar .boolean 1))) 15 (upd (R 15) (R 12 0).toNatClampNeg player)) 16 (upd (R 16) (R 12 0).toNatClampNeg ((R 11 0) + 1))) 17 (upd (R 17) (R 12 0).toNatClampNeg 0))
set_option maxHeartbeats 4000000 in
set_option maxRecDepth 100000 in
theorem pp_X5_triggers (its : Int32) (player : Int32) (R : zS_t) (hIR : zIR R) (hx0 : 0 ≤ Int32.toInt player ∧ Int32.toInt player < 3) : (zIR (mX5_triggers its player R)) := by
  obtain ⟨X, hE⟩ : ∃ z, mX5_triggers its player R = z := ⟨_, rfl⟩
  rw [hE]
  have k_0 : Int32.toInt 0 = 0 := by decide
  have k_1 : Int32.toInt 1 = 1 := by decide
  have k_12 : Int32.toInt 12 = 12 := by decide
  obtain ⟨⟨i5, i6⟩, ⟨i7, i8⟩, ⟨i9, i10⟩, ⟨i11, i12⟩, ⟨i13, i14⟩, hIR_b14, hIR_p15⟩ := id hIR
  unfold mX5_triggers at hE
  by_cases c1 : 12 ≤ (R 12 0)
  · have hE := zite_t hE c1
    have t2 := zt_le c1
    subst hE
    exact hIR
  · have hE := zite_f hE c1
    have t3 := zt_nle c1
    subst hE
    try have t4 := zt_add (a := (R 12 0)) (b := 1) (by omega) (by omega)
    exact ⟨⟨by (show (0:Int) ≤ Int32.toInt (R 6 0)); omega, by (show Int32.toInt (R 6 0) ≤ (10:Int)); omega⟩, ⟨by (show (0:Int) ≤ Int32.toInt ((R 12 0) + 1)); omega, by (show Int32.toInt ((R 12 0) + 1) ≤ (12:Int)); omega⟩, ⟨by (show (0:Int) ≤ Int32.toInt (R 23 0)); omega, by (show Int32.toInt (R 23 0) ≤ (40:Int)); omega⟩, ⟨by (show (0:Int) ≤ Int32.toInt (R 0 0)); omega, by (show Int32.toInt (R 0 0) ≤ (2:Int)); omega⟩, ⟨by (show (0:Int) ≤ Int32.toInt (R 1 0)); omega, by (show Int32.toInt (R 1 0) ≤ (2:Int)); omega⟩, (zib_upd hIR_b14 (znar_idem _)), (zip_upd hIR_p15 ⟨by omega, by omega⟩)⟩
theorem hw_X5_triggers_X5 : ∀ w ∈ wsX50, w ∈ wsX5_triggers := fun w h => List.mem_cons_of_mem _ (List.mem_append_right _ (h))
abbrev rmX5_triggers : Room := { frames := 0, cells := 0, slots := 0, locals := 0 }
theorem hd_X5_triggers : yX5_triggers.cls = RX5 ∧ yX5_triggers.cls ≠ "java/lang/invoke/MethodHandle" ∧ yX5_triggers.cls ≠ "java/lang/invoke/VarHandle" ∧ (parseMethodDescriptor yX5_triggers.desc).map (fun d => d.parameters.length) = some 2 := by decide +kernel
set_option maxHeartbeats 4000000 in
set_option maxRecDepth 100000 in
theorem c_X5_triggers (l : Launch) (G : zG_t) (its : Int32) (player : Int32) (R : zS_t) (hIR : zIR R) (hx0 : 0 ≤ Int32.toInt player ∧ Int32.toInt player < 3) : zCV l G.1 (zty G) yX5_triggers wsX5_triggers rmX5_triggers [.ref (G.2.2 6 0), .int its, .int player] (zWR G R) (zWR G (mX5_triggers its player R)) := by
  obtain ⟨X, hE⟩ : ∃ z, mX5_triggers its player R = z := ⟨_, rfl⟩
  rw [hE]
  refine zb_V (cc := cX5_triggers) (maxL := 3) (by decide) rfl (Nat.le_of_ble_eq_true rfl) ?_
  intro p e s m args below meth c Q A F hret
  show zW p l e rmX5_triggers s m args below meth c 0 0 Q G.1 A 3 (zWR G R) [(0, .ref (G.2.2 6 0)), (1, .int its), (2, .int player)] 0 []
  have k_0 : Int32.toInt 0 = 0 := by decide
  have k_1 : Int32.toInt 1 = 1 := by decide
  have k_12 : Int32.toInt 12 = 12 := by decide
  obtain ⟨⟨i15, i16⟩, ⟨i17, i18⟩, ⟨i19, i20⟩, ⟨i21, i22⟩, ⟨i23, i24⟩, hIR_b14, hIR_p15⟩ := id hIR
  unfold mX5_triggers at hE
  refine zi_aload_n (pc := 0) F dX5_triggers_0 0 rfl ?_
  refine zi_get (pc := 1) (C := RX5) (T := TX5) (N := 27) (v := .int (R 12 0)) F (hw_X5_triggers_X5) 0 rfl rfl 12 (by decide) (List.mem_of_getElem? (i := 1) rfl) rfl rfl dX5_triggers_1 ?_
  refine zi_bipush (pc := 4) (v := 12) F dX5_triggers_4 rfl ?_
  refine zi_icmp_ge (pc := 6) (tgt := 82) F dX5_triggers_6 (by decide) (fun c1 => ?_) (fun c1 => ?_)
  · have hE := zite_t hE c1
    have t2 := zt_le c1
    subst hE
    exact hret _ _ dX5_triggers_82
  · have hE := zite_f hE c1
    have t3 := zt_nle c1
    refine zi_aload_n (pc := 9) F dX5_triggers_9 0 rfl ?_
    refine zi_get (pc := 10) (C := RX5) (T := TX5) (N := 27) (v := .ref (G.2.2 6 6)) F (hw_X5_triggers_X5) 0 rfl rfl 13 (by decide) (List.mem_of_getElem? (i := 2) rfl) rfl rfl dX5_triggers_10 ?_
    refine zi_aload_n (pc := 13) F dX5_triggers_13 0 rfl ?_
    refine zi_get (pc := 14) (C := RX5) (T := TX5) (N := 27) (v := .int (R 12 0)) F (hw_X5_triggers_X5) 0 rfl rfl 12 (by decide) (List.mem_of_getElem? (i := 1) rfl) rfl rfl dX5_triggers_14 ?_
    refine zi_iload_n (pc := 17) F dX5_triggers_17 1 rfl ?_
    refine zi_iast (pc := 18) (ws' := zWR G (zsF R 13 (upd (R 13) (R 12 0).toNatClampNeg its))) F 6 0 rfl rfl (zin (a := (R 12 0)) (by omega) (by omega)) rfl dX5_triggers_18 ?_
    refine zi_aload_n (pc := 19) F dX5_triggers_19 0 rfl ?_
    refine zi_get (pc := 20) (C := RX5) (T := TX5) (N := 27) (v := .ref (G.2.2 6 7)) F (hw_X5_triggers_X5) 0 rfl rfl 14 (by decide) (List.mem_of_getElem? (i := 3) rfl) rfl rfl dX5_triggers_20 ?_
    refine zi_aload_n (pc := 23) F dX5_triggers_23 0 rfl ?_
    refine zi_get (pc := 24) (C := RX5) (T := TX5) (N := 27) (v := .int (R 12 0)) F (hw_X5_triggers_X5) 0 rfl rfl 12 (by decide) (List.mem_of_getElem? (i := 1) rfl) rfl rfl dX5_triggers_24 ?_
    refine zi_iconst (pc := 27) (v := 1) F dX5_triggers_27 rfl ?_
    refine zi_zast (pc := 28) (ws' := zWR G (zsF (zsF R 13 (upd (R 13) (R 12 0).toNatClampNeg its)) 14 (upd (R 14) (R 12 0).toNatClampNeg (vp_nar .boolean 1)))) F 7 1 rfl rfl (zin (a := (R 12 0)) (by omega) (by omega)) rfl dX5_triggers_28 ?_
    refine zi_aload_n (pc := 29) F dX5_triggers_29 0 rfl ?_
    refine zi_get (pc := 30) (C := RX5) (T := TX5) (N := 27) (v := .ref (G.2.2 6 8)) F (hw_X5_triggers_X5) 0 rfl rfl 15 (by decide) (List.mem_of_getElem? (i := 4) rfl) rfl rfl dX5_triggers_30 ?_
    refine zi_aload_n (pc := 33) F dX5_triggers_33 0 rfl ?_
    refine zi_get (pc := 34) (C := RX5) (T := TX5) (N := 27) (v := .int (R 12 0)) F (hw_X5_triggers_X5) 0 rfl rfl 12 (by decide) (List.mem_of_getElem? (i := 1) rfl) rfl rfl dX5_triggers_34 ?_
    refine zi_iload_n (pc := 37) F dX5_triggers_37 2 rfl ?_
    refine zi_iast (pc := 38) (ws' := zWR G (zsF (zsF (zsF R 13 (upd (R 13) (R 12 0).toNatClampNeg its)) 14 (upd (R 14) (R 12 0).toNatClampNeg (vp_nar .boolean 1))) 15 (upd (R 15) (R 12 0).toNatClampNeg player))) F 8 0 rfl rfl (zin (a := (R 12 0)) (by omega) (by omega)) rfl dX5_triggers_38 ?_
    refine zi_aload_n (pc := 39) F dX5_triggers_39 0 rfl ?_
    refine zi_dup (pc := 40) F dX5_triggers_40 rfl ?_
    refine zi_get (pc := 41) (C := RX5) (T := TX5) (N := 27) (v := .int (R 11 0)) F (hw_X5_triggers_X5) 0 rfl rfl 11 (by decide) (List.mem_of_getElem? (i := 5) rfl) rfl rfl dX5_triggers_41 ?_
    refine zi_iconst (pc := 44) (v := 1) F dX5_triggers_44 rfl ?_
    refine zi_iadd (pc := 45) F dX5_triggers_45 ?_
    refine zi_put (pc := 46) (C := RX5) (T := TX5) (N := 27) (ty := .int) (ws' := zWR G (zsF (zsF (zsF (zsI R 11 ((R 11 0) + 1)) 13 (upd (R 13) (R 12 0).toNatClampNeg its)) 14 (upd (R 14) (R 12 0).toNatClampNeg (vp_nar .boolean 1))) 15 (upd (R 15) (R 12 0).toNatClampNeg player))) F (hw_X5_triggers_X5) tyX5 tyX5_ok nmX5 0 rfl rfl 11 (by decide) (List.mem_of_getElem? (i := 5) rfl) rfl rfl rfl rfl rfl (Nat.le_of_ble_eq_true rfl) rfl dX5_triggers_46 ?_
    refine zi_aload_n (pc := 49) F dX5_triggers_49 0 rfl ?_
    refine zi_get (pc := 50) (C := RX5) (T := TX5) (N := 27) (v := .ref (G.2.2 6 9)) F (hw_X5_triggers_X5) 0 rfl rfl 16 (by decide) (List.mem_of_getElem? (i := 6) rfl) rfl rfl dX5_triggers_50 ?_
    refine zi_aload_n (pc := 53) F dX5_triggers_53 0 rfl ?_
    refine zi_get (pc := 54) (C := RX5) (T := TX5) (N := 27) (v := .int (R 12 0)) F (hw_X5_triggers_X5) 0 rfl rfl 12 (by decide) (List.mem_of_getElem? (i := 1) rfl) rfl rfl dX5_triggers_54 ?_
    refine zi_aload_n (pc := 57) F dX5_triggers_57 0 rfl ?_
    refine zi_get (pc := 58) (C := RX5) (T := TX5) (N := 27) (v := .int ((R 11 0) + 1)) F (hw_X5_triggers_X5) 0 rfl rfl 11 (by decide) (List.mem_of_getElem? (i := 5) rfl) rfl rfl dX5_triggers_58 ?_
    refine zi_iast (pc := 61) (ws' := zWR G (zsF (zsF (zsF (zsF (zsI R 11 ((R 11 0) + 1)) 13 (upd (R 13) (R 12 0).toNatClampNeg its)) 14 (upd (R 14) (R 12 0).toNatClampNeg (vp_nar .boolean 1))) 15 (upd (R 15) (R 12 0).toNatClampNeg player)) 16 (upd (R 16) (R 12 0).toNatClampNeg ((R 11 0) + 1)))) F 9 0 rfl rfl (zin (a := (R 12 0)) (by omega) (by omega)) rfl dX5_triggers_61 ?_
    refine zi_aload_n (pc := 62) F dX5_triggers_62 0 rfl ?_
    refine zi_get (pc := 63) (C := RX5) (T := TX5) (N := 27) (v := .ref (G.2.2 6 10)) F (hw_X5_triggers_X5) 0 rfl rfl 17 (by decide) (List.mem_of_getElem? (i := 7) rfl) rfl rfl dX5_triggers_63 ?_
    refine zi_aload_n (pc := 66) F dX5_triggers_66 0 rfl ?_
    refine zi_get (pc := 67) (C := RX5) (T := TX5) (N := 27) (v := .int (R 12 0)) F (hw_X5_triggers_X5) 0 rfl rfl 12 (by decide) (List.mem_of_getElem? (i := 1) rfl) rfl rfl dX5_triggers_67 ?_
    refine zi_iconst (pc := 70) (v := 0) F dX5_triggers_70 rfl ?_
    refine zi_iast (pc := 71) (ws' := zWR G (zsF (zsF (zsF (zsF (zsF (zsI R 11 ((R 11 0) + 1)) 13 (upd (R 13) (R 12 0).toNatClampNeg its)) 14 (upd (R 14) (R 12 0).toNatClampNeg (vp_nar .boolean 1))) 15 (upd (R 15) (R 12 0).toNatClampNeg player)) 16 (upd (R 16) (R 12 0).toNatClampNeg ((R 11 0) + 1))) 17 (upd (R 17) (R 12 0).toNatClampNeg 0))) F 10 0 rfl rfl (zin (a := (R 12 0)) (by omega) (by omega)) rfl dX5_triggers_71 ?_
    refine zi_aload_n (pc := 72) F dX5_triggers_72 0 rfl ?_
    refine zi_dup (pc := 73) F dX5_triggers_73 rfl ?_
    refine zi_get (pc := 74) (C := RX5) (T := TX5) (N := 27) (v := .int (R 12 0)) F (hw_X5_triggers_X5) 0 rfl rfl 12 (by decide) (List.mem_of_getElem? (i := 1) rfl) rfl rfl dX5_triggers_74 ?_
    refine zi_iconst (pc := 77) (v := 1) F dX5_triggers_77 rfl ?_
    refine zi_iadd (pc := 78) F dX5_triggers_78 ?_
    refine zi_put (pc := 79) (C := RX5) (T := TX5) (N := 27) (ty := .int) (ws' := zWR G (zsF (zsF (zsF (zsF (zsF (zsI (zsI R 11 ((R 11 0) + 1)) 12 ((R 12 0) + 1)) 13 (upd (R 13) (R 12 0).toNatClampNeg its)) 14 (upd (R 14) (R 12 0).toNatClampNeg (vp_nar .boolean 1))) 15 (upd (R 15) (R 12 0).toNatClampNeg player)) 16 (upd (R 16) (R 12 0).toNatClampNeg ((R 11 0) + 1))) 17 (upd (R 17) (R 12 0).toNatClampNeg 0))) F (hw_X5_triggers_X5) tyX5 tyX5_ok nmX5 0 rfl rfl 12 (by decide) (List.mem_of_getElem? (i := 1) rfl) rfl rfl rfl rfl rfl (Nat.le_of_ble_eq_true rfl) rfl dX5_triggers_79 ?_
    subst hE
    exact hret _ _ dX5_triggers_82
/-! X5_triggersOf -/
def mX5_triggersOf_L28 (one : Int32) (other : Int32) (but : Int32) (y229 : Int32) : Nat → Int32 → zS_t → Int32 × zS_t
  | 0, k6_297, R298 => (k6_297, R298)
  | n299 + 1, k6_297, R298 => if (R298 6 0) ≤ k6_297 then (k6_297, R298) else (if k6_297 = but then (zbnd ((k6_297 + 1)) (fun y330 => mX5_triggersOf_L28 one other but y229 n299 y330 R298)) else (if (R298 18 k6_297.toNatClampNeg) = y229 then (if (R298 7 k6_297.toNatClampNeg) = one then (zbnd (mX5_triggers (R298 7 k6_297.toNatClampNeg) y229 R298) (fun R344 => zbnd ((k6_297 + 1)) (fun y358 => mX5_triggersOf_L28 one other but y229 n299 y358 R344))) else (if (R298 7 k6_297.toNatClampNeg) = other then (zbnd (mX5_triggers (R298 7 k6_297.toNatClampNeg) y229 R298) (fun R370 => zbnd ((k6_297 + 1)) (fun y384 => mX5_triggersOf_L28 one other but y229 n299 y384 R370))) else (zbnd ((k6_297 + 1)) (fun y365 => mX5_triggersOf_L28 one other but y229 n299 y365 R298)))) else (zbnd ((k6_297 + 1)) (fun y337 => mX5_triggersOf_L28 one other but y229 n299 y337 R298))))
def mX5_triggersOf_L8 (one : Int32) (other : Int32) (but : Int32) : Nat → Int32 → zS_t → Int32 × zS_t
  | 0, k4_198, R199 => (k4_198, R199)
  | n200 + 1, k4_198, R199 => if 3 ≤ k4_198 then (k4_198, R199) else (zbnd ((((R199 0 0) + k4_198) - ((R199 0 0) + k4_198) / 3 * 3)) (fun y229 => zbnd2 (mX5_triggersOf_L28 one other but y229 11 0 R199) (fun k6_388 R389 => zbnd ((k4_198 + 1)) (fun y404 => mX5_triggersOf_L8 one other but n200 y404 R389))))
def mX5_triggersOf (one : Int32) (other : Int32) (but : Int32) (R : zS_t) : zS_t := zbnd (mX5_lays 5 R) (fun R1 => zbnd2 (mX5_triggersOf_L8 one other but 4 0 R1) (fun k4_408 R409 => R409))
set_option maxHeartbeats 4000000 in
set_option maxRecDepth 100000 in
theorem pp_X5_triggersOf (one : Int32) (other : Int32) (but : Int32) (R : zS_t) (hIR : zIR R) : (zIR (mX5_triggersOf one other but R)) := by
  obtain ⟨X, hE⟩ : ∃ z, mX5_triggersOf one other but R = z := ⟨_, rfl⟩
  rw [hE]
  have k_0 : Int32.toInt 0 = 0 := by decide
  have k_1 : Int32.toInt 1 = 1 := by decide
  have k_3 : Int32.toInt 3 = 3 := by decide
  have k_5 : Int32.toInt 5 = 5 := by decide
  obtain ⟨⟨i424, i425⟩, ⟨i426, i427⟩, ⟨i428, i429⟩, ⟨i430, i431⟩, ⟨i432, i433⟩, hIR_b14, hIR_p15⟩ := id hIR
  unfold mX5_triggersOf at hE
  have pp4 := pp_X5_lays 5 R (hIR) (by first | omega | (show Int32.toInt 5 ≤ 5; omega))
  obtain ⟨R1, e2⟩ : ∃ z, mX5_lays 5 R = z := ⟨_, rfl⟩
  have hE := zbnd_cut hE e2
  rw [e2] at pp4
  obtain ⟨hIR1, q5⟩ := pp4
  obtain ⟨⟨i6, i7⟩, ⟨i8, i9⟩, ⟨i10, i11⟩, ⟨i12, i13⟩, ⟨i14, i15⟩, hIR1_b14, hIR1_p15⟩ := id hIR1
  have hL8 : ∀ (n200 : Nat) (k4_198 : Int32) (R199 : zS_t), (0 ≤ Int32.toInt k4_198) ∧ (Int32.toInt k4_198 ≤ 3) ∧ (zIR R199) → 4 - Int32.toInt k4_198 ≤ (n200 : Int) → ∀ Y201, mX5_triggersOf_L8 one other but n200 k4_198 R199 = Y201 → (0 ≤ Int32.toInt Y201.1) ∧ (Int32.toInt Y201.1 ≤ 3) ∧ (zIR (Y201.2)) := by
    intro n200
    induction n200 with
    | zero =>
      intro k4_198 R199 hI hM9
      obtain ⟨i202, i203, hIR199⟩ := id hI
      obtain ⟨⟨i204, i205⟩, ⟨i206, i207⟩, ⟨i208, i209⟩, ⟨i210, i211⟩, ⟨i212, i213⟩, hIR199_b14, hIR199_p15⟩ := id hIR199
      exact absurd hM9 (by omega)
    | succ n200 ih =>
      intro k4_198 R199 hI hM9 Y201 hE
      obtain ⟨i214, i215, hIR199⟩ := id hI
      obtain ⟨⟨i216, i217⟩, ⟨i218, i219⟩, ⟨i220, i221⟩, ⟨i222, i223⟩, ⟨i224, i225⟩, hIR199_b14, hIR199_p15⟩ := id hIR199
      rw [mX5_triggersOf_L8.eq_2] at hE
      by_cases c226 : 3 ≤ k4_198
      · have hE := zite_t hE c226
        have t227 := zt_le c226
        subst hE
        exact ⟨by (show 0 ≤ Int32.toInt k4_198; omega), by (show Int32.toInt k4_198 ≤ 3; omega), hIR199⟩
      · have hE := zite_f hE c226
        have t228 := zt_nle c226
        try have t231 := zt_add (a := (R199 0 0)) (b := k4_198) (by omega) (by omega)
        try have t232 := zt_rem (a := ((R199 0 0) + k4_198)) (b := 3) (c := 3) rfl (by omega) (by omega)
        obtain ⟨y229, e230⟩ : ∃ z : Int32, (((R199 0 0) + k4_198) - ((R199 0 0) + k4_198) / 3 * 3) = z := ⟨_, rfl⟩
        have hE := zbnd_cut hE e230
        have t233 := congrArg Int32.toInt e230
        have hL28 : ∀ (n299 : Nat) (k6_297 : Int32) (R298 : zS_t), (0 ≤ Int32.toInt k6_297) ∧ (Int32.toInt k6_297 ≤ 10) ∧ (zIR R298) → 11 - Int32.toInt k6_297 ≤ (n299 : Int) → ∀ Y300, mX5_triggersOf_L28 one other but y229 n299 k6_297 R298 = Y300 → (0 ≤ Int32.toInt Y300.1) ∧ (Int32.toInt Y300.1 ≤ 10) ∧ (zIR (Y300.2)) := by
          intro n299
          induction n299 with
          | zero =>
            intro k6_297 R298 hI hM9
            obtain ⟨i301, i302, hIR298⟩ := id hI
            obtain ⟨⟨i303, i304⟩, ⟨i305, i306⟩, ⟨i307, i308⟩, ⟨i309, i310⟩, ⟨i311, i312⟩, hIR298_b14, hIR298_p15⟩ := id hIR298
            exact absurd hM9 (by omega)
          | succ n299 ih =>
            intro k6_297 R298 hI hM9 Y300 hE
            obtain ⟨i313, i314, hIR298⟩ := id hI
            obtain ⟨⟨i315, i316⟩, ⟨i317, i318⟩, ⟨i319, i320⟩, ⟨i321, i322⟩, ⟨i323, i324⟩, hIR298_b14, hIR298_p15⟩ := id hIR298
            rw [mX5_triggersOf_L28.eq_2] at hE
            by_cases c325 : (R298 6 0) ≤ k6_297
            · have hE := zite_t hE c325
              have t326 := zt_le c325
              subst hE
              exact ⟨by (show 0 ≤ Int32.toInt k6_297; omega), by (show Int32.toInt k6_297 ≤ 10; omega), hIR298⟩
            · have hE := zite_f hE c325
              have t327 := zt_nle c325
              by_cases c328 : k6_297 = but
              · have hE := zite_t hE c328
                have t329 := congrArg Int32.toInt c328
                try have t332 := zt_add (a := k6_297) (b := 1) (by omega) (by omega)
                obtain ⟨y330, e331⟩ : ∃ z : Int32, (k6_297 + 1) = z := ⟨_, rfl⟩
                have hE := zbnd_cut hE e331
                have t333 := congrArg Int32.toInt e331
                exact ih y330 R298 (⟨by (show 0 ≤ Int32.toInt y330; omega), by (show Int32.toInt y330 ≤ 10; omega), hIR298⟩) (by omega) _ hE
              · have hE := zite_f hE c328
                have t334 := zt_ne c328
                by_cases c335 : (R298 18 k6_297.toNatClampNeg) = y229
                · have hE := zite_t hE c335
                  have t336 := congrArg Int32.toInt c335
                  by_cases c337 : (R298 7 k6_297.toNatClampNeg) = one
                  · have hE := zite_t hE c337
                    have t338 := congrArg Int32.toInt c337
                    have pp342 := pp_X5_triggers (R298 7 k6_297.toNatClampNeg) y229 R298 (hIR298) (by first | omega | (show 0 ≤ Int32.toInt y229 ∧ Int32.toInt y229 < 3; omega))
                    obtain ⟨R339, e340⟩ : ∃ z, mX5_triggers (R298 7 k6_297.toNatClampNeg) y229 R298 = z := ⟨_, rfl⟩
                    have hE := zbnd_cut hE e340
                    rw [e340] at pp342
                    have hIR339 := pp342
                    obtain ⟨⟨i343, i344⟩, ⟨i345, i346⟩, ⟨i347, i348⟩, ⟨i349, i350⟩, ⟨i351, i352⟩, hIR339_b14, hIR339_p15⟩ := id hIR339
                    try have t355 := zt_add (a := k6_297) (b := 1) (by omega) (by omega)
                    obtain ⟨y353, e354⟩ : ∃ z : Int32, (k6_297 + 1) = z := ⟨_, rfl⟩
                    have hE := zbnd_cut hE e354
                    have t356 := congrArg Int32.toInt e354
                    exact ih y353 R339 (⟨by (show 0 ≤ Int32.toInt y353; omega), by (show Int32.toInt y353 ≤ 10; omega), hIR339⟩) (by omega) _ hE
                  · have hE := zite_f hE c337
                    have t357 := zt_ne c337
                    by_cases c358 : (R298 7 k6_297.toNatClampNeg) = other
                    · have hE := zite_t hE c358
                      have t359 := congrArg Int32.toInt c358
                      have pp363 := pp_X5_triggers (R298 7 k6_297.toNatClampNeg) y229 R298 (hIR298) (by first | omega | (show 0 ≤ Int32.toInt y229 ∧ Int32.toInt y229 < 3; omega))
                      obtain ⟨R360, e361⟩ : ∃ z, mX5_triggers (R298 7 k6_297.toNatClampNeg) y229 R298 = z := ⟨_, rfl⟩
                      have hE := zbnd_cut hE e361
                      rw [e361] at pp363
                      have hIR360 := pp363
                      obtain ⟨⟨i364, i365⟩, ⟨i366, i367⟩, ⟨i368, i369⟩, ⟨i370, i371⟩, ⟨i372, i373⟩, hIR360_b14, hIR360_p15⟩ := id hIR360
                      try have t376 := zt_add (a := k6_297) (b := 1) (by omega) (by omega)
                      obtain ⟨y374, e375⟩ : ∃ z : Int32, (k6_297 + 1) = z := ⟨_, rfl⟩
                      have hE := zbnd_cut hE e375
                      have t377 := congrArg Int32.toInt e375
                      exact ih y374 R360 (⟨by (show 0 ≤ Int32.toInt y374; omega), by (show Int32.toInt y374 ≤ 10; omega), hIR360⟩) (by omega) _ hE
                    · have hE := zite_f hE c358
                      have t378 := zt_ne c358
                      try have t381 := zt_add (a := k6_297) (b := 1) (by omega) (by omega)
                      obtain ⟨y379, e380⟩ : ∃ z : Int32, (k6_297 + 1) = z := ⟨_, rfl⟩
                      have hE := zbnd_cut hE e380
                      have t382 := congrArg Int32.toInt e380
                      exact ih y379 R298 (⟨by (show 0 ≤ Int32.toInt y379; omega), by (show Int32.toInt y379 ≤ 10; omega), hIR298⟩) (by omega) _ hE
                · have hE := zite_f hE c335
                  have t383 := zt_ne c335
                  try have t386 := zt_add (a := k6_297) (b := 1) (by omega) (by omega)
                  obtain ⟨y384, e385⟩ : ∃ z : Int32, (k6_297 + 1) = z := ⟨_, rfl⟩
                  have hE := zbnd_cut hE e385
                  have t387 := congrArg Int32.toInt e385
                  exact ih y384 R298 (⟨by (show 0 ≤ Int32.toInt y384; omega), by (show Int32.toInt y384 ≤ 10; omega), hIR298⟩) (by omega) _ hE
        obtain ⟨⟨k6_388, R389⟩, e390⟩ : ∃ z, mX5_triggersOf_L28 one other but y229 11 0 R199 = z := ⟨_, rfl⟩
        have hE := zbnd2_cut hE e390
        have hI391 := hL28 11 0 R199 (⟨by (show 0 ≤ Int32.toInt 0; omega), by (show Int32.toInt 0 ≤ 10; omega), hIR199⟩) (by omega) _ e390
        have hI391 : (0 ≤ Int32.toInt k6_388) ∧ (Int32.toInt k6_388 ≤ 10) ∧ (zIR R389) := hI391
        obtain ⟨i392, i393, hIR389⟩ := id hI391
        obtain ⟨⟨i394, i395⟩, ⟨i396, i397⟩, ⟨i398, i399⟩, ⟨i400, i401⟩, ⟨i402, i403⟩, hIR389_b14, hIR389_p15⟩ := id hIR389
        try have t406 := zt_add (a := k4_198) (b := 1) (by omega) (by omega)
        obtain ⟨y404, e405⟩ : ∃ z : Int32, (k4_198 + 1) = z := ⟨_, rfl⟩
        have hE := zbnd_cut hE e405
        have t407 := congrArg Int32.toInt e405
        exact ih y404 R389 (⟨by (show 0 ≤ Int32.toInt y404; omega), by (show Int32.toInt y404 ≤ 3; omega), hIR389⟩) (by omega) _ hE
  obtain ⟨⟨k4_408, R409⟩, e410⟩ : ∃ z, mX5_triggersOf_L8 one other but 4 0 R1 = z := ⟨_, rfl⟩
  have hE := zbnd2_cut hE e410
  have hI411 := hL8 4 0 R1 (⟨by (show 0 ≤ Int32.toInt 0; omega), by (show Int32.toInt 0 ≤ 3; omega), hIR1⟩) (by omega) _ e410
  have hI411 : (0 ≤ Int32.toInt k4_408) ∧ (Int32.toInt k4_408 ≤ 3) ∧ (zIR R409) := hI411
  obtain ⟨i412, i413, hIR409⟩ := id hI411
  obtain ⟨⟨i414, i415⟩, ⟨i416, i417⟩, ⟨i418, i419⟩, ⟨i420, i421⟩, ⟨i422, i423⟩, hIR409_b14, hIR409_p15⟩ := id hIR409
  subst hE
  exact hIR409
theorem hw_X5_triggersOf_X5 : ∀ w ∈ wsX50, w ∈ wsX5_triggersOf := fun w h => List.mem_cons_of_mem _ (List.mem_append_right _ (h))
abbrev rmX5_triggersOf : Room := { frames := 3, cells := 0, slots := 0, locals := 72 }
theorem hd_X5_triggersOf : yX5_triggersOf.cls = RX5 ∧ yX5_triggersOf.cls ≠ "java/lang/invoke/MethodHandle" ∧ yX5_triggersOf.cls ≠ "java/lang/invoke/VarHandle" ∧ (parseMethodDescriptor yX5_triggersOf.desc).map (fun d => d.parameters.length) = some 3 := by decide +kernel
set_option maxHeartbeats 4000000 in
set_option maxRecDepth 100000 in
theorem c_X5_triggersOf (l : Launch) (G : zG_t) (one : Int32) (other : Int32) (but : Int32) (R : zS_t) (hIR : zIR R) : zCV l G.1 (zty G) yX5_triggersOf wsX5_triggersOf rmX5_triggersOf [.ref (G.2.2 6 0), .int one, .int other, .int but] (zWR G R) (zWR G (mX5_triggersOf one other but R)) := by
  obtain ⟨X, hE⟩ : ∃ z, mX5_triggersOf one other but R = z := ⟨_, rfl⟩
  rw [hE]
  refine zb_V (cc := cX5_triggersOf) (maxL := 7) (by decide) rfl (Nat.le_of_ble_eq_true rfl) ?_
  intro p e s m args below meth c Q A F hret
  show zW p l e rmX5_triggersOf s m args below meth c 0 0 Q G.1 A 7 (zWR G R) [(0, .ref (G.2.2 6 0)), (1, .int one), (2, .int other), (3, .int but)] 0 []
  have k_0 : Int32.toInt 0 = 0 := by decide
  have k_1 : Int32.toInt 1 = 1 := by decide
  have k_3 : Int32.toInt 3 = 3 := by decide
  have k_5 : Int32.toInt 5 = 5 := by decide
  obtain ⟨⟨i434, i435⟩, ⟨i436, i437⟩, ⟨i438, i439⟩, ⟨i440, i441⟩, ⟨i442, i443⟩, hIR_b14, hIR_p15⟩ := id hIR
  unfold mX5_triggersOf at hE
  refine zi_aload_n (pc := 0) F dX5_triggersOf_0 0 rfl ?_
  refine zi_iconst (pc := 1) (v := 5) F dX5_triggersOf_1 rfl ?_
  have hM3 := c_X5_lays l G 5 R (hIR) (by first | omega | (show Int32.toInt 5 ≤ 5; omega))
  have pp4 := pp_X5_lays 5 R (hIR) (by first | omega | (show Int32.toInt 5 ≤ 5; omega))
  obtain ⟨R1, e2⟩ : ∃ z, mX5_lays 5 R = z := ⟨_, rfl⟩
  have hE := zbnd_cut hE e2
  rw [e2] at hM3
  rw [e2] at pp4
  obtain ⟨hIR1, q5⟩ := pp4
  obtain ⟨⟨i6, i7⟩, ⟨i8, i9⟩, ⟨i10, i11⟩, ⟨i12, i13⟩, ⟨i14, i15⟩, hIR1_b14, hIR1_p15⟩ := id hIR1
  refine zi_callVV (pc := 2) (rest := []) (ws' := zWR G R1) F hM3 (cwV 1 F.1.2.2.2.2 gX5_triggersOf_X5_lays rfl rfl rfl hd_X5_lays ⟨Nat.le_of_ble_eq_true rfl, Nat.le_of_ble_eq_true rfl⟩) 0 rfl rfl _ _ (zw_nil _) (zw_nil _).symm rfl rfl (Nat.le_of_ble_eq_true rfl) dX5_triggersOf_2 ⟨Nat.zero_le _, Nat.zero_le _⟩ ?_
  refine zi_iconst (pc := 5) (v := 0) F dX5_triggersOf_5 rfl ?_
  refine zi_istore (pc := 6) (lv' := [(0, .ref (G.2.2 6 0)), (1, .int one), (2, .int other), (3, .int but), (4, .int 0)]) F dX5_triggersOf_6 (by decide) rfl ?_
  have hL8 : ∀ (n200 : Nat) (k4_198 : Int32) (R199 : zS_t), (0 ≤ Int32.toInt k4_198) ∧ (Int32.toInt k4_198 ≤ 3) ∧ (zIR R199) → 4 - Int32.toInt k4_198 ≤ (n200 : Int) → ∀ Y201, mX5_triggersOf_L8 one other but n200 k4_198 R199 = Y201 → (((0 ≤ Int32.toInt Y201.1) ∧ (Int32.toInt Y201.1 ≤ 3) ∧ (zIR (Y201.2))) → zW p l e rmX5_triggersOf s m args below meth c 0 0 Q G.1 A 7 (zWR G (Y201.2)) [(0, .ref (G.2.2 6 0)), (1, .int one), (2, .int other), (3, .int but), (4, .int Y201.1)] 102 []) → zW p l e rmX5_triggersOf s m args below meth c 0 0 Q G.1 A 7 (zWR G R199) [(0, .ref (G.2.2 6 0)), (1, .int one), (2, .int other), (3, .int but), (4, .int k4_198)] 8 [] := by
    intro n200
    induction n200 with
    | zero =>
      intro k4_198 R199 hI hM9
      obtain ⟨i202, i203, hIR199⟩ := id hI
      obtain ⟨⟨i204, i205⟩, ⟨i206, i207⟩, ⟨i208, i209⟩, ⟨i210, i211⟩, ⟨i212, i213⟩, hIR199_b14, hIR199_p15⟩ := id hIR199
      exact absurd hM9 (by omega)
    | succ n200 ih =>
      intro k4_198 R199 hI hM9 Y201 hE hK
      obtain ⟨i214, i215, hIR199⟩ := id hI
      obtain ⟨⟨i216, i217⟩, ⟨i218, i219⟩, ⟨i220, i221⟩, ⟨i222, i223⟩, ⟨i224, i225⟩, hIR199_b14, hIR199_p15⟩ := id hIR199
      rw [mX5_triggersOf_L8.eq_2] at hE
      refine zi_iload (pc := 8) F dX5_triggersOf_8 4 rfl ?_
      refine zi_iconst (pc := 10) (v := 3) F dX5_triggersOf_10 rfl ?_
      refine zi_icmp_ge (pc := 11) (tgt := 102) F dX5_triggersOf_11 (by decide) (fun c226 => ?_) (fun c226 => ?_)
      · have hE := zite_t hE c226
        have t227 := zt_le c226
        subst hE
        refine zi_sub [0, 1, 2, 3, 4] rfl ?_
        exact hK (⟨by (show 0 ≤ Int32.toInt k4_198; omega), by (show Int32.toInt k4_198 ≤ 3; omega), hIR199⟩)
      · have hE := zite_f hE c226
        have t228 := zt_nle c226
        refine zi_aload_n (pc := 14) F dX5_triggersOf_14 0 rfl ?_
        refine zi_get (pc := 15) (C := RX5) (T := TX5) (N := 27) (v := .int (R199 0 0)) F (hw_X5_triggersOf_X5) 0 rfl rfl 0 (by decide) (List.mem_of_getElem? (i := 1) rfl) rfl rfl dX5_triggersOf_15 ?_
        refine zi_iload (pc := 18) F dX5_triggersOf_18 4 rfl ?_
        refine zi_iadd (pc := 20) F dX5_triggersOf_20 ?_
        refine zi_iconst (pc := 21) (v := 3) F dX5_triggersOf_21 rfl ?_
        refine zi_irem (pc := 22) F dX5_triggersOf_22 (by decide) ?_
        try have t231 := zt_add (a := (R199 0 0)) (b := k4_198) (by omega) (by omega)
        try have t232 := zt_rem (a := ((R199 0 0) + k4_198)) (b := 3) (c := 3) rfl (by omega) (by omega)
        refine zi_topi (fun y229 e230 => ?_)
        have hE := zbnd_cut hE e230
        have t233 := congrArg Int32.toInt e230
        refine zi_istore (pc := 23) (lv' := [(0, .ref (G.2.2 6 0)), (1, .int one), (2, .int other), (3, .int but), (4, .int k4_198), (5, .int y229)]) F dX5_triggersOf_23 (by decide) rfl ?_
        refine zi_iconst (pc := 25) (v := 0) F dX5_triggersOf_25 rfl ?_
        refine zi_istore (pc := 26) (lv' := [(0, .ref (G.2.2 6 0)), (1, .int one), (2, .int other), (3, .int but), (4, .int k4_198), (5, .int y229), (6, .int 0)]) F dX5_triggersOf_26 (by decide) rfl ?_
        have hL28 : ∀ (n299 : Nat) (k6_297 : Int32) (R298 : zS_t), (0 ≤ Int32.toInt k6_297) ∧ (Int32.toInt k6_297 ≤ 10) ∧ (zIR R298) → 11 - Int32.toInt k6_297 ≤ (n299 : Int) → ∀ Y300, mX5_triggersOf_L28 one other but y229 n299 k6_297 R298 = Y300 → (((0 ≤ Int32.toInt Y300.1) ∧ (Int32.toInt Y300.1 ≤ 10) ∧ (zIR (Y300.2))) → zW p l e rmX5_triggersOf s m args below meth c 0 0 Q G.1 A 7 (zWR G (Y300.2)) [(0, .ref (G.2.2 6 0)), (1, .int one), (2, .int other), (3, .int but), (4, .int k4_198), (5, .int y229), (6, .int Y300.1)] 96 []) → zW p l e rmX5_triggersOf s m args below meth c 0 0 Q G.1 A 7 (zWR G R298) [(0, .ref (G.2.2 6 0)), (1, .int one), (2, .int other), (3, .int but), (4, .int k4_198), (5, .int y229), (6, .int k6_297)] 28 [] := by
          intro n299
          induction n299 with
          | zero =>
            intro k6_297 R298 hI hM9
            obtain ⟨i301, i302, hIR298⟩ := id hI
            obtain ⟨⟨i303, i304⟩, ⟨i305, i306⟩, ⟨i307, i308⟩, ⟨i309, i310⟩, ⟨i311, i312⟩, hIR298_b14, hIR298_p15⟩ := id hIR298
            exact absurd hM9 (by omega)
          | succ n299 ih =>
            intro k6_297 R298 hI hM9 Y300 hE hK
            obtain ⟨i313, i314, hIR298⟩ := id hI
            obtain ⟨⟨i315, i316⟩, ⟨i317, i318⟩, ⟨i319, i320⟩, ⟨i321, i322⟩, ⟨i323, i324⟩, hIR298_b14, hIR298_p15⟩ := id hIR298
            rw [mX5_triggersOf_L28.eq_2] at hE
            refine zi_iload (pc := 28) F dX5_triggersOf_28 6 rfl ?_
            refine zi_aload_n (pc := 30) F dX5_triggersOf_30 0 rfl ?_
            refine zi_get (pc := 31) (C := RX5) (T := TX5) (N := 27) (v := .int (R298 6 0)) F (hw_X5_triggersOf_X5) 0 rfl rfl 6 (by decide) (List.mem_of_getElem? (i := 2) rfl) rfl rfl dX5_triggersOf_31 ?_
            refine zi_icmp_ge (pc := 34) (tgt := 96) F dX5_triggersOf_34 (by decide) (fun c325 => ?_) (fun c325 => ?_)
            · have hE := zite_t hE c325
              have t326 := zt_le c325
              subst hE
              refine zi_sub [0, 1, 2, 3, 4, 5, 6] rfl ?_
              exact hK (⟨by (show 0 ≤ Int32.toInt k6_297; omega), by (show Int32.toInt k6_297 ≤ 10; omega), hIR298⟩)
            · have hE := zite_f hE c325
              have t327 := zt_nle c325
              refine zi_iload (pc := 37) F dX5_triggersOf_37 6 rfl ?_
              refine zi_iload_n (pc := 39) F dX5_triggersOf_39 3 rfl ?_
              refine zi_icmp_eq (pc := 40) (tgt := 90) F dX5_triggersOf_40 (by decide) (fun c328 => ?_) (fun c328 => ?_)
              · have hE := zite_t hE c328
                have t329 := congrArg Int32.toInt c328
                try have t332 := zt_add (a := k6_297) (b := 1) (by omega) (by omega)
                obtain ⟨y330, e331⟩ : ∃ z : Int32, (k6_297 + 1) = z := ⟨_, rfl⟩
                have hE := zbnd_cut hE e331
                have t333 := congrArg Int32.toInt e331
                refine zi_iinc (pc := 90) (lv' := [(0, .ref (G.2.2 6 0)), (1, .int one), (2, .int other), (3, .int but), (4, .int k4_198), (5, .int y229), (6, .int y330)]) F dX5_triggersOf_90 6 rfl e331 (by decide) rfl ?_
                refine zi_goto (pc := 93) (tgt := 28) F dX5_triggersOf_93 (by decide) ?_
                refine zi_sub [0, 1, 2, 3, 4, 5, 6] rfl ?_
                exact ih y330 R298 (⟨by (show 0 ≤ Int32.toInt y330; omega), by (show Int32.toInt y330 ≤ 10; omega), hIR298⟩) (by omega) _ hE hK
              · have hE := zite_f hE c328
                have t334 := zt_ne c328
                refine zi_aload_n (pc := 43) F dX5_triggersOf_43 0 rfl ?_
                refine zi_get (pc := 44) (C := RX5) (T := TX5) (N := 27) (v := .ref (G.2.2 6 11)) F (hw_X5_triggersOf_X5) 0 rfl rfl 18 (by decide) (List.mem_of_getElem? (i := 3) rfl) rfl rfl dX5_triggersOf_44 ?_
                refine zi_iload (pc := 47) F dX5_triggersOf_47 6 rfl ?_
                refine zi_iald (pc := 49) (v := (R298 18 k6_297.toNatClampNeg)) F 11 0 rfl rfl (zin (a := k6_297) (by omega) (by omega)) rfl dX5_triggersOf_49 ?_
                refine zi_iload (pc := 50) F dX5_triggersOf_50 5 rfl ?_
                refine zi_icmp_ne (pc := 52) (tgt := 90) F dX5_triggersOf_52 (by decide) (fun c335 => ?_) (fun c335 => ?_)
                · have hE := zite_f hE c335
                  have t336 := zt_ne c335
                  try have t339 := zt_add (a := k6_297) (b := 1) (by omega) (by omega)
                  obtain ⟨y337, e338⟩ : ∃ z : Int32, (k6_297 + 1) = z := ⟨_, rfl⟩
                  have hE := zbnd_cut hE e338
                  have t340 := congrArg Int32.toInt e338
                  refine zi_iinc (pc := 90) (lv' := [(0, .ref (G.2.2 6 0)), (1, .int one), (2, .int other), (3, .int but), (4, .int k4_198), (5, .int y229), (6, .int y337)]) F dX5_triggersOf_90 6 rfl e338 (by decide) rfl ?_
                  refine zi_goto (pc := 93) (tgt := 28) F dX5_triggersOf_93 (by decide) ?_
                  refine zi_sub [0, 1, 2, 3, 4, 5, 6] rfl ?_
                  exact ih y337 R298 (⟨by (show 0 ≤ Int32.toInt y337; omega), by (show Int32.toInt y337 ≤ 10; omega), hIR298⟩) (by omega) _ hE hK
                · have hE := zite_t hE c335
                  have t341 := congrArg Int32.toInt c335
                  refine zi_aload_n (pc := 55) F dX5_triggersOf_55 0 rfl ?_
                  refine zi_get (pc := 56) (C := RX5) (T := TX5) (N := 27) (v := .ref (G.2.2 6 2)) F (hw_X5_triggersOf_X5) 0 rfl rfl 7 (by decide) (List.mem_of_getElem? (i := 4) rfl) rfl rfl dX5_triggersOf_56 ?_
                  refine zi_iload (pc := 59) F dX5_triggersOf_59 6 rfl ?_
                  refine zi_iald (pc := 61) (v := (R298 7 k6_297.toNatClampNeg)) F 2 0 rfl rfl (zin (a := k6_297) (by omega) (by omega)) rfl dX5_triggersOf_61 ?_
                  refine zi_iload_n (pc := 62) F dX5_triggersOf_62 1 rfl ?_
                  refine zi_icmp_eq (pc := 63) (tgt := 77) F dX5_triggersOf_63 (by decide) (fun c342 => ?_) (fun c342 => ?_)
                  · have hE := zite_t hE c342
                    have t343 := congrArg Int32.toInt c342
                    refine zi_aload_n (pc := 77) F dX5_triggersOf_77 0 rfl ?_
                    refine zi_aload_n (pc := 78) F dX5_triggersOf_78 0 rfl ?_
                    refine zi_get (pc := 79) (C := RX5) (T := TX5) (N := 27) (v := .ref (G.2.2 6 2)) F (hw_X5_triggersOf_X5) 0 rfl rfl 7 (by decide) (List.mem_of_getElem? (i := 4) rfl) rfl rfl dX5_triggersOf_79 ?_
                    refine zi_iload (pc := 82) F dX5_triggersOf_82 6 rfl ?_
                    refine zi_iald (pc := 84) (v := (R298 7 k6_297.toNatClampNeg)) F 2 0 rfl rfl (zin (a := k6_297) (by omega) (by omega)) rfl dX5_triggersOf_84 ?_
                    refine zi_iload (pc := 85) F dX5_triggersOf_85 5 rfl ?_
                    have hM346 := c_X5_triggers l G (R298 7 k6_297.toNatClampNeg) y229 R298 (hIR298) (by first | omega | (show 0 ≤ Int32.toInt y229 ∧ Int32.toInt y229 < 3; omega))
                    have pp347 := pp_X5_triggers (R298 7 k6_297.toNatClampNeg) y229 R298 (hIR298) (by first | omega | (show 0 ≤ Int32.toInt y229 ∧ Int32.toInt y229 < 3; omega))
                    obtain ⟨R344, e345⟩ : ∃ z, mX5_triggers (R298 7 k6_297.toNatClampNeg) y229 R298 = z := ⟨_, rfl⟩
                    have hE := zbnd_cut hE e345
                    rw [e345] at hM346
                    rw [e345] at pp347
                    have hIR344 := pp347
                    obtain ⟨⟨i348, i349⟩, ⟨i350, i351⟩, ⟨i352, i353⟩, ⟨i354, i355⟩, ⟨i356, i357⟩, hIR344_b14, hIR344_p15⟩ := id hIR344
                    refine zi_callVV (pc := 87) (rest := []) (ws' := zWR G R344) F hM346 (cwV 2 F.1.2.2.2.2 gX5_triggersOf_X5_triggers rfl rfl rfl hd_X5_triggers ⟨Nat.le_of_ble_eq_true rfl, Nat.le_of_ble_eq_true rfl⟩) 0 rfl rfl _ _ (zw_nil _) (zw_nil _).symm rfl rfl (Nat.le_of_ble_eq_true rfl) dX5_triggersOf_87 ⟨Nat.zero_le _, Nat.zero_le _⟩ ?_
                    try have t360 := zt_add (a := k6_297) (b := 1) (by omega) (by omega)
                    obtain ⟨y358, e359⟩ : ∃ z : Int32, (k6_297 + 1) = z := ⟨_, rfl⟩
                    have hE := zbnd_cut hE e359
                    have t361 := congrArg Int32.toInt e359
                    refine zi_iinc (pc := 90) (lv' := [(0, .ref (G.2.2 6 0)), (1, .int one), (2, .int other), (3, .int but), (4, .int k4_198), (5, .int y229), (6, .int y358)]) F dX5_triggersOf_90 6 rfl e359 (by decide) rfl ?_
                    refine zi_goto (pc := 93) (tgt := 28) F dX5_triggersOf_93 (by decide) ?_
                    refine zi_sub [0, 1, 2, 3, 4, 5, 6] rfl ?_
                    exact ih y358 R344 (⟨by (show 0 ≤ Int32.toInt y358; omega), by (show Int32.toInt y358 ≤ 10; omega), hIR344⟩) (by omega) _ hE hK
                  · have hE := zite_f hE c342
                    have t362 := zt_ne c342
                    refine zi_aload_n (pc := 66) F dX5_triggersOf_66 0 rfl ?_
                    refine zi_get (pc := 67) (C := RX5) (T := TX5) (N := 27) (v := .ref (G.2.2 6 2)) F (hw_X5_triggersOf_X5) 0 rfl rfl 7 (by decide) (List.mem_of_getElem? (i := 4) rfl) rfl rfl dX5_triggersOf_67 ?_
                    refine zi_iload (pc := 70) F dX5_triggersOf_70 6 rfl ?_
                    refine zi_iald (pc := 72) (v := (R298 7 k6_297.toNatClampNeg)) F 2 0 rfl rfl (zin (a := k6_297) (by omega) (by omega)) rfl dX5_triggersOf_72 ?_
                    refine zi_iload_n (pc := 73) F dX5_triggersOf_73 2 rfl ?_
                    refine zi_icmp_ne (pc := 74) (tgt := 90) F dX5_triggersOf_74 (by decide) (fun c363 => ?_) (fun c363 => ?_)
                    · have hE := zite_f hE c363
                      have t364 := zt_ne c363
                      try have t367 := zt_add (a := k6_297) (b := 1) (by omega) (by omega)
                      obtain ⟨y365, e366⟩ : ∃ z : Int32, (k6_297 + 1) = z := ⟨_, rfl⟩
                      have hE := zbnd_cut hE e366
                      have t368 := congrArg Int32.toInt e366
                      refine zi_iinc (pc := 90) (lv' := [(0, .ref (G.2.2 6 0)), (1, .int one), (2, .int other), (3, .int but), (4, .int k4_198), (5, .int y229), (6, .int y365)]) F dX5_triggersOf_90 6 rfl e366 (by decide) rfl ?_
                      refine zi_goto (pc := 93) (tgt := 28) F dX5_triggersOf_93 (by decide) ?_
                      refine zi_sub [0, 1, 2, 3, 4, 5, 6] rfl ?_
                      exact ih y365 R298 (⟨by (show 0 ≤ Int32.toInt y365; omega), by (show Int32.toInt y365 ≤ 10; omega), hIR298⟩) (by omega) _ hE hK
                    · have hE := zite_t hE c363
                      have t369 := congrArg Int32.toInt c363
                      refine zi_aload_n (pc := 77) F dX5_triggersOf_77 0 rfl ?_
                      refine zi_aload_n (pc := 78) F dX5_triggersOf_78 0 rfl ?_
                      refine zi_get (pc := 79) (C := RX5) (T := TX5) (N := 27) (v := .ref (G.2.2 6 2)) F (hw_X5_triggersOf_X5) 0 rfl rfl 7 (by decide) (List.mem_of_getElem? (i := 4) rfl) rfl rfl dX5_triggersOf_79 ?_
                      refine zi_iload (pc := 82) F dX5_triggersOf_82 6 rfl ?_
                      refine zi_iald (pc := 84) (v := (R298 7 k6_297.toNatClampNeg)) F 2 0 rfl rfl (zin (a := k6_297) (by omega) (by omega)) rfl dX5_triggersOf_84 ?_
                      refine zi_iload (pc := 85) F dX5_triggersOf_85 5 rfl ?_
                      have hM372 := c_X5_triggers l G (R298 7 k6_297.toNatClampNeg) y229 R298 (hIR298) (by first | omega | (show 0 ≤ Int32.toInt y229 ∧ Int32.toInt y229 < 3; omega))
                      have pp373 := pp_X5_triggers (R298 7 k6_297.toNatClampNeg) y229 R298 (hIR298) (by first | omega | (show 0 ≤ Int32.toInt y229 ∧ Int32.toInt y229 < 3; omega))
                      obtain ⟨R370, e371⟩ : ∃ z, mX5_triggers (R298 7 k6_297.toNatClampNeg) y229 R298 = z := ⟨_, rfl⟩
                      have hE := zbnd_cut hE e371
                      rw [e371] at hM372
                      rw [e371] at pp373
                      have hIR370 := pp373
                      obtain ⟨⟨i374, i375⟩, ⟨i376, i377⟩, ⟨i378, i379⟩, ⟨i380, i381⟩, ⟨i382, i383⟩, hIR370_b14, hIR370_p15⟩ := id hIR370
                      refine zi_callVV (pc := 87) (rest := []) (ws' := zWR G R370) F hM372 (cwV 2 F.1.2.2.2.2 gX5_triggersOf_X5_triggers rfl rfl rfl hd_X5_triggers ⟨Nat.le_of_ble_eq_true rfl, Nat.le_of_ble_eq_true rfl⟩) 0 rfl rfl _ _ (zw_nil _) (zw_nil _).symm rfl rfl (Nat.le_of_ble_eq_true rfl) dX5_triggersOf_87 ⟨Nat.zero_le _, Nat.zero_le _⟩ ?_
                      try have t386 := zt_add (a := k6_297) (b := 1) (by omega) (by omega)
                      obtain ⟨y384, e385⟩ : ∃ z : Int32, (k6_297 + 1) = z := ⟨_, rfl⟩
                      have hE := zbnd_cut hE e385
                      have t387 := congrArg Int32.toInt e385
                      refine zi_iinc (pc := 90) (lv' := [(0, .ref (G.2.2 6 0)), (1, .int one), (2, .int other), (3, .int but), (4, .int k4_198), (5, .int y229), (6, .int y384)]) F dX5_triggersOf_90 6 rfl e385 (by decide) rfl ?_
                      refine zi_goto (pc := 93) (tgt := 28) F dX5_triggersOf_93 (by decide) ?_
                      refine zi_sub [0, 1, 2, 3, 4, 5, 6] rfl ?_
                      exact ih y384 R370 (⟨by (show 0 ≤ Int32.toInt y384; omega), by (show Int32.toInt y384 ≤ 10; omega), hIR370⟩) (by omega) _ hE hK
        obtain ⟨⟨k6_388, R389⟩, e390⟩ : ∃ z, mX5_triggersOf_L28 one other but y229 11 0 R199 = z := ⟨_, rfl⟩
        have hE := zbnd2_cut hE e390
        refine hL28 11 0 R199 (⟨by (show 0 ≤ Int32.toInt 0; omega), by (show Int32.toInt 0 ≤ 10; omega), hIR199⟩) (by omega) _ e390 (fun hI391 => ?_)
        have hI391 : (0 ≤ Int32.toInt k6_388) ∧ (Int32.toInt k6_388 ≤ 10) ∧ (zIR R389) := hI391
        obtain ⟨i392, i393, hIR389⟩ := id hI391
        obtain ⟨⟨i394, i395⟩, ⟨i396, i397⟩, ⟨i398, i399⟩, ⟨i400, i401⟩, ⟨i402, i403⟩, hIR389_b14, hIR389_p15⟩ := id hIR389
        show zW p l e rmX5_triggersOf s m args below meth c 0 0 Q G.1 A 7 (zWR G R389) [(0, .ref (G.2.2 6 0)), (1, .int one), (2, .int other), (3, .int but), (4, .int k4_198), (5, .int y229), (6, .int k6_388)] 96 []
        try have t406 := zt_add (a := k4_198) (b := 1) (by omega) (by omega)
        obtain ⟨y404, e405⟩ : ∃ z : Int32, (k4_198 + 1) = z := ⟨_, rfl⟩
        have hE := zbnd_cut hE e405
        have t407 := congrArg Int32.toInt e405
        refine zi_iinc (pc := 96) (lv' := [(0, .ref (G.2.2 6 0)), (1, .int one), (2, .int other), (3, .int but), (4, .int y404), (5, .int y229), (6, .int k6_388)]) F dX5_triggersOf_96 4 rfl e405 (by decide) rfl ?_
        refine zi_goto (pc := 99) (tgt := 8) F dX5_triggersOf_99 (by decide) ?_
        refine zi_sub [0, 1, 2, 3, 4] rfl ?_
        exact ih y404 R389 (⟨by (show 0 ≤ Int32.toInt y404; omega), by (show Int32.toInt y404 ≤ 3; omega), hIR389⟩) (by omega) _ hE hK
  obtain ⟨⟨k4_408, R409⟩, e410⟩ : ∃ z, mX5_triggersOf_L8 one other but 4 0 R1 = z := ⟨_, rfl⟩
  have hE := zbnd2_cut hE e410
  refine hL8 4 0 R1 (⟨by (show 0 ≤ Int32.toInt 0; omega), by (show Int32.toInt 0 ≤ 3; omega), hIR1⟩) (by omega) _ e410 (fun hI411 => ?_)
  have hI411 : (0 ≤ Int32.toInt k4_408) ∧ (Int32.toInt k4_408 ≤ 3) ∧ (zIR R409) := hI411
  obtain ⟨i412, i413, hIR409⟩ := id hI411
  obtain ⟨⟨i414, i415⟩, ⟨i416, i417⟩, ⟨i418, i419⟩, ⟨i420, i421⟩, ⟨i422, i423⟩, hIR409_b14, hIR409_p15⟩ := id hIR409
  show zW p l e rmX5_triggersOf s m args below meth c 0 0 Q G.1 A 7 (zWR G R409) [(0, .ref (G.2.2 6 0)), (1, .int one), (2, .int other), (3, .int but), (4, .int k4_408)] 102 []
  subst hE
  exact hret _ _ dX5_triggersOf_102
/-! X5_enters -/
def mX5_enters (its : Int32) (player : Int32) (aimed : Int32) (R : zS_t) : zS_t := if 10 ≤ (R 6 0) then R else (zbnd (mX5_triggersOf 9 11 (((R 6 0) + 1) - 1) (zsI (zsF (zsF (zsF (zsF (zsI R 6 ((R 6 0) + 1)) 7 (upd (R 7) (R 6 0).toNatClampNeg its)) 8 (upd (R 8) (R 6 0).toNatClampNeg player)) 9 (upd (R 9) (R 6 0).toNatClampNeg ((R 11 0) + 1))) 10 (upd (R 10) (R 6 0).toNatClampNeg aimed)) 11 ((R 11 0) + 1))) (fun R4 => R4))
set_option maxHeartbeats 4000000 in
set_option maxRecDepth 100000 in
theorem pp_X5_enters (its : Int32) (player : Int32) (aimed : Int32) (R : zS_t) (hIR : zIR R) : (zIR (mX5_enters its player aimed R)) := by
  obtain ⟨X, hE⟩ : ∃ z, mX5_enters its player aimed R = z := ⟨_, rfl⟩
  rw [hE]
  have k_0 : Int32.toInt 0 = 0 := by decide
  have k_1 : Int32.toInt 1 = 1 := by decide
  have k_9 : Int32.toInt 9 = 9 := by decide
  have k_10 : Int32.toInt 10 = 10 := by decide
  have k_11 : Int32.toInt 11 = 11 := by decide
  obtain ⟨⟨i21, i22⟩, ⟨i23, i24⟩, ⟨i25, i26⟩, ⟨i27, i28⟩, ⟨i29, i30⟩, hIR_b14, hIR_p15⟩ := id hIR
  unfold mX5_enters at hE
  by_cases c1 : 10 ≤ (R 6 0)
  · have hE := zite_t hE c1
    have t2 := zt_le c1
    subst hE
    exact hIR
  · have hE := zite_f hE c1
    have t3 := zt_nle c1
    try have t5 := zt_add (a := (R 6 0)) (b := 1) (by omega) (by omega)
    try have t6 := zt_sub (a := ((R 6 0) + 1)) (b := 1) (by omega) (by omega)
    try have t7 := zt_add (a := (R 6 0)) (b := 1) (by omega) (by omega)
    have pp10 := pp_X5_triggersOf 9 11 (((R 6 0) + 1) - 1) (zsI (zsF (zsF (zsF (zsF (zsI R 6 ((R 6 0) + 1)) 7 (upd (R 7) (R 6 0).toNatClampNeg its)) 8 (upd (R 8) (R 6 0).toNatClampNeg player)) 9 (upd (R 9) (R 6 0).toNatClampNeg ((R 11 0) + 1))) 10 (upd (R 10) (R 6 0).toNatClampNeg aimed)) 11 ((R 11 0) + 1)) (⟨⟨by (show (0:Int) ≤ Int32.toInt ((R 6 0) + 1)); omega, by (show Int32.toInt ((R 6 0) + 1) ≤ (10:Int)); omega⟩, ⟨by (show (0:Int) ≤ Int32.toInt (R 12 0)); omega, by (show Int32.toInt (R 12 0) ≤ (12:Int)); omega⟩, ⟨by (show (0:Int) ≤ Int32.toInt (R 23 0)); omega, by (show Int32.toInt (R 23 0) ≤ (40:Int)); omega⟩, ⟨by (show (0:Int) ≤ Int32.toInt (R 0 0)); omega, by (show Int32.toInt (R 0 0) ≤ (2:Int)); omega⟩, ⟨by (show (0:Int) ≤ Int32.toInt (R 1 0)); omega, by (show Int32.toInt (R 1 0) ≤ (2:Int)); omega⟩, hIR_b14, hIR_p15⟩)
    obtain ⟨R4, e8⟩ : ∃ z, mX5_triggersOf 9 11 (((R 6 0) + 1) - 1) (zsI (zsF (zsF (zsF (zsF (zsI R 6 ((R 6 0) + 1)) 7 (upd (R 7) (R 6 0).toNatClampNeg its)) 8 (upd (R 8) (R 6 0).toNatClampNeg player)) 9 (upd (R 9) (R 6 0).toNatClampNeg ((R 11 0) + 1))) 10 (upd (R 10) (R 6 0).toNatClampNeg aimed)) 11 ((R 11 0) + 1)) = z := ⟨_, rfl⟩
    have hE := zbnd_cut hE e8
    rw [e8] at pp10
    have hIR4 := pp10
    obtain ⟨⟨i11, i12⟩, ⟨i13, i14⟩, ⟨i15, i16⟩, ⟨i17, i18⟩, ⟨i19, i20⟩, hIR4_b14, hIR4_p15⟩ := id hIR4
    subst hE
    exact hIR4
theorem hw_X5_enters_X5 : ∀ w ∈ wsX50, w ∈ wsX5_enters := fun w h => List.mem_cons_of_mem _ (List.mem_append_right _ (h))
abbrev rmX5_enters : Room := { frames := 4, cells := 0, slots := 0, locals := 98 }
theorem hd_X5_enters : yX5_enters.cls = RX5 ∧ yX5_enters.cls ≠ "java/lang/invoke/MethodHandle" ∧ yX5_enters.cls ≠ "java/lang/invoke/VarHandle" ∧ (parseMethodDescriptor yX5_enters.desc).map (fun d => d.parameters.length) = some 3 := by decide +kernel
set_option maxHeartbeats 4000000 in
set_option maxRecDepth 100000 in
theorem c_X5_enters (l : Launch) (G : zG_t) (its : Int32) (player : Int32) (aimed : Int32) (R : zS_t) (hIR : zIR R) : zCV l G.1 (zty G) yX5_enters wsX5_enters rmX5_enters [.ref (G.2.2 6 0), .int its, .int player, .int aimed] (zWR G R) (zWR G (mX5_enters its player aimed R)) := by
  obtain ⟨X, hE⟩ : ∃ z, mX5_enters its player aimed R = z := ⟨_, rfl⟩
  rw [hE]
  refine zb_V (cc := cX5_enters) (maxL := 4) (by decide) rfl (Nat.le_of_ble_eq_true rfl) ?_
  intro p e s m args below meth c Q A F hret
  show zW p l e rmX5_enters s m args below meth c 0 0 Q G.1 A 4 (zWR G R) [(0, .ref (G.2.2 6 0)), (1, .int its), (2, .int player), (3, .int aimed)] 0 []
  have k_0 : Int32.toInt 0 = 0 := by decide
  have k_1 : Int32.toInt 1 = 1 := by decide
  have k_9 : Int32.toInt 9 = 9 := by decide
  have k_10 : Int32.toInt 10 = 10 := by decide
  have k_11 : Int32.toInt 11 = 11 := by decide
  obtain ⟨⟨i31, i32⟩, ⟨i33, i34⟩, ⟨i35, i36⟩, ⟨i37, i38⟩, ⟨i39, i40⟩, hIR_b14, hIR_p15⟩ := id hIR
  unfold mX5_enters at hE
  refine zi_aload_n (pc := 0) F dX5_enters_0 0 rfl ?_
  refine zi_get (pc := 1) (C := RX5) (T := TX5) (N := 27) (v := .int (R 6 0)) F (hw_X5_enters_X5) 0 rfl rfl 6 (by decide) (List.mem_of_getElem? (i := 1) rfl) rfl rfl dX5_enters_1 ?_
  refine zi_bipush (pc := 4) (v := 10) F dX5_enters_4 rfl ?_
  refine zi_icmp_ge (pc := 6) (tgt := 86) F dX5_enters_6 (by decide) (fun c1 => ?_) (fun c1 => ?_)
  · have hE := zite_t hE c1
    have t2 := zt_le c1
    subst hE
    exact hret _ _ dX5_enters_86
  · have hE := zite_f hE c1
    have t3 := zt_nle c1
    refine zi_aload_n (pc := 9) F dX5_enters_9 0 rfl ?_
    refine zi_get (pc := 10) (C := RX5) (T := TX5) (N := 27) (v := .ref (G.2.2 6 2)) F (hw_X5_enters_X5) 0 rfl rfl 7 (by decide) (List.mem_of_getElem? (i := 2) rfl) rfl rfl dX5_enters_10 ?_
    refine zi_aload_n (pc := 13) F dX5_enters_13 0 rfl ?_
    refine zi_get (pc := 14) (C := RX5) (T := TX5) (N := 27) (v := .int (R 6 0)) F (hw_X5_enters_X5) 0 rfl rfl 6 (by decide) (List.mem_of_getElem? (i := 1) rfl) rfl rfl dX5_enters_14 ?_
    refine zi_iload_n (pc := 17) F dX5_enters_17 1 rfl ?_
    refine zi_iast (pc := 18) (ws' := zWR G (zsF R 7 (upd (R 7) (R 6 0).toNatClampNeg its))) F 2 0 rfl rfl (zin (a := (R 6 0)) (by omega) (by omega)) rfl dX5_enters_18 ?_
    refine zi_aload_n (pc := 19) F dX5_enters_19 0 rfl ?_
    refine zi_get (pc := 20) (C := RX5) (T := TX5) (N := 27) (v := .ref (G.2.2 6 3)) F (hw_X5_enters_X5) 0 rfl rfl 8 (by decide) (List.mem_of_getElem? (i := 3) rfl) rfl rfl dX5_enters_20 ?_
    refine zi_aload_n (pc := 23) F dX5_enters_23 0 rfl ?_
    refine zi_get (pc := 24) (C := RX5) (T := TX5) (N := 27) (v := .int (R 6 0)) F (hw_X5_enters_X5) 0 rfl rfl 6 (by decide) (List.mem_of_getElem? (i := 1) rfl) rfl rfl dX5_enters_24 ?_
    refine zi_iload_n (pc := 27) F dX5_enters_27 2 rfl ?_
    refine zi_iast (pc := 28) (ws' := zWR G (zsF (zsF R 7 (upd (R 7) (R 6 0).toNatClampNeg its)) 8 (upd (R 8) (R 6 0).toNatClampNeg player))) F 3 0 rfl rfl (zin (a := (R 6 0)) (by omega) (by omega)) rfl dX5_enters_28 ?_
    refine zi_aload_n (pc := 29) F dX5_enters_29 0 rfl ?_
    refine zi_dup (pc := 30) F dX5_enters_30 rfl ?_
    refine zi_get (pc := 31) (C := RX5) (T := TX5) (N := 27) (v := .int (R 11 0)) F (hw_X5_enters_X5) 0 rfl rfl 11 (by decide) (List.mem_of_getElem? (i := 4) rfl) rfl rfl dX5_enters_31 ?_
    refine zi_iconst (pc := 34) (v := 1) F dX5_enters_34 rfl ?_
    refine zi_iadd (pc := 35) F dX5_enters_35 ?_
    refine zi_put (pc := 36) (C := RX5) (T := TX5) (N := 27) (ty := .int) (ws' := zWR G (zsI (zsF (zsF R 7 (upd (R 7) (R 6 0).toNatClampNeg its)) 8 (upd (R 8) (R 6 0).toNatClampNeg player)) 11 ((R 11 0) + 1))) F (hw_X5_enters_X5) tyX5 tyX5_ok nmX5 0 rfl rfl 11 (by decide) (List.mem_of_getElem? (i := 4) rfl) rfl rfl rfl rfl rfl (Nat.le_of_ble_eq_true rfl) rfl dX5_enters_36 ?_
    refine zi_aload_n (pc := 39) F dX5_enters_39 0 rfl ?_
    refine zi_get (pc := 40) (C := RX5) (T := TX5) (N := 27) (v := .ref (G.2.2 6 4)) F (hw_X5_enters_X5) 0 rfl rfl 9 (by decide) (List.mem_of_getElem? (i := 5) rfl) rfl rfl dX5_enters_40 ?_
    refine zi_aload_n (pc := 43) F dX5_enters_43 0 rfl ?_
    refine zi_get (pc := 44) (C := RX5) (T := TX5) (N := 27) (v := .int (R 6 0)) F (hw_X5_enters_X5) 0 rfl rfl 6 (by decide) (List.mem_of_getElem? (i := 1) rfl) rfl rfl dX5_enters_44 ?_
    refine zi_aload_n (pc := 47) F dX5_enters_47 0 rfl ?_
    refine zi_get (pc := 48) (C := RX5) (T := TX5) (N := 27) (v := .int ((R 11 0) + 1)) F (hw_X5_enters_X5) 0 rfl rfl 11 (by decide) (List.mem_of_getElem? (i := 4) rfl) rfl rfl dX5_enters_48 ?_
    refine zi_iast (pc := 51) (ws' := zWR G (zsI (zsF (zsF (zsF R 7 (upd (R 7) (R 6 0).toNatClampNeg its)) 8 (upd (R 8) (R 6 0).toNatClampNeg player)) 9 (upd (R 9) (R 6 0).toNatClampNeg ((R 11 0) + 1))) 11 ((R 11 0) + 1))) F 4 0 rfl rfl (zin (a := (R 6 0)) (by omega) (by omega)) rfl dX5_enters_51 ?_
    refine zi_aload_n (pc := 52) F dX5_enters_52 0 rfl ?_
    refine zi_get (pc := 53) (C := RX5) (T := TX5) (N := 27) (v := .ref (G.2.2 6 5)) F (hw_X5_enters_X5) 0 rfl rfl 10 (by decide) (List.mem_of_getElem? (i := 6) rfl) rfl rfl dX5_enters_53 ?_
    refine zi_aload_n (pc := 56) F dX5_enters_56 0 rfl ?_
    refine zi_get (pc := 57) (C := RX5) (T := TX5) (N := 27) (v := .int (R 6 0)) F (hw_X5_enters_X5) 0 rfl rfl 6 (by decide) (List.mem_of_getElem? (i := 1) rfl) rfl rfl dX5_enters_57 ?_
    refine zi_iload_n (pc := 60) F dX5_enters_60 3 rfl ?_
    refine zi_iast (pc := 61) (ws' := zWR G (zsI (zsF (zsF (zsF (zsF R 7 (upd (R 7) (R 6 0).toNatClampNeg its)) 8 (upd (R 8) (R 6 0).toNatClampNeg player)) 9 (upd (R 9) (R 6 0).toNatClampNeg ((R 11 0) + 1))) 10 (upd (R 10) (R 6 0).toNatClampNeg aimed)) 11 ((R 11 0) + 1))) F 5 0 rfl rfl (zin (a := (R 6 0)) (by omega) (by omega)) rfl dX5_enters_61 ?_
    refine zi_aload_n (pc := 62) F dX5_enters_62 0 rfl ?_
    refine zi_dup (pc := 63) F dX5_enters_63 rfl ?_
    refine zi_get (pc := 64) (C := RX5) (T := TX5) (N := 27) (v := .int (R 6 0)) F (hw_X5_enters_X5) 0 rfl rfl 6 (by decide) (List.mem_of_getElem? (i := 1) rfl) rfl rfl dX5_enters_64 ?_
    refine zi_iconst (pc := 67) (v := 1) F dX5_enters_67 rfl ?_
    refine zi_iadd (pc := 68) F dX5_enters_68 ?_
    refine zi_put (pc := 69) (C := RX5) (T := TX5) (N := 27) (ty := .int) (ws' := zWR G (zsI (zsF (zsF (zsF (zsF (zsI R 6 ((R 6 0) + 1)) 7 (upd (R 7) (R 6 0).toNatClampNeg its)) 8 (upd (R 8) (R 6 0).toNatClampNeg player)) 9 (upd (R 9) (R 6 0).toNatClampNeg ((R 11 0) + 1))) 10 (upd (R 10) (R 6 0).toNatClampNeg aimed)) 11 ((R 11 0) + 1))) F (hw_X5_enters_X5) tyX5 tyX5_ok nmX5 0 rfl rfl 6 (by decide) (List.mem_of_getElem? (i := 1) rfl) rfl rfl rfl rfl rfl (Nat.le_of_ble_eq_true rfl) rfl dX5_enters_69 ?_
    refine zi_aload_n (pc := 72) F dX5_enters_72 0 rfl ?_
    refine zi_bipush (pc := 73) (v := 9) F dX5_enters_73 rfl ?_
    refine zi_bipush (pc := 75) (v := 11) F dX5_enters_75 rfl ?_
    refine zi_aload_n (pc := 77) F dX5_enters_77 0 rfl ?_
    refine zi_get (pc := 78) (C := RX5) (T := TX5) (N := 27) (v := .int ((R 6 0) + 1)) F (hw_X5_enters_X5) 0 rfl rfl 6 (by decide) (List.mem_of_getElem? (i := 1) rfl) rfl rfl dX5_enters_78 ?_
    refine zi_iconst (pc := 81) (v := 1) F dX5_enters_81 rfl ?_
    refine zi_isub (pc := 82) F dX5_enters_82 ?_
    try have t5 := zt_add (a := (R 6 0)) (b := 1) (by omega) (by omega)
    try have t6 := zt_sub (a := ((R 6 0) + 1)) (b := 1) (by omega) (by omega)
    try have t7 := zt_add (a := (R 6 0)) (b := 1) (by omega) (by omega)
    have hM9 := c_X5_triggersOf l G 9 11 (((R 6 0) + 1) - 1) (zsI (zsF (zsF (zsF (zsF (zsI R 6 ((R 6 0) + 1)) 7 (upd (R 7) (R 6 0).toNatClampNeg its)) 8 (upd (R 8) (R 6 0).toNatClampNeg player)) 9 (upd (R 9) (R 6 0).toNatClampNeg ((R 11 0) + 1))) 10 (upd (R 10) (R 6 0).toNatClampNeg aimed)) 11 ((R 11 0) + 1)) (⟨⟨by (show (0:Int) ≤ Int32.toInt ((R 6 0) + 1)); omega, by (show Int32.toInt ((R 6 0) + 1) ≤ (10:Int)); omega⟩, ⟨by (show (0:Int) ≤ Int32.toInt (R 12 0)); omega, by (show Int32.toInt (R 12 0) ≤ (12:Int)); omega⟩, ⟨by (show (0:Int) ≤ Int32.toInt (R 23 0)); omega, by (show Int32.toInt (R 23 0) ≤ (40:Int)); omega⟩, ⟨by (show (0:Int) ≤ Int32.toInt (R 0 0)); omega, by (show Int32.toInt (R 0 0) ≤ (2:Int)); omega⟩, ⟨by (show (0:Int) ≤ Int32.toInt (R 1 0)); omega, by (show Int32.toInt (R 1 0) ≤ (2:Int)); omega⟩, hIR_b14, hIR_p15⟩)
    have pp10 := pp_X5_triggersOf 9 11 (((R 6 0) + 1) - 1) (zsI (zsF (zsF (zsF (zsF (zsI R 6 ((R 6 0) + 1)) 7 (upd (R 7) (R 6 0).toNatClampNeg its)) 8 (upd (R 8) (R 6 0).toNatClampNeg player)) 9 (upd (R 9) (R 6 0).toNatClampNeg ((R 11 0) + 1))) 10 (upd (R 10) (R 6 0).toNatClampNeg aimed)) 11 ((R 11 0) + 1)) (⟨⟨by (show (0:Int) ≤ Int32.toInt ((R 6 0) + 1)); omega, by (show Int32.toInt ((R 6 0) + 1) ≤ (10:Int)); omega⟩, ⟨by (show (0:Int) ≤ Int32.toInt (R 12 0)); omega, by (show Int32.toInt (R 12 0) ≤ (12:Int)); omega⟩, ⟨by (show (0:Int) ≤ Int32.toInt (R 23 0)); omega, by (show Int32.toInt (R 23 0) ≤ (40:Int)); omega⟩, ⟨by (show (0:Int) ≤ Int32.toInt (R 0 0)); omega, by (show Int32.toInt (R 0 0) ≤ (2:Int)); omega⟩, ⟨by (show (0:Int) ≤ Int32.toInt (R 1 0)); omega, by (show Int32.toInt (R 1 0) ≤ (2:Int)); omega⟩, hIR_b14, hIR_p15⟩)
    obtain ⟨R4, e8⟩ : ∃ z, mX5_triggersOf 9 11 (((R 6 0) + 1) - 1) (zsI (zsF (zsF (zsF (zsF (zsI R 6 ((R 6 0) + 1)) 7 (upd (R 7) (R 6 0).toNatClampNeg its)) 8 (upd (R 8) (R 6 0).toNatClampNeg player)) 9 (upd (R 9) (R 6 0).toNatClampNeg ((R 11 0) + 1))) 10 (upd (R 10) (R 6 0).toNatClampNeg aimed)) 11 ((R 11 0) + 1)) = z := ⟨_, rfl⟩
    have hE := zbnd_cut hE e8
    rw [e8] at hM9
    rw [e8] at pp10
    have hIR4 := pp10
    obtain ⟨⟨i11, i12⟩, ⟨i13, i14⟩, ⟨i15, i16⟩, ⟨i17, i18⟩, ⟨i19, i20⟩, hIR4_b14, hIR4_p15⟩ := id hIR4
    refine zi_callVV (pc := 83) (rest := []) (ws' := zWR G R4) F hM9 (cwV 3 F.1.2.2.2.2 gX5_enters_X5_triggersOf rfl rfl rfl hd_X5_triggersOf ⟨Nat.le_of_ble_eq_true rfl, Nat.le_of_ble_eq_true rfl⟩) 0 rfl rfl _ _ (zw_nil _) (zw_nil _).symm rfl rfl (Nat.le_of_ble_eq_true rfl) dX5_enters_83 ⟨Nat.zero_le _, Nat.zero_le _⟩ ?_
    subst hE
    exact hret _ _ dX5_enters_86
/-! X5_leaves -/
def mX5_leaves_L12  : Nat → Int32 → zS_t → Int32 × zS_t
  | 0, k2_30, R31 => (k2_30, R31)
  | n32 + 1, k2_30, R31 => if (R31 6 0) ≤ k2_30 then (k2_30, R31) else (zbnd ((k2_30 + 1)) (fun y67 => mX5_leaves_L12  n32 y67 (zsF (zsF (zsF (zsF R31 7 (upd (R31 7) k2_30.toNatClampNeg (R31 7 (k2_30 + 1).toNatClampNeg))) 8 (upd (R31 8) k2_30.toNatClampNeg (R31 8 (k2_30 + 1).toNatClampNeg))) 9 (upd (R31 9) k2_30.toNatClampNeg (R31 9 (k2_30 + 1).toNatClampNeg))) 10 (upd (R31 10) k2_30.toNatClampNeg (R31 10 (k2_30 + 1).toNatClampNeg)))))
def mX5_leaves (atp : Int32) (R : zS_t) : zS_t := zbnd ((zsI R 6 ((R 6 0) - 1))) (fun R1 => zbnd2 (mX5_leaves_L12  11 atp R1) (fun k2_71 R72 => zbnd (mX5_triggersOf 10 10 (-1) R72) (fun R88 => R88)))
set_option maxHeartbeats 4000000 in
set_option maxRecDepth 100000 in
theorem pp_X5_leaves (atp : Int32) (R : zS_t) (hIR : zIR R) (hx0 : 0 ≤ Int32.toInt atp ∧ Int32.toInt atp < Int32.toInt (R 6 0)) : (zIR (mX5_leaves atp R)) := by
  obtain ⟨X, hE⟩ : ∃ z, mX5_leaves atp R = z := ⟨_, rfl⟩
  rw [hE]
  have k_m1 : Int32.toInt (-1) = -1 := by decide
  have k_0 : Int32.toInt 0 = 0 := by decide
  have k_1 : Int32.toInt 1 = 1 := by decide
  have k_10 : Int32.toInt 10 = 10 := by decide
  obtain ⟨⟨i102, i103⟩, ⟨i104, i105⟩, ⟨i106, i107⟩, ⟨i108, i109⟩, ⟨i110, i111⟩, hIR_b14, hIR_p15⟩ := id hIR
  unfold mX5_leaves at hE
  try have t3 := zt_sub (a := (R 6 0)) (b := 1) (by omega) (by omega)
  have hIR1 : zIR (zsI R 6 ((R 6 0) - 1)) := ⟨⟨by (show (0:Int) ≤ Int32.toInt ((R 6 0) - 1)); omega, by (show Int32.toInt ((R 6 0) - 1) ≤ (10:Int)); omega⟩, ⟨by (show (0:Int) ≤ Int32.toInt (R 12 0)); omega, by (show Int32.toInt (R 12 0) ≤ (12:Int)); omega⟩, ⟨by (show (0:Int) ≤ Int32.toInt (R 23 0)); omega, by (show Int32.toInt (R 23 0) ≤ (40:Int)); omega⟩, ⟨by (show (0:Int) ≤ Int32.toInt (R 0 0)); omega, by (show Int32.toInt (R 0 0) ≤ (2:Int)); omega⟩, ⟨by (show (0:Int) ≤ Int32.toInt (R 1 0)); omega, by (show Int32.toInt (R 1 0) ≤ (2:Int)); omega⟩, hIR_b14, hIR_p15⟩
  obtain ⟨R1, e2⟩ : ∃ z, (zsI R 6 ((R 6 0) - 1)) = z := ⟨_, rfl⟩
  have hE := zbnd_cut hE e2
  have t4 : Int32.toInt (R1 6 0) = Int32.toInt ((R 6 0) - 1) := by rw [← e2]; rfl
  have t5 : Int32.toInt (R1 12 0) = Int32.toInt (R 12 0) := by rw [← e2]; rfl
  have t6 : Int32.toInt (R1 23 0) = Int32.toInt (R 23 0) := by rw [← e2]; rfl
  have t7 : Int32.toInt (R1 0 0) = Int32.toInt (R 0 0) := by rw [← e2]; rfl
  have t8 : Int32.toInt (R1 1 0) = Int32.toInt (R 1 0) := by rw [← e2]; rfl
  rw [e2] at hIR1
  obtain ⟨⟨i9, i10⟩, ⟨i11, i12⟩, ⟨i13, i14⟩, ⟨i15, i16⟩, ⟨i17, i18⟩, hIR1_b14, hIR1_p15⟩ := id hIR1
  have hL12 : ∀ (n32 : Nat) (k2_30 : Int32) (R31 : zS_t), (0 ≤ Int32.toInt k2_30) ∧ (Int32.toInt k2_30 ≤ 10) ∧ (Int32.toInt (R31 6 0) ≤ 9) ∧ (zIR R31) → 11 - Int32.toInt k2_30 ≤ (n32 : Int) → ∀ Y33, mX5_leaves_L12  n32 k2_30 R31 = Y33 → (0 ≤ Int32.toInt Y33.1) ∧ (Int32.toInt Y33.1 ≤ 10) ∧ (Int32.toInt ((Y33.2) 6 0) ≤ 9) ∧ (zIR (Y33.2)) := by
    intro n32
    induction n32 with
    | zero =>
      intro k2_30 R31 hI hM9
      obtain ⟨i34, i35, i36, hIR31⟩ := id hI
      obtain ⟨⟨i37, i38⟩, ⟨i39, i40⟩, ⟨i41, i42⟩, ⟨i43, i44⟩, ⟨i45, i46⟩, hIR31_b14, hIR31_p15⟩ := id hIR31
      exact absurd hM9 (by omega)
    | succ n32 ih =>
      intro k2_30 R31 hI hM9 Y33 hE
      obtain ⟨i47, i48, i49, hIR31⟩ := id hI
      obtain ⟨⟨i50, i51⟩, ⟨i52, i53⟩, ⟨i54, i55⟩, ⟨i56, i57⟩, ⟨i58, i59⟩, hIR31_b14, hIR31_p15⟩ := id hIR31
      rw [mX5_leaves_L12.eq_2] at hE
      by_cases c60 : (R31 6 0) ≤ k2_30
      · have hE := zite_t hE c60
        have t61 := zt_le c60
        subst hE
        exact ⟨by (show 0 ≤ Int32.toInt k2_30; omega), by (show Int32.toInt k2_30 ≤ 10; omega), by (show Int32.toInt (R31 6 0) ≤ 9; omega), hIR31⟩
      · have hE := zite_f hE c60
        have t62 := zt_nle c60
        try have t63 := zt_add (a := k2_30) (b := 1) (by omega) (by omega)
        try have t64 := zt_add (a := k2_30) (b := 1) (by omega) (by omega)
        try have t65 := zt_add (a := k2_30) (b := 1) (by omega) (by omega)
        try have t66 := zt_add (a := k2_30) (b := 1) (by omega) (by omega)
        try have t69 := zt_add (a := k2_30) (b := 1) (by omega) (by omega)
        obtain ⟨y67, e68⟩ : ∃ z : Int32, (k2_30 + 1) = z := ⟨_, rfl⟩
        have hE := zbnd_cut hE e68
        have t70 := congrArg Int32.toInt e68
        exact ih y67 (zsF (zsF (zsF (zsF R31 7 (upd (R31 7) k2_30.toNatClampNeg (R31 7 (k2_30 + 1).toNatClampNeg))) 8 (upd (R31 8) k2_30.toNatClampNeg (R31 8 (k2_30 + 1).toNatClampNeg))) 9 (upd (R31 9) k2_30.toNatClampNeg (R31 9 (k2_30 + 1).toNatClampNeg))) 10 (upd (R31 10) k2_30.toNatClampNeg (R31 10 (k2_30 + 1).toNatClampNeg))) (⟨by (show 0 ≤ Int32.toInt y67; omega), by (show Int32.toInt y67 ≤ 10; omega), by (show Int32.toInt (R31 6 0) ≤ 9; omega), hIR31⟩) (by omega) _ hE
  obtain ⟨⟨k2_71, R72⟩, e73⟩ : ∃ z, mX5_leaves_L12  11 atp R1 = z := ⟨_, rfl⟩
  have hE := zbnd2_cut hE e73
  have hI74 := hL12 11 atp R1 (⟨by (show 0 ≤ Int32.toInt atp; omega), by (show Int32.toInt atp ≤ 10; omega), by (show Int32.toInt (R1 6 0) ≤ 9; omega), hIR1⟩) (by omega) _ e73
  have hI74 : (0 ≤ Int32.toInt k2_71) ∧ (Int32.toInt k2_71 ≤ 10) ∧ (Int32.toInt (R72 6 0) ≤ 9) ∧ (zIR R72) := hI74
  obtain ⟨i75, i76, i77, hIR72⟩ := id hI74
  obtain ⟨⟨i78, i79⟩, ⟨i80, i81⟩, ⟨i82, i83⟩, ⟨i84, i85⟩, ⟨i86, i87⟩, hIR72_b14, hIR72_p15⟩ := id hIR72
  have pp91 := pp_X5_triggersOf 10 10 (-1) R72 (hIR72)
  obtain ⟨R88, e89⟩ : ∃ z, mX5_triggersOf 10 10 (-1) R72 = z := ⟨_, rfl⟩
  have hE := zbnd_cut hE e89
  rw [e89] at pp91
  have hIR88 := pp91
  obtain ⟨⟨i92, i93⟩, ⟨i94, i95⟩, ⟨i96, i97⟩, ⟨i98, i99⟩, ⟨i100, i101⟩, hIR88_b14, hIR88_p15⟩ := id hIR88
  subst hE
  exact hIR88
theorem hw_X5_leaves_X5 : ∀ w ∈ wsX50, w ∈ wsX5_leaves := fun w h => List.mem_cons_of_mem _ (List.mem_append_right _ (h))
abbrev rmX5_leaves : Room := { frames := 4, cells := 0, slots := 0, locals := 98 }
theorem hd_X5_leaves : yX5_leaves.cls = RX5 ∧ yX5_leaves.cls ≠ "java/lang/invoke/MethodHandle" ∧ yX5_leaves.cls ≠ "java/lang/invoke/VarHandle" ∧ (parseMethodDescriptor yX5_leaves.desc).map (fun d => d.parameters.length) = some 1 := by decide +kernel
set_option maxHeartbeats 4000000 in
set_option maxRecDepth 100000 in
theorem c_X5_leaves (l : Launch) (G : zG_t) (atp : Int32) (R : zS_t) (hIR : zIR R) (hx0 : 0 ≤ Int32.toInt atp ∧ Int32.toInt atp < Int32.toInt (R 6 0)) : zCV l G.1 (zty G) yX5_leaves wsX5_leaves rmX5_leaves [.ref (G.2.2 6 0), .int atp] (zWR G R) (zWR G (mX5_leaves atp R)) := by
  obtain ⟨X, hE⟩ : ∃ z, mX5_leaves atp R = z := ⟨_, rfl⟩
  rw [hE]
  refine zb_V (cc := cX5_leaves) (maxL := 3) (by decide) rfl (Nat.le_of_ble_eq_true rfl) ?_
  intro p e s m args below meth c Q A F hret
  show zW p l e rmX5_leaves s m args below meth c 0 0 Q G.1 A 3 (zWR G R) [(0, .ref (G.2.2 6 0)), (1, .int atp)] 0 []
  have k_m1 : Int32.toInt (-1) = -1 := by decide
  have k_0 : Int32.toInt 0 = 0 := by decide
  have k_1 : Int32.toInt 1 = 1 := by decide
  have k_10 : Int32.toInt 10 = 10 := by decide
  obtain ⟨⟨i112, i113⟩, ⟨i114, i115⟩, ⟨i116, i117⟩, ⟨i118, i119⟩, ⟨i120, i121⟩, hIR_b14, hIR_p15⟩ := id hIR
  unfold mX5_leaves at hE
  refine zi_aload_n (pc := 0) F dX5_leaves_0 0 rfl ?_
  refine zi_dup (pc := 1) F dX5_leaves_1 rfl ?_
  refine zi_get (pc := 2) (C := RX5) (T := TX5) (N := 27) (v := .int (R 6 0)) F (hw_X5_leaves_X5) 0 rfl rfl 6 (by decide) (List.mem_of_getElem? (i := 1) rfl) rfl rfl dX5_leaves_2 ?_
  refine zi_iconst (pc := 5) (v := 1) F dX5_leaves_5 rfl ?_
  refine zi_isub (pc := 6) F dX5_leaves_6 ?_
  refine zi_put (pc := 7) (C := RX5) (T := TX5) (N := 27) (ty := .int) (ws' := zWR G (zsI R 6 ((R 6 0) - 1))) F (hw_X5_leaves_X5) tyX5 tyX5_ok nmX5 0 rfl rfl 6 (by decide) (List.mem_of_getElem? (i := 1) rfl) rfl rfl rfl rfl rfl (Nat.le_of_ble_eq_true rfl) rfl dX5_leaves_7 ?_
  refine zi_iload_n (pc := 10) F dX5_leaves_10 1 rfl ?_
  refine zi_istore_n (pc := 11) (lv' := [(0, .ref (G.2.2 6 0)), (1, .int atp), (2, .int atp)]) F dX5_leaves_11 (by decide) rfl ?_
  try have t3 := zt_sub (a := (R 6 0)) (b := 1) (by omega) (by omega)
  have hIR1 : zIR (zsI R 6 ((R 6 0) - 1)) := ⟨⟨by (show (0:Int) ≤ Int32.toInt ((R 6 0) - 1)); omega, by (show Int32.toInt ((R 6 0) - 1) ≤ (10:Int)); omega⟩, ⟨by (show (0:Int) ≤ Int32.toInt (R 12 0)); omega, by (show Int32.toInt (R 12 0) ≤ (12:Int)); omega⟩, ⟨by (show (0:Int) ≤ Int32.toInt (R 23 0)); omega, by (show Int32.toInt (R 23 0) ≤ (40:Int)); omega⟩, ⟨by (show (0:Int) ≤ Int32.toInt (R 0 0)); omega, by (show Int32.toInt (R 0 0) ≤ (2:Int)); omega⟩, ⟨by (show (0:Int) ≤ Int32.toInt (R 1 0)); omega, by (show Int32.toInt (R 1 0) ≤ (2:Int)); omega⟩, hIR_b14, hIR_p15⟩
  refine zi_nameW (w := fun Z9 => zWR G Z9) (S := (zsI R 6 ((R 6 0) - 1))) (fun R1 e2 => ?_)
  have hE := zbnd_cut hE e2
  have t4 : Int32.toInt (R1 6 0) = Int32.toInt ((R 6 0) - 1) := by rw [← e2]; rfl
  have t5 : Int32.toInt (R1 12 0) = Int32.toInt (R 12 0) := by rw [← e2]; rfl
  have t6 : Int32.toInt (R1 23 0) = Int32.toInt (R 23 0) := by rw [← e2]; rfl
  have t7 : Int32.toInt (R1 0 0) = Int32.toInt (R 0 0) := by rw [← e2]; rfl
  have t8 : Int32.toInt (R1 1 0) = Int32.toInt (R 1 0) := by rw [← e2]; rfl
  rw [e2] at hIR1
  obtain ⟨⟨i9, i10⟩, ⟨i11, i12⟩, ⟨i13, i14⟩, ⟨i15, i16⟩, ⟨i17, i18⟩, hIR1_b14, hIR1_p15⟩ := id hIR1
  have hL12 : ∀ (n32 : Nat) (k2_30 : Int32) (R31 : zS_t), (0 ≤ Int32.toInt k2_30) ∧ (Int32.toInt k2_30 ≤ 10) ∧ (Int32.toInt (R31 6 0) ≤ 9) ∧ (zIR R31) → 11 - Int32.toInt k2_30 ≤ (n32 : Int) → ∀ Y33, mX5_leaves_L12  n32 k2_30 R31 = Y33 → (((0 ≤ Int32.toInt Y33.1) ∧ (Int32.toInt Y33.1 ≤ 10) ∧ (Int32.toInt ((Y33.2) 6 0) ≤ 9) ∧ (zIR (Y33.2))) → zW p l e rmX5_leaves s m args below meth c 0 0 Q G.1 A 3 (zWR G (Y33.2)) [(0, .ref (G.2.2 6 0)), (1, .int atp), (2, .int Y33.1)] 82 []) → zW p l e rmX5_leaves s m args below meth c 0 0 Q G.1 A 3 (zWR G R31) [(0, .ref (G.2.2 6 0)), (1, .int atp), (2, .int k2_30)] 12 [] := by
    intro n32
    induction n32 with
    | zero =>
      intro k2_30 R31 hI hM9
      obtain ⟨i34, i35, i36, hIR31⟩ := id hI
      obtain ⟨⟨i37, i38⟩, ⟨i39, i40⟩, ⟨i41, i42⟩, ⟨i43, i44⟩, ⟨i45, i46⟩, hIR31_b14, hIR31_p15⟩ := id hIR31
      exact absurd hM9 (by omega)
    | succ n32 ih =>
      intro k2_30 R31 hI hM9 Y33 hE hK
      obtain ⟨i47, i48, i49, hIR31⟩ := id hI
      obtain ⟨⟨i50, i51⟩, ⟨i52, i53⟩, ⟨i54, i55⟩, ⟨i56, i57⟩, ⟨i58, i59⟩, hIR31_b14, hIR31_p15⟩ := id hIR31
      rw [mX5_leaves_L12.eq_2] at hE
      refine zi_iload_n (pc := 12) F dX5_leaves_12 2 rfl ?_
      refine zi_aload_n (pc := 13) F dX5_leaves_13 0 rfl ?_
      refine zi_get (pc := 14) (C := RX5) (T := TX5) (N := 27) (v := .int (R31 6 0)) F (hw_X5_leaves_X5) 0 rfl rfl 6 (by decide) (List.mem_of_getElem? (i := 1) rfl) rfl rfl dX5_leaves_14 ?_
      refine zi_icmp_ge (pc := 17) (tgt := 82) F dX5_leaves_17 (by decide) (fun c60 => ?_) (fun c60 => ?_)
      · have hE := zite_t hE c60
        have t61 := zt_le c60
        subst hE
        refine zi_sub [0, 1, 2] rfl ?_
        exact hK (⟨by (show 0 ≤ Int32.toInt k2_30; omega), by (show Int32.toInt k2_30 ≤ 10; omega), by (show Int32.toInt (R31 6 0) ≤ 9; omega), hIR31⟩)
      · have hE := zite_f hE c60
        have t62 := zt_nle c60
        refine zi_aload_n (pc := 20) F dX5_leaves_20 0 rfl ?_
        refine zi_get (pc := 21) (C := RX5) (T := TX5) (N := 27) (v := .ref (G.2.2 6 2)) F (hw_X5_leaves_X5) 0 rfl rfl 7 (by decide) (List.mem_of_getElem? (i := 2) rfl) rfl rfl dX5_leaves_21 ?_
        refine zi_iload_n (pc := 24) F dX5_leaves_24 2 rfl ?_
        refine zi_aload_n (pc := 25) F dX5_leaves_25 0 rfl ?_
        refine zi_get (pc := 26) (C := RX5) (T := TX5) (N := 27) (v := .ref (G.2.2 6 2)) F (hw_X5_leaves_X5) 0 rfl rfl 7 (by decide) (List.mem_of_getElem? (i := 2) rfl) rfl rfl dX5_leaves_26 ?_
        refine zi_iload_n (pc := 29) F dX5_leaves_29 2 rfl ?_
        refine zi_iconst (pc := 30) (v := 1) F dX5_leaves_30 rfl ?_
        refine zi_iadd (pc := 31) F dX5_leaves_31 ?_
        try have t63 := zt_add (a := k2_30) (b := 1) (by omega) (by omega)
        refine zi_iald (pc := 32) (v := (R31 7 (k2_30 + 1).toNatClampNeg)) F 2 0 rfl rfl (zin (a := (k2_30 + 1)) (by omega) (by omega)) rfl dX5_leaves_32 ?_
        refine zi_iast (pc := 33) (ws' := zWR G (zsF R31 7 (upd (R31 7) k2_30.toNatClampNeg (R31 7 (k2_30 + 1).toNatClampNeg)))) F 2 0 rfl rfl (zin (a := k2_30) (by omega) (by omega)) rfl dX5_leaves_33 ?_
        refine zi_aload_n (pc := 34) F dX5_leaves_34 0 rfl ?_
        refine zi_get (pc := 35) (C := RX5) (T := TX5) (N := 27) (v := .ref (G.2.2 6 3)) F (hw_X5_leaves_X5) 0 rfl rfl 8 (by decide) (List.mem_of_getElem? (i := 3) rfl) rfl rfl dX5_leaves_35 ?_
        refine zi_iload_n (pc := 38) F dX5_leaves_38 2 rfl ?_
        refine zi_aload_n (pc := 39) F dX5_leaves_39 0 rfl ?_
        refine zi_get (pc := 40) (C := RX5) (T := TX5) (N := 27) (v := .ref (G.2.2 6 3)) F (hw_X5_leaves_X5) 0 rfl rfl 8 (by decide) (List.mem_of_getElem? (i := 3) rfl) rfl rfl dX5_leaves_40 ?_
        refine zi_iload_n (pc := 43) F dX5_leaves_43 2 rfl ?_
        refine zi_iconst (pc := 44) (v := 1) F dX5_leaves_44 rfl ?_
        refine zi_iadd (pc := 45) F dX5_leaves_45 ?_
        try have t64 := zt_add (a := k2_30) (b := 1) (by omega) (by omega)
        refine zi_iald (pc := 46) (v := (R31 8 (k2_30 + 1).toNatClampNeg)) F 3 0 rfl rfl (zin (a := (k2_30 + 1)) (by omega) (by omega)) rfl dX5_leaves_46 ?_
        refine zi_iast (pc := 47) (ws' := zWR G (zsF (zsF R31 7 (upd (R31 7) k2_30.toNatClampNeg (R31 7 (k2_30 + 1).toNatClampNeg))) 8 (upd (R31 8) k2_30.toNatClampNeg (R31 8 (k2_30 + 1).toNatClampNeg)))) F 3 0 rfl rfl (zin (a := k2_30) (by omega) (by omega)) rfl dX5_leaves_47 ?_
        refine zi_aload_n (pc := 48) F dX5_leaves_48 0 rfl ?_
        refine zi_get (pc := 49) (C := RX5) (T := TX5) (N := 27) (v := .ref (G.2.2 6 4)) F (hw_X5_leaves_X5) 0 rfl rfl 9 (by decide) (List.mem_of_getElem? (i := 4) rfl) rfl rfl dX5_leaves_49 ?_
        refine zi_iload_n (pc := 52) F dX5_leaves_52 2 rfl ?_
        refine zi_aload_n (pc := 53) F dX5_leaves_53 0 rfl ?_
        refine zi_get (pc := 54) (C := RX5) (T := TX5) (N := 27) (v := .ref (G.2.2 6 4)) F (hw_X5_leaves_X5) 0 rfl rfl 9 (by decide) (List.mem_of_getElem? (i := 4) rfl) rfl rfl dX5_leaves_54 ?_
        refine zi_iload_n (pc := 57) F dX5_leaves_57 2 rfl ?_
        refine zi_iconst (pc := 58) (v := 1) F dX5_leaves_58 rfl ?_
        refine zi_iadd (pc := 59) F dX5_leaves_59 ?_
        try have t65 := zt_add (a := k2_30) (b := 1) (by omega) (by omega)
        refine zi_iald (pc := 60) (v := (R31 9 (k2_30 + 1).toNatClampNeg)) F 4 0 rfl rfl (zin (a := (k2_30 + 1)) (by omega) (by omega)) rfl dX5_leaves_60 ?_
        refine zi_iast (pc := 61) (ws' := zWR G (zsF (zsF (zsF R31 7 (upd (R31 7) k2_30.toNatClampNeg (R31 7 (k2_30 + 1).toNatClampNeg))) 8 (upd (R31 8) k2_30.toNatClampNeg (R31 8 (k2_30 + 1).toNatClampNeg))) 9 (upd (R31 9) k2_30.toNatClampNeg (R31 9 (k2_30 + 1).toNatClampNeg)))) F 4 0 rfl rfl (zin (a := k2_30) (by omega) (by omega)) rfl dX5_leaves_61 ?_
        refine zi_aload_n (pc := 62) F dX5_leaves_62 0 rfl ?_
        refine zi_get (pc := 63) (C := RX5) (T := TX5) (N := 27) (v := .ref (G.2.2 6 5)) F (hw_X5_leaves_X5) 0 rfl rfl 10 (by decide) (List.mem_of_getElem? (i := 5) rfl) rfl rfl dX5_leaves_63 ?_
        refine zi_iload_n (pc := 66) F dX5_leaves_66 2 rfl ?_
        refine zi_aload_n (pc := 67) F dX5_leaves_67 0 rfl ?_
        refine zi_get (pc := 68) (C := RX5) (T := TX5) (N := 27) (v := .ref (G.2.2 6 5)) F (hw_X5_leaves_X5) 0 rfl rfl 10 (by decide) (List.mem_of_getElem? (i := 5) rfl) rfl rfl dX5_leaves_68 ?_
        refine zi_iload_n (pc := 71) F dX5_leaves_71 2 rfl ?_
        refine zi_iconst (pc := 72) (v := 1) F dX5_leaves_72 rfl ?_
        refine zi_iadd (pc := 73) F dX5_leaves_73 ?_
        try have t66 := zt_add (a := k2_30) (b := 1) (by omega) (by omega)
        refine zi_iald (pc := 74) (v := (R31 10 (k2_30 + 1).toNatClampNeg)) F 5 0 rfl rfl (zin (a := (k2_30 + 1)) (by omega) (by omega)) rfl dX5_leaves_74 ?_
        refine zi_iast (pc := 75) (ws' := zWR G (zsF (zsF (zsF (zsF R31 7 (upd (R31 7) k2_30.toNatClampNeg (R31 7 (k2_30 + 1).toNatClampNeg))) 8 (upd (R31 8) k2_30.toNatClampNeg (R31 8 (k2_30 + 1).toNatClampNeg))) 9 (upd (R31 9) k2_30.toNatClampNeg (R31 9 (k2_30 + 1).toNatClampNeg))) 10 (upd (R31 10) k2_30.toNatClampNeg (R31 10 (k2_30 + 1).toNatClampNeg)))) F 5 0 rfl rfl (zin (a := k2_30) (by omega) (by omega)) rfl dX5_leaves_75 ?_
        try have t69 := zt_add (a := k2_30) (b := 1) (by omega) (by omega)
        obtain ⟨y67, e68⟩ : ∃ z : Int32, (k2_30 + 1) = z := ⟨_, rfl⟩
        have hE := zbnd_cut hE e68
        have t70 := congrArg Int32.toInt e68
        refine zi_iinc (pc := 76) (lv' := [(0, .ref (G.2.2 6 0)), (1, .int atp), (2, .int y67)]) F dX5_leaves_76 2 rfl e68 (by decide) rfl ?_
        refine zi_goto (pc := 79) (tgt := 12) F dX5_leaves_79 (by decide) ?_
        refine zi_sub [0, 1, 2] rfl ?_
        exact ih y67 (zsF (zsF (zsF (zsF R31 7 (upd (R31 7) k2_30.toNatClampNeg (R31 7 (k2_30 + 1).toNatClampNeg))) 8 (upd (R31 8) k2_30.toNatClampNeg (R31 8 (k2_30 + 1).toNatClampNeg))) 9 (upd (R31 9) k2_30.toNatClampNeg (R31 9 (k2_30 + 1).toNatClampNeg))) 10 (upd (R31 10) k2_30.toNatClampNeg (R31 10 (k2_30 + 1).toNatClampNeg))) (⟨by (show 0 ≤ Int32.toInt y67; omega), by (show Int32.toInt y67 ≤ 10; omega), by (show Int32.toInt (R31 6 0) ≤ 9; omega), hIR31⟩) (by omega) _ hE hK
  obtain ⟨⟨k2_71, R72⟩, e73⟩ : ∃ z, mX5_leaves_L12  11 atp R1 = z := ⟨_, rfl⟩
  have hE := zbnd2_cut hE e73
  refine hL12 11 atp R1 (⟨by (show 0 ≤ Int32.toInt atp; omega), by (show Int32.toInt atp ≤ 10; omega), by (show Int32.toInt (R1 6 0) ≤ 9; omega), hIR1⟩) (by omega) _ e73 (fun hI74 => ?_)
  have hI74 : (0 ≤ Int32.toInt k2_71) ∧ (Int32.toInt k2_71 ≤ 10) ∧ (Int32.toInt (R72 6 0) ≤ 9) ∧ (zIR R72) := hI74
  obtain ⟨i75, i76, i77, hIR72⟩ := id hI74
  obtain ⟨⟨i78, i79⟩, ⟨i80, i81⟩, ⟨i82, i83⟩, ⟨i84, i85⟩, ⟨i86, i87⟩, hIR72_b14, hIR72_p15⟩ := id hIR72
  show zW p l e rmX5_leaves s m args below meth c 0 0 Q G.1 A 3 (zWR G R72) [(0, .ref (G.2.2 6 0)), (1, .int atp), (2, .int k2_71)] 82 []
  refine zi_aload_n (pc := 82) F dX5_leaves_82 0 rfl ?_
  refine zi_bipush (pc := 83) (v := 10) F dX5_leaves_83 rfl ?_
  refine zi_bipush (pc := 85) (v := 10) F dX5_leaves_85 rfl ?_
  refine zi_iconst (pc := 87) (v := (-1)) F dX5_leaves_87 rfl ?_
  have hM90 := c_X5_triggersOf l G 10 10 (-1) R72 (hIR72)
  have pp91 := pp_X5_triggersOf 10 10 (-1) R72 (hIR72)
  obtain ⟨R88, e89⟩ : ∃ z, mX5_triggersOf 10 10 (-1) R72 = z := ⟨_, rfl⟩
  have hE := zbnd_cut hE e89
  rw [e89] at hM90
  rw [e89] at pp91
  have hIR88 := pp91
  obtain ⟨⟨i92, i93⟩, ⟨i94, i95⟩, ⟨i96, i97⟩, ⟨i98, i99⟩, ⟨i100, i101⟩, hIR88_b14, hIR88_p15⟩ := id hIR88
  refine zi_callVV (pc := 88) (rest := []) (ws' := zWR G R88) F hM90 (cwV 3 F.1.2.2.2.2 gX5_leaves_X5_triggersOf rfl rfl rfl hd_X5_triggersOf ⟨Nat.le_of_ble_eq_true rfl, Nat.le_of_ble_eq_true rfl⟩) 0 rfl rfl _ _ (zw_nil _) (zw_nil _).symm rfl rfl (Nat.le_of_ble_eq_true rfl) dX5_leaves_88 ⟨Nat.zero_le _, Nat.zero_le _⟩ ?_
  subst hE
  exact hret _ _ dX5_leaves_91
/-! X5_begins -/
def mX5_begins_L55  : Nat → Int32 → zS_t → Int32 × zS_t
  | 0, k1_59, R60 => (k1_59, R60)
  | n61 + 1, k1_59, R60 => if (R60 6 0) ≤ k1_59 then (k1_59, R60) else (if (R60 7 k1_59.toNatClampNeg) = 1 then (if (R60 18 k1_59.toNatClampNeg) = (R60 0 0) then (zbnd (mX5_triggers 1 (R60 0 0) R60) (fun R104 => zbnd ((k1_59 + 1)) (fun y118 => mX5_begins_L55  n61 y118 R104))) else (zbnd ((k1_59 + 1)) (fun y99 => mX5_begins_L55  n61 y99 R60))) else (zbnd ((k1_59 + 1)) (fun y92 => mX5_begins_L55  n61 y92 R60)))
def mX5_begins  (R : zS_t) : zS_t := zbnd (mX5_lays 5 (zsI (zsF (zsI (zsI (zsI R 0 (((R 0 0) + 1) - ((R 0 0) + 1) / 3 * 3)) 1 (((R 0 0) + 1) - ((R 0 0) + 1) / 3 * 3)) 3 ((R 3 0) + 1)) 5 (upd (R 5) (((R 0 0) + 1) - ((R 0 0) + 1) / 3 * 3).toNatClampNeg ((R 5 (((R 0 0) + 1) - ((R 0 0) + 1) / 3 * 3).toNatClampNeg) + 3))) 23 0)) (fun R5 => zbnd2 (mX5_begins_L55  11 0 R5) (fun k1_122 R123 => R123))
set_option maxHeartbeats 4000000 in
set_option maxRecDepth 100000 in
theorem pp_X5_begins  (R : zS_t) (hIR : zIR R) : (zIR (mX5_begins R)) := by
  obtain ⟨X, hE⟩ : ∃ z, mX5_begins R = z := ⟨_, rfl⟩
  rw [hE]
  have k_0 : Int32.toInt 0 = 0 := by decide
  have k_1 : Int32.toInt 1 = 1 := by decide
  have k_3 : Int32.toInt 3 = 3 := by decide
  have k_5 : Int32.toInt 5 = 5 := by decide
  obtain ⟨⟨i138, i139⟩, ⟨i140, i141⟩, ⟨i142, i143⟩, ⟨i144, i145⟩, ⟨i146, i147⟩, hIR_b14, hIR_p15⟩ := id hIR
  unfold mX5_begins at hE
  try have t1 := zt_add (a := (R 0 0)) (b := 1) (by omega) (by omega)
  try have t2 := zt_rem (a := ((R 0 0) + 1)) (b := 3) (c := 3) rfl (by omega) (by omega)
  try have t3 := zt_add (a := (R 0 0)) (b := 1) (by omega) (by omega)
  try have t4 := zt_rem (a := ((R 0 0) + 1)) (b := 3) (c := 3) rfl (by omega) (by omega)
  try have t6 := zt_add (a := (R 0 0)) (b := 1) (by omega) (by omega)
  try have t7 := zt_rem (a := ((R 0 0) + 1)) (b := 3) (c := 3) rfl (by omega) (by omega)
  try have t8 := zt_add (a := (R 0 0)) (b := 1) (by omega) (by omega)
  try have t9 := zt_rem (a := ((R 0 0) + 1)) (b := 3) (c := 3) rfl (by omega) (by omega)
  have pp12 := pp_X5_lays 5 (zsI (zsF (zsI (zsI (zsI R 0 (((R 0 0) + 1) - ((R 0 0) + 1) / 3 * 3)) 1 (((R 0 0) + 1) - ((R 0 0) + 1) / 3 * 3)) 3 ((R 3 0) + 1)) 5 (upd (R 5) (((R 0 0) + 1) - ((R 0 0) + 1) / 3 * 3).toNatClampNeg ((R 5 (((R 0 0) + 1) - ((R 0 0) + 1) / 3 * 3).toNatClampNeg) + 3))) 23 0) (⟨⟨by (show (0:Int) ≤ Int32.toInt (R 6 0)); omega, by (show Int32.toInt (R 6 0) ≤ (10:Int)); omega⟩, ⟨by (show (0:Int) ≤ Int32.toInt (R 12 0)); omega, by (show Int32.toInt (R 12 0) ≤ (12:Int)); omega⟩, ⟨by (show (0:Int) ≤ Int32.toInt 0); omega, by (show Int32.toInt 0 ≤ (40:Int)); omega⟩, ⟨by (show (0:Int) ≤ Int32.toInt (((R 0 0) + 1) - ((R 0 0) + 1) / 3 * 3)); omega, by (show Int32.toInt (((R 0 0) + 1) - ((R 0 0) + 1) / 3 * 3) ≤ (2:Int)); omega⟩, ⟨by (show (0:Int) ≤ Int32.toInt (((R 0 0) + 1) - ((R 0 0) + 1) / 3 * 3)); omega, by (show Int32.toInt (((R 0 0) + 1) - ((R 0 0) + 1) / 3 * 3) ≤ (2:Int)); omega⟩, hIR_b14, hIR_p15⟩) (by first | omega | (show Int32.toInt 5 ≤ 5; omega))
  obtain ⟨R5, e10⟩ : ∃ z, mX5_lays 5 (zsI (zsF (zsI (zsI (zsI R 0 (((R 0 0) + 1) - ((R 0 0) + 1) / 3 * 3)) 1 (((R 0 0) + 1) - ((R 0 0) + 1) / 3 * 3)) 3 ((R 3 0) + 1)) 5 (upd (R 5) (((R 0 0) + 1) - ((R 0 0) + 1) / 3 * 3).toNatClampNeg ((R 5 (((R 0 0) + 1) - ((R 0 0) + 1) / 3 * 3).toNatClampNeg) + 3))) 23 0) = z := ⟨_, rfl⟩
  have hE := zbnd_cut hE e10
  rw [e10] at pp12
  obtain ⟨hIR5, q13⟩ := pp12
  have q13 : Int32.toInt (R5 6 0) = Int32.toInt (R 6 0) := q13
  obtain ⟨⟨i14, i15⟩, ⟨i16, i17⟩, ⟨i18, i19⟩, ⟨i20, i21⟩, ⟨i22, i23⟩, hIR5_b14, hIR5_p15⟩ := id hIR5
  have hL55 : ∀ (n61 : Nat) (k1_59 : Int32) (R60 : zS_t), (0 ≤ Int32.toInt k1_59) ∧ (Int32.toInt k1_59 ≤ 10) ∧ (zIR R60) → 11 - Int32.toInt k1_59 ≤ (n61 : Int) → ∀ Y62, mX5_begins_L55  n61 k1_59 R60 = Y62 → (0 ≤ Int32.toInt Y62.1) ∧ (Int32.toInt Y62.1 ≤ 10) ∧ (zIR (Y62.2)) := by
    intro n61
    induction n61 with
    | zero =>
      intro k1_59 R60 hI hM9
      obtain ⟨i63, i64, hIR60⟩ := id hI
      obtain ⟨⟨i65, i66⟩, ⟨i67, i68⟩, ⟨i69, i70⟩, ⟨i71, i72⟩, ⟨i73, i74⟩, hIR60_b14, hIR60_p15⟩ := id hIR60
      exact absurd hM9 (by omega)
    | succ n61 ih =>
      intro k1_59 R60 hI hM9 Y62 hE
      obtain ⟨i75, i76, hIR60⟩ := id hI
      obtain ⟨⟨i77, i78⟩, ⟨i79, i80⟩, ⟨i81, i82⟩, ⟨i83, i84⟩, ⟨i85, i86⟩, hIR60_b14, hIR60_p15⟩ := id hIR60
      rw [mX5_begins_L55.eq_2] at hE
      by_cases c87 : (R60 6 0) ≤ k1_59
      · have hE := zite_t hE c87
        have t88 := zt_le c87
        subst hE
        exact ⟨by (show 0 ≤ Int32.toInt k1_59; omega), by (show Int32.toInt k1_59 ≤ 10; omega), hIR60⟩
      · have hE := zite_f hE c87
        have t89 := zt_nle c87
        by_cases c90 : (R60 7 k1_59.toNatClampNeg) = 1
        · have hE := zite_t hE c90
          have t91 := congrArg Int32.toInt c90
          by_cases c92 : (R60 18 k1_59.toNatClampNeg) = (R60 0 0)
          · have hE := zite_t hE c92
            have t93 := congrArg Int32.toInt c92
            have pp97 := pp_X5_triggers 1 (R60 0 0) R60 (hIR60) (by first | omega | (show 0 ≤ Int32.toInt (R60 0 0) ∧ Int32.toInt (R60 0 0) < 3; omega))
            obtain ⟨R94, e95⟩ : ∃ z, mX5_triggers 1 (R60 0 0) R60 = z := ⟨_, rfl⟩
            have hE := zbnd_cut hE e95
            rw [e95] at pp97
            have hIR94 := pp97
            obtain ⟨⟨i98, i99⟩, ⟨i100, i101⟩, ⟨i102, i103⟩, ⟨i104, i105⟩, ⟨i106, i107⟩, hIR94_b14, hIR94_p15⟩ := id hIR94
            try have t110 := zt_add (a := k1_59) (b := 1) (by omega) (by omega)
            obtain ⟨y108, e109⟩ : ∃ z : Int32, (k1_59 + 1) = z := ⟨_, rfl⟩
            have hE := zbnd_cut hE e109
            have t111 := congrArg Int32.toInt e109
            exact ih y108 R94 (⟨by (show 0 ≤ Int32.toInt y108; omega), by (show Int32.toInt y108 ≤ 10; omega), hIR94⟩) (by omega) _ hE
          · have hE := zite_f hE c92
            have t112 := zt_ne c92
            try have t115 := zt_add (a := k1_59) (b := 1) (by omega) (by omega)
            obtain ⟨y113, e114⟩ : ∃ z : Int32, (k1_59 + 1) = z := ⟨_, rfl⟩
            have hE := zbnd_cut hE e114
            have t116 := congrArg Int32.toInt e114
            exact ih y113 R60 (⟨by (show 0 ≤ Int32.toInt y113; omega), by (show Int32.toInt y113 ≤ 10; omega), hIR60⟩) (by omega) _ hE
        · have hE := zite_f hE c90
          have t117 := zt_ne c90
          try have t120 := zt_add (a := k1_59) (b := 1) (by omega) (by omega)
          obtain ⟨y118, e119⟩ : ∃ z : Int32, (k1_59 + 1) = z := ⟨_, rfl⟩
          have hE := zbnd_cut hE e119
          have t121 := congrArg Int32.toInt e119
          exact ih y118 R60 (⟨by (show 0 ≤ Int32.toInt y118; omega), by (show Int32.toInt y118 ≤ 10; omega), hIR60⟩) (by omega) _ hE
  obtain ⟨⟨k1_122, R123⟩, e124⟩ : ∃ z, mX5_begins_L55  11 0 R5 = z := ⟨_, rfl⟩
  have hE := zbnd2_cut hE e124
  have hI125 := hL55 11 0 R5 (⟨by (show 0 ≤ Int32.toInt 0; omega), by (show Int32.toInt 0 ≤ 10; omega), hIR5⟩) (by omega) _ e124
  have hI125 : (0 ≤ Int32.toInt k1_122) ∧ (Int32.toInt k1_122 ≤ 10) ∧ (zIR R123) := hI125
  obtain ⟨i126, i127, hIR123⟩ := id hI125
  obtain ⟨⟨i128, i129⟩, ⟨i130, i131⟩, ⟨i132, i133⟩, ⟨i134, i135⟩, ⟨i136, i137⟩, hIR123_b14, hIR123_p15⟩ := id hIR123
  subst hE
  exact hIR123
theorem hw_X5_begins_X5 : ∀ w ∈ wsX50, w ∈ wsX5_begins := fun w h => List.mem_cons_of_mem _ (List.mem_append_right _ (h))
abbrev rmX5_begins : Room := { frames := 3, cells := 0, slots := 0, locals := 72 }
theorem hd_X5_begins : yX5_begins.cls = RX5 ∧ yX5_begins.cls ≠ "java/lang/invoke/MethodHandle" ∧ yX5_begins.cls ≠ "java/lang/invoke/VarHandle" ∧ (parseMethodDescriptor yX5_begins.desc).map (fun d => d.parameters.length) = some 0 := by decide +kernel
set_option maxHeartbeats 4000000 in
set_option maxRecDepth 100000 in
theorem c_X5_begins (l : Launch) (G : zG_t)  (R : zS_t) (hIR : zIR R) : zCV l G.1 (zty G) yX5_begins wsX5_begins rmX5_begins [.ref (G.2.2 6 0)] (zWR G R) (zWR G (mX5_begins R)) := by
  obtain ⟨X, hE⟩ : ∃ z, mX5_begins R = z := ⟨_, rfl⟩
  rw [hE]
  refine zb_V (cc := cX5_begins) (maxL := 2) (by decide) rfl (Nat.le_of_ble_eq_true rfl) ?_
  intro p e s m args below meth c Q A F hret
  show zW p l e rmX5_begins s m args below meth c 0 0 Q G.1 A 2 (zWR G R) [(0, .ref (G.2.2 6 0))] 0 []
  have k_0 : Int32.toInt 0 = 0 := by decide
  have k_1 : Int32.toInt 1 = 1 := by decide
  have k_3 : Int32.toInt 3 = 3 := by decide
  have k_5 : Int32.toInt 5 = 5 := by decide
  obtain ⟨⟨i148, i149⟩, ⟨i150, i151⟩, ⟨i152, i153⟩, ⟨i154, i155⟩, ⟨i156, i157⟩, hIR_b14, hIR_p15⟩ := id hIR
  unfold mX5_begins at hE
  refine zi_aload_n (pc := 0) F dX5_begins_0 0 rfl ?_
  refine zi_aload_n (pc := 1) F dX5_begins_1 0 rfl ?_
  refine zi_get (pc := 2) (C := RX5) (T := TX5) (N := 27) (v := .int (R 0 0)) F (hw_X5_begins_X5) 0 rfl rfl 0 (by decide) (List.mem_of_getElem? (i := 1) rfl) rfl rfl dX5_begins_2 ?_
  refine zi_iconst (pc := 5) (v := 1) F dX5_begins_5 rfl ?_
  refine zi_iadd (pc := 6) F dX5_begins_6 ?_
  refine zi_iconst (pc := 7) (v := 3) F dX5_begins_7 rfl ?_
  refine zi_irem (pc := 8) F dX5_begins_8 (by decide) ?_
  refine zi_put (pc := 9) (C := RX5) (T := TX5) (N := 27) (ty := .int) (ws' := zWR G (zsI R 0 (((R 0 0) + 1) - ((R 0 0) + 1) / 3 * 3))) F (hw_X5_begins_X5) tyX5 tyX5_ok nmX5 0 rfl rfl 0 (by decide) (List.mem_of_getElem? (i := 1) rfl) rfl rfl rfl rfl rfl (Nat.le_of_ble_eq_true rfl) rfl dX5_begins_9 ?_
  refine zi_aload_n (pc := 12) F dX5_begins_12 0 rfl ?_
  refine zi_aload_n (pc := 13) F dX5_begins_13 0 rfl ?_
  refine zi_get (pc := 14) (C := RX5) (T := TX5) (N := 27) (v := .int (((R 0 0) + 1) - ((R 0 0) + 1) / 3 * 3)) F (hw_X5_begins_X5) 0 rfl rfl 0 (by decide) (List.mem_of_getElem? (i := 1) rfl) rfl rfl dX5_begins_14 ?_
  refine zi_put (pc := 17) (C := RX5) (T := TX5) (N := 27) (ty := .int) (ws' := zWR G (zsI (zsI R 0 (((R 0 0) + 1) - ((R 0 0) + 1) / 3 * 3)) 1 (((R 0 0) + 1) - ((R 0 0) + 1) / 3 * 3))) F (hw_X5_begins_X5) tyX5 tyX5_ok nmX5 0 rfl rfl 1 (by decide) (List.mem_of_getElem? (i := 2) rfl) rfl rfl rfl rfl rfl (Nat.le_of_ble_eq_true rfl) rfl dX5_begins_17 ?_
  refine zi_aload_n (pc := 20) F dX5_begins_20 0 rfl ?_
  refine zi_dup (pc := 21) F dX5_begins_21 rfl ?_
  refine zi_get (pc := 22) (C := RX5) (T := TX5) (N := 27) (v := .int (R 3 0)) F (hw_X5_begins_X5) 0 rfl rfl 3 (by decide) (List.mem_of_getElem? (i := 3) rfl) rfl rfl dX5_begins_22 ?_
  refine zi_iconst (pc := 25) (v := 1) F dX5_begins_25 rfl ?_
  refine zi_iadd (pc := 26) F dX5_begins_26 ?_
  refine zi_put (pc := 27) (C := RX5) (T := TX5) (N := 27) (ty := .int) (ws' := zWR G (zsI (zsI (zsI R 0 (((R 0 0) + 1) - ((R 0 0) + 1) / 3 * 3)) 1 (((R 0 0) + 1) - ((R 0 0) + 1) / 3 * 3)) 3 ((R 3 0) + 1))) F (hw_X5_begins_X5) tyX5 tyX5_ok nmX5 0 rfl rfl 3 (by decide) (List.mem_of_getElem? (i := 3) rfl) rfl rfl rfl rfl rfl (Nat.le_of_ble_eq_true rfl) rfl dX5_begins_27 ?_
  refine zi_aload_n (pc := 30) F dX5_begins_30 0 rfl ?_
  refine zi_get (pc := 31) (C := RX5) (T := TX5) (N := 27) (v := .ref (G.2.2 6 1)) F (hw_X5_begins_X5) 0 rfl rfl 5 (by decide) (List.mem_of_getElem? (i := 4) rfl) rfl rfl dX5_begins_31 ?_
  refine zi_aload_n (pc := 34) F dX5_begins_34 0 rfl ?_
  refine zi_get (pc := 35) (C := RX5) (T := TX5) (N := 27) (v := .int (((R 0 0) + 1) - ((R 0 0) + 1) / 3 * 3)) F (hw_X5_begins_X5) 0 rfl rfl 0 (by decide) (List.mem_of_getElem? (i := 1) rfl) rfl rfl dX5_begins_35 ?_
  refine zi_dup2 (pc := 38) F dX5_begins_38 rfl rfl ?_
  try have t1 := zt_add (a := (R 0 0)) (b := 1) (by omega) (by omega)
  try have t2 := zt_rem (a := ((R 0 0) + 1)) (b := 3) (c := 3) rfl (by omega) (by omega)
  refine zi_iald (pc := 39) (v := (R 5 (((R 0 0) + 1) - ((R 0 0) + 1) / 3 * 3).toNatClampNeg)) F 1 0 rfl rfl (zin (a := (((R 0 0) + 1) - ((R 0 0) + 1) / 3 * 3)) (by omega) (by omega)) rfl dX5_begins_39 ?_
  refine zi_iconst (pc := 40) (v := 3) F dX5_begins_40 rfl ?_
  refine zi_iadd (pc := 41) F dX5_begins_41 ?_
  try have t3 := zt_add (a := (R 0 0)) (b := 1) (by omega) (by omega)
  try have t4 := zt_rem (a := ((R 0 0) + 1)) (b := 3) (c := 3) rfl (by omega) (by omega)
  refine zi_iast (pc := 42) (ws' := zWR G (zsF (zsI (zsI (zsI R 0 (((R 0 0) + 1) - ((R 0 0) + 1) / 3 * 3)) 1 (((R 0 0) + 1) - ((R 0 0) + 1) / 3 * 3)) 3 ((R 3 0) + 1)) 5 (upd (R 5) (((R 0 0) + 1) - ((R 0 0) + 1) / 3 * 3).toNatClampNeg ((R 5 (((R 0 0) + 1) - ((R 0 0) + 1) / 3 * 3).toNatClampNeg) + 3)))) F 1 0 rfl rfl (zin (a := (((R 0 0) + 1) - ((R 0 0) + 1) / 3 * 3)) (by omega) (by omega)) rfl dX5_begins_42 ?_
  refine zi_aload_n (pc := 43) F dX5_begins_43 0 rfl ?_
  refine zi_iconst (pc := 44) (v := 0) F dX5_begins_44 rfl ?_
  refine zi_put (pc := 45) (C := RX5) (T := TX5) (N := 27) (ty := .int) (ws' := zWR G (zsI (zsF (zsI (zsI (zsI R 0 (((R 0 0) + 1) - ((R 0 0) + 1) / 3 * 3)) 1 (((R 0 0) + 1) - ((R 0 0) + 1) / 3 * 3)) 3 ((R 3 0) + 1)) 5 (upd (R 5) (((R 0 0) + 1) - ((R 0 0) + 1) / 3 * 3).toNatClampNeg ((R 5 (((R 0 0) + 1) - ((R 0 0) + 1) / 3 * 3).toNatClampNeg) + 3))) 23 0)) F (hw_X5_begins_X5) tyX5 tyX5_ok nmX5 0 rfl rfl 23 (by decide) (List.mem_of_getElem? (i := 5) rfl) rfl rfl rfl rfl rfl (Nat.le_of_ble_eq_true rfl) rfl dX5_begins_45 ?_
  refine zi_aload_n (pc := 48) F dX5_begins_48 0 rfl ?_
  refine zi_iconst (pc := 49) (v := 5) F dX5_begins_49 rfl ?_
  try have t6 := zt_add (a := (R 0 0)) (b := 1) (by omega) (by omega)
  try have t7 := zt_rem (a := ((R 0 0) + 1)) (b := 3) (c := 3) rfl (by omega) (by omega)
  try have t8 := zt_add (a := (R 0 0)) (b := 1) (by omega) (by omega)
  try have t9 := zt_rem (a := ((R 0 0) + 1)) (b := 3) (c := 3) rfl (by omega) (by omega)
  have hM11 := c_X5_lays l G 5 (zsI (zsF (zsI (zsI (zsI R 0 (((R 0 0) + 1) - ((R 0 0) + 1) / 3 * 3)) 1 (((R 0 0) + 1) - ((R 0 0) + 1) / 3 * 3)) 3 ((R 3 0) + 1)) 5 (upd (R 5) (((R 0 0) + 1) - ((R 0 0) + 1) / 3 * 3).toNatClampNeg ((R 5 (((R 0 0) + 1) - ((R 0 0) + 1) / 3 * 3).toNatClampNeg) + 3))) 23 0) (⟨⟨by (show (0:Int) ≤ Int32.toInt (R 6 0)); omega, by (show Int32.toInt (R 6 0) ≤ (10:Int)); omega⟩, ⟨by (show (0:Int) ≤ Int32.toInt (R 12 0)); omega, by (show Int32.toInt (R 12 0) ≤ (12:Int)); omega⟩, ⟨by (show (0:Int) ≤ Int32.toInt 0); omega, by (show Int32.toInt 0 ≤ (40:Int)); omega⟩, ⟨by (show (0:Int) ≤ Int32.toInt (((R 0 0) + 1) - ((R 0 0) + 1) / 3 * 3)); omega, by (show Int32.toInt (((R 0 0) + 1) - ((R 0 0) + 1) / 3 * 3) ≤ (2:Int)); omega⟩, ⟨by (show (0:Int) ≤ Int32.toInt (((R 0 0) + 1) - ((R 0 0) + 1) / 3 * 3)); omega, by (show Int32.toInt (((R 0 0) + 1) - ((R 0 0) + 1) / 3 * 3) ≤ (2:Int)); omega⟩, hIR_b14, hIR_p15⟩) (by first | omega | (show Int32.toInt 5 ≤ 5; omega))
  have pp12 := pp_X5_lays 5 (zsI (zsF (zsI (zsI (zsI R 0 (((R 0 0) + 1) - ((R 0 0) + 1) / 3 * 3)) 1 (((R 0 0) + 1) - ((R 0 0) + 1) / 3 * 3)) 3 ((R 3 0) + 1)) 5 (upd (R 5) (((R 0 0) + 1) - ((R 0 0) + 1) / 3 * 3).toNatClampNeg ((R 5 (((R 0 0) + 1) - ((R 0 0) + 1) / 3 * 3).toNatClampNeg) + 3))) 23 0) (⟨⟨by (show (0:Int) ≤ Int32.toInt (R 6 0)); omega, by (show Int32.toInt (R 6 0) ≤ (10:Int)); omega⟩, ⟨by (show (0:Int) ≤ Int32.toInt (R 12 0)); omega, by (show Int32.toInt (R 12 0) ≤ (12:Int)); omega⟩, ⟨by (show (0:Int) ≤ Int32.toInt 0); omega, by (show Int32.toInt 0 ≤ (40:Int)); omega⟩, ⟨by (show (0:Int) ≤ Int32.toInt (((R 0 0) + 1) - ((R 0 0) + 1) / 3 * 3)); omega, by (show Int32.toInt (((R 0 0) + 1) - ((R 0 0) + 1) / 3 * 3) ≤ (2:Int)); omega⟩, ⟨by (show (0:Int) ≤ Int32.toInt (((R 0 0) + 1) - ((R 0 0) + 1) / 3 * 3)); omega, by (show Int32.toInt (((R 0 0) + 1) - ((R 0 0) + 1) / 3 * 3) ≤ (2:Int)); omega⟩, hIR_b14, hIR_p15⟩) (by first | omega | (show Int32.toInt 5 ≤ 5; omega))
  obtain ⟨R5, e10⟩ : ∃ z, mX5_lays 5 (zsI (zsF (zsI (zsI (zsI R 0 (((R 0 0) + 1) - ((R 0 0) + 1) / 3 * 3)) 1 (((R 0 0) + 1) - ((R 0 0) + 1) / 3 * 3)) 3 ((R 3 0) + 1)) 5 (upd (R 5) (((R 0 0) + 1) - ((R 0 0) + 1) / 3 * 3).toNatClampNeg ((R 5 (((R 0 0) + 1) - ((R 0 0) + 1) / 3 * 3).toNatClampNeg) + 3))) 23 0) = z := ⟨_, rfl⟩
  have hE := zbnd_cut hE e10
  rw [e10] at hM11
  rw [e10] at pp12
  obtain ⟨hIR5, q13⟩ := pp12
  have q13 : Int32.toInt (R5 6 0) = Int32.toInt (R 6 0) := q13
  obtain ⟨⟨i14, i15⟩, ⟨i16, i17⟩, ⟨i18, i19⟩, ⟨i20, i21⟩, ⟨i22, i23⟩, hIR5_b14, hIR5_p15⟩ := id hIR5
  refine zi_callVV (pc := 50) (rest := []) (ws' := zWR G R5) F hM11 (cwV 1 F.1.2.2.2.2 gX5_begins_X5_lays rfl rfl rfl hd_X5_lays ⟨Nat.le_of_ble_eq_true rfl, Nat.le_of_ble_eq_true rfl⟩) 0 rfl rfl _ _ (zw_nil _) (zw_nil _).symm rfl rfl (Nat.le_of_ble_eq_true rfl) dX5_begins_50 ⟨Nat.zero_le _, Nat.zero_le _⟩ ?_
  refine zi_iconst (pc := 53) (v := 0) F dX5_begins_53 rfl ?_
  refine zi_istore_n (pc := 54) (lv' := [(0, .ref (G.2.2 6 0)), (1, .int 0)]) F dX5_begins_54 (by decide) rfl ?_
  have hL55 : ∀ (n61 : Nat) (k1_59 : Int32) (R60 : zS_t), (0 ≤ Int32.toInt k1_59) ∧ (Int32.toInt k1_59 ≤ 10) ∧ (zIR R60) → 11 - Int32.toInt k1_59 ≤ (n61 : Int) → ∀ Y62, mX5_begins_L55  n61 k1_59 R60 = Y62 → (((0 ≤ Int32.toInt Y62.1) ∧ (Int32.toInt Y62.1 ≤ 10) ∧ (zIR (Y62.2))) → zW p l e rmX5_begins s m args below meth c 0 0 Q G.1 A 2 (zWR G (Y62.2)) [(0, .ref (G.2.2 6 0)), (1, .int Y62.1)] 101 []) → zW p l e rmX5_begins s m args below meth c 0 0 Q G.1 A 2 (zWR G R60) [(0, .ref (G.2.2 6 0)), (1, .int k1_59)] 55 [] := by
    intro n61
    induction n61 with
    | zero =>
      intro k1_59 R60 hI hM9
      obtain ⟨i63, i64, hIR60⟩ := id hI
      obtain ⟨⟨i65, i66⟩, ⟨i67, i68⟩, ⟨i69, i70⟩, ⟨i71, i72⟩, ⟨i73, i74⟩, hIR60_b14, hIR60_p15⟩ := id hIR60
      exact absurd hM9 (by omega)
    | succ n61 ih =>
      intro k1_59 R60 hI hM9 Y62 hE hK
      obtain ⟨i75, i76, hIR60⟩ := id hI
      obtain ⟨⟨i77, i78⟩, ⟨i79, i80⟩, ⟨i81, i82⟩, ⟨i83, i84⟩, ⟨i85, i86⟩, hIR60_b14, hIR60_p15⟩ := id hIR60
      rw [mX5_begins_L55.eq_2] at hE
      refine zi_iload_n (pc := 55) F dX5_begins_55 1 rfl ?_
      refine zi_aload_n (pc := 56) F dX5_begins_56 0 rfl ?_
      refine zi_get (pc := 57) (C := RX5) (T := TX5) (N := 27) (v := .int (R60 6 0)) F (hw_X5_begins_X5) 0 rfl rfl 6 (by decide) (List.mem_of_getElem? (i := 6) rfl) rfl rfl dX5_begins_57 ?_
      refine zi_icmp_ge (pc := 60) (tgt := 101) F dX5_begins_60 (by decide) (fun c87 => ?_) (fun c87 => ?_)
      · have hE := zite_t hE c87
        have t88 := zt_le c87
        subst hE
        refine zi_sub [0, 1] rfl ?_
        exact hK (⟨by (show 0 ≤ Int32.toInt k1_59; omega), by (show Int32.toInt k1_59 ≤ 10; omega), hIR60⟩)
      · have hE := zite_f hE c87
        have t89 := zt_nle c87
        refine zi_aload_n (pc := 63) F dX5_begins_63 0 rfl ?_
        refine zi_get (pc := 64) (C := RX5) (T := TX5) (N := 27) (v := .ref (G.2.2 6 2)) F (hw_X5_begins_X5) 0 rfl rfl 7 (by decide) (List.mem_of_getElem? (i := 7) rfl) rfl rfl dX5_begins_64 ?_
        refine zi_iload_n (pc := 67) F dX5_begins_67 1 rfl ?_
        refine zi_iald (pc := 68) (v := (R60 7 k1_59.toNatClampNeg)) F 2 0 rfl rfl (zin (a := k1_59) (by omega) (by omega)) rfl dX5_begins_68 ?_
        refine zi_iconst (pc := 69) (v := 1) F dX5_begins_69 rfl ?_
        refine zi_icmp_ne (pc := 70) (tgt := 95) F dX5_begins_70 (by decide) (fun c90 => ?_) (fun c90 => ?_)
        · have hE := zite_f hE c90
          have t91 := zt_ne c90
          try have t94 := zt_add (a := k1_59) (b := 1) (by omega) (by omega)
          obtain ⟨y92, e93⟩ : ∃ z : Int32, (k1_59 + 1) = z := ⟨_, rfl⟩
          have hE := zbnd_cut hE e93
          have t95 := congrArg Int32.toInt e93
          refine zi_iinc (pc := 95) (lv' := [(0, .ref (G.2.2 6 0)), (1, .int y92)]) F dX5_begins_95 1 rfl e93 (by decide) rfl ?_
          refine zi_goto (pc := 98) (tgt := 55) F dX5_begins_98 (by decide) ?_
          refine zi_sub [0, 1] rfl ?_
          exact ih y92 R60 (⟨by (show 0 ≤ Int32.toInt y92; omega), by (show Int32.toInt y92 ≤ 10; omega), hIR60⟩) (by omega) _ hE hK
        · have hE := zite_t hE c90
          have t96 := congrArg Int32.toInt c90
          refine zi_aload_n (pc := 73) F dX5_begins_73 0 rfl ?_
          refine zi_get (pc := 74) (C := RX5) (T := TX5) (N := 27) (v := .ref (G.2.2 6 11)) F (hw_X5_begins_X5) 0 rfl rfl 18 (by decide) (List.mem_of_getElem? (i := 8) rfl) rfl rfl dX5_begins_74 ?_
          refine zi_iload_n (pc := 77) F dX5_begins_77 1 rfl ?_
          refine zi_iald (pc := 78) (v := (R60 18 k1_59.toNatClampNeg)) F 11 0 rfl rfl (zin (a := k1_59) (by omega) (by omega)) rfl dX5_begins_78 ?_
          refine zi_aload_n (pc := 79) F dX5_begins_79 0 rfl ?_
          refine zi_get (pc := 80) (C := RX5) (T := TX5) (N := 27) (v := .int (R60 0 0)) F (hw_X5_begins_X5) 0 rfl rfl 0 (by decide) (List.mem_of_getElem? (i := 1) rfl) rfl rfl dX5_begins_80 ?_
          refine zi_icmp_ne (pc := 83) (tgt := 95) F dX5_begins_83 (by decide) (fun c97 => ?_) (fun c97 => ?_)
          · have hE := zite_f hE c97
            have t98 := zt_ne c97
            try have t101 := zt_add (a := k1_59) (b := 1) (by omega) (by omega)
            obtain ⟨y99, e100⟩ : ∃ z : Int32, (k1_59 + 1) = z := ⟨_, rfl⟩
            have hE := zbnd_cut hE e100
            have t102 := congrArg Int32.toInt e100
            refine zi_iinc (pc := 95) (lv' := [(0, .ref (G.2.2 6 0)), (1, .int y99)]) F dX5_begins_95 1 rfl e100 (by decide) rfl ?_
            refine zi_goto (pc := 98) (tgt := 55) F dX5_begins_98 (by decide) ?_
            refine zi_sub [0, 1] rfl ?_
            exact ih y99 R60 (⟨by (show 0 ≤ Int32.toInt y99; omega), by (show Int32.toInt y99 ≤ 10; omega), hIR60⟩) (by omega) _ hE hK
          · have hE := zite_t hE c97
            have t103 := congrArg Int32.toInt c97
            refine zi_aload_n (pc := 86) F dX5_begins_86 0 rfl ?_
            refine zi_iconst (pc := 87) (v := 1) F dX5_begins_87 rfl ?_
            refine zi_aload_n (pc := 88) F dX5_begins_88 0 rfl ?_
            refine zi_get (pc := 89) (C := RX5) (T := TX5) (N := 27) (v := .int (R60 0 0)) F (hw_X5_begins_X5) 0 rfl rfl 0 (by decide) (List.mem_of_getElem? (i := 1) rfl) rfl rfl dX5_begins_89 ?_
            have hM106 := c_X5_triggers l G 1 (R60 0 0) R60 (hIR60) (by first | omega | (show 0 ≤ Int32.toInt (R60 0 0) ∧ Int32.toInt (R60 0 0) < 3; omega))
            have pp107 := pp_X5_triggers 1 (R60 0 0) R60 (hIR60) (by first | omega | (show 0 ≤ Int32.toInt (R60 0 0) ∧ Int32.toInt (R60 0 0) < 3; omega))
            obtain ⟨R104, e105⟩ : ∃ z, mX5_triggers 1 (R60 0 0) R60 = z := ⟨_, rfl⟩
            have hE := zbnd_cut hE e105
            rw [e105] at hM106
            rw [e105] at pp107
            have hIR104 := pp107
            obtain ⟨⟨i108, i109⟩, ⟨i110, i111⟩, ⟨i112, i113⟩, ⟨i114, i115⟩, ⟨i116, i117⟩, hIR104_b14, hIR104_p15⟩ := id hIR104
            refine zi_callVV (pc := 92) (rest := []) (ws' := zWR G R104) F hM106 (cwV 2 F.1.2.2.2.2 gX5_begins_X5_triggers rfl rfl rfl hd_X5_triggers ⟨Nat.le_of_ble_eq_true rfl, Nat.le_of_ble_eq_true rfl⟩) 0 rfl rfl _ _ (zw_nil _) (zw_nil _).symm rfl rfl (Nat.le_of_ble_eq_true rfl) dX5_begins_92 ⟨Nat.zero_le _, Nat.zero_le _⟩ ?_
            try have t120 := zt_add (a := k1_59) (b := 1) (by omega) (by omega)
            obtain ⟨y118, e119⟩ : ∃ z : Int32, (k1_59 + 1) = z := ⟨_, rfl⟩
            have hE := zbnd_cut hE e119
            have t121 := congrArg Int32.toInt e119
            refine zi_iinc (pc := 95) (lv' := [(0, .ref (G.2.2 6 0)), (1, .int y118)]) F dX5_begins_95 1 rfl e119 (by decide) rfl ?_
            refine zi_goto (pc := 98) (tgt := 55) F dX5_begins_98 (by decide) ?_
            refine zi_sub [0, 1] rfl ?_
            exact ih y118 R104 (⟨by (show 0 ≤ Int32.toInt y118; omega), by (show Int32.toInt y118 ≤ 10; omega), hIR104⟩) (by omega) _ hE hK
  obtain ⟨⟨k1_122, R123⟩, e124⟩ : ∃ z, mX5_begins_L55  11 0 R5 = z := ⟨_, rfl⟩
  have hE := zbnd2_cut hE e124
  refine hL55 11 0 R5 (⟨by (show 0 ≤ Int32.toInt 0; omega), by (show Int32.toInt 0 ≤ 10; omega), hIR5⟩) (by omega) _ e124 (fun hI125 => ?_)
  have hI125 : (0 ≤ Int32.toInt k1_122) ∧ (Int32.toInt k1_122 ≤ 10) ∧ (zIR R123) := hI125
  obtain ⟨i126, i127, hIR123⟩ := id hI125
  obtain ⟨⟨i128, i129⟩, ⟨i130, i131⟩, ⟨i132, i133⟩, ⟨i134, i135⟩, ⟨i136, i137⟩, hIR123_b14, hIR123_p15⟩ := id hIR123
  show zW p l e rmX5_begins s m args below meth c 0 0 Q G.1 A 2 (zWR G R123) [(0, .ref (G.2.2 6 0)), (1, .int k1_122)] 101 []
  subst hE
  exact hret _ _ dX5_begins_101
/-! X5_removes -/
def mX5_removes_L12  : Nat → Int32 → zS_t → Int32 × zS_t
  | 0, k2_31, R32 => (k2_31, R32)
  | n33 + 1, k2_31, R32 => if (R32 12 0) ≤ k2_31 then (k2_31, R32) else (zbnd ((k2_31 + 1)) (fun y71 => mX5_removes_L12  n33 y71 (zsF (zsF (zsF (zsF (zsF R32 13 (upd (R32 13) k2_31.toNatClampNeg (R32 13 (k2_31 + 1).toNatClampNeg))) 14 (upd (R32 14) k2_31.toNatClampNeg (vp_nar .boolean (R32 14 (k2_31 + 1).toNatClampNeg)))) 15 (upd (R32 15) k2_31.toNatClampNeg (R32 15 (k2_31 + 1).toNatClampNeg))) 16 (upd (R32 16) k2_31.toNatClampNeg (R32 16 (k2_31 + 1).toNatClampNeg))) 17 (upd (R32 17) k2_31.toNatClampNeg (R32 17 (k2_31 + 1).toNatClampNeg)))))
def mX5_removes (atp : Int32) (R : zS_t) : zS_t := zbnd ((zsI R 12 ((R 12 0) - 1))) (fun R1 => zbnd2 (mX5_removes_L12  13 atp R1) (fun k2_75 R76 => R76))
set_option maxHeartbeats 4000000 in
set_option maxRecDepth 100000 in
theorem pp_X5_removes (atp : Int32) (R : zS_t) (hIR : zIR R) (hx0 : 0 ≤ Int32.toInt atp ∧ Int32.toInt atp < Int32.toInt (R 12 0)) : (zIR (mX5_removes atp R)) := by
  obtain ⟨X, hE⟩ : ∃ z, mX5_removes atp R = z := ⟨_, rfl⟩
  rw [hE]
  have k_0 : Int32.toInt 0 = 0 := by decide
  have k_1 : Int32.toInt 1 = 1 := by decide
  obtain ⟨⟨i92, i93⟩, ⟨i94, i95⟩, ⟨i96, i97⟩, ⟨i98, i99⟩, ⟨i100, i101⟩, hIR_b14, hIR_p15⟩ := id hIR
  unfold mX5_removes at hE
  try have t3 := zt_sub (a := (R 12 0)) (b := 1) (by omega) (by omega)
  have hIR1 : zIR (zsI R 12 ((R 12 0) - 1)) := ⟨⟨by (show (0:Int) ≤ Int32.toInt (R 6 0)); omega, by (show Int32.toInt (R 6 0) ≤ (10:Int)); omega⟩, ⟨by (show (0:Int) ≤ Int32.toInt ((R 12 0) - 1)); omega, by (show Int32.toInt ((R 12 0) - 1) ≤ (12:Int)); omega⟩, ⟨by (show (0:Int) ≤ Int32.toInt (R 23 0)); omega, by (show Int32.toInt (R 23 0) ≤ (40:Int)); omega⟩, ⟨by (show (0:Int) ≤ Int32.toInt (R 0 0)); omega, by (show Int32.toInt (R 0 0) ≤ (2:Int)); omega⟩, ⟨by (show (0:Int) ≤ Int32.toInt (R 1 0)); omega, by (show Int32.toInt (R 1 0) ≤ (2:Int)); omega⟩, hIR_b14, hIR_p15⟩
  obtain ⟨R1, e2⟩ : ∃ z, (zsI R 12 ((R 12 0) - 1)) = z := ⟨_, rfl⟩
  have hE := zbnd_cut hE e2
  have t4 : Int32.toInt (R1 6 0) = Int32.toInt (R 6 0) := by rw [← e2]; rfl
  have t5 : Int32.toInt (R1 12 0) = Int32.toInt ((R 12 0) - 1) := by rw [← e2]; rfl
  have t6 : Int32.toInt (R1 23 0) = Int32.toInt (R 23 0) := by rw [← e2]; rfl
  have t7 : Int32.toInt (R1 0 0) = Int32.toInt (R 0 0) := by rw [← e2]; rfl
  have t8 : Int32.toInt (R1 1 0) = Int32.toInt (R 1 0) := by rw [← e2]; rfl
  rw [e2] at hIR1
  obtain ⟨⟨i9, i10⟩, ⟨i11, i12⟩, ⟨i13, i14⟩, ⟨i15, i16⟩, ⟨i17, i18⟩, hIR1_b14, hIR1_p15⟩ := id hIR1
  have hL12 : ∀ (n33 : Nat) (k2_31 : Int32) (R32 : zS_t), (0 ≤ Int32.toInt k2_31) ∧ (Int32.toInt k2_31 ≤ 12) ∧ (Int32.toInt (R32 12 0) ≤ 11) ∧ (zIR R32) → 13 - Int32.toInt k2_31 ≤ (n33 : Int) → ∀ Y34, mX5_removes_L12  n33 k2_31 R32 = Y34 → (0 ≤ Int32.toInt Y34.1) ∧ (Int32.toInt Y34.1 ≤ 12) ∧ (Int32.toInt ((Y34.2) 12 0) ≤ 11) ∧ (zIR (Y34.2)) := by
    intro n33
    induction n33 with
    | zero =>
      intro k2_31 R32 hI hM9
      obtain ⟨i35, i36, i37, hIR32⟩ := id hI
      obtain ⟨⟨i38, i39⟩, ⟨i40, i41⟩, ⟨i42, i43⟩, ⟨i44, i45⟩, ⟨i46, i47⟩, hIR32_b14, hIR32_p15⟩ := id hIR32
      exact absurd hM9 (by omega)
    | succ n33 ih =>
      intro k2_31 R32 hI hM9 Y34 hE
      obtain ⟨i48, i49, i50, hIR32⟩ := id hI
      obtain ⟨⟨i51, i52⟩, ⟨i53, i54⟩, ⟨i55, i56⟩, ⟨i57, i58⟩, ⟨i59, i60⟩, hIR32_b14, hIR32_p15⟩ := id hIR32
      rw [mX5_removes_L12.eq_2] at hE
      by_cases c61 : (R32 12 0) ≤ k2_31
      · have hE := zite_t hE c61
        have t62 := zt_le c61
        subst hE
        exact ⟨by (show 0 ≤ Int32.toInt k2_31; omega), by (show Int32.toInt k2_31 ≤ 12; omega), by (show Int32.toInt (R32 12 0) ≤ 11; omega), hIR32⟩
      · have hE := zite_f hE c61
        have t63 := zt_nle c61
        try have t64 := zt_add (a := k2_31) (b := 1) (by omega) (by omega)
        try have t65 := zt_add (a := k2_31) (b := 1) (by omega) (by omega)
        try have t66 := zt_add (a := k2_31) (b := 1) (by omega) (by omega)
        obtain ⟨t67, t68⟩ := hIR32_p15 (k2_31 + 1).toNatClampNeg
        try have t69 := zt_add (a := k2_31) (b := 1) (by omega) (by omega)
        try have t70 := zt_add (a := k2_31) (b := 1) (by omega) (by omega)
        try have t73 := zt_add (a := k2_31) (b := 1) (by omega) (by omega)
        obtain ⟨y71, e72⟩ : ∃ z : Int32, (k2_31 + 1) = z := ⟨_, rfl⟩
        have hE := zbnd_cut hE e72
        have t74 := congrArg Int32.toInt e72
        exact ih y71 (zsF (zsF (zsF (zsF (zsF R32 13 (upd (R32 13) k2_31.toNatClampNeg (R32 13 (k2_31 + 1).toNatClampNeg))) 14 (upd (R32 14) k2_31.toNatClampNeg (vp_nar .boolean (R32 14 (k2_31 + 1).toNatClampNeg)))) 15 (upd (R32 15) k2_31.toNatClampNeg (R32 15 (k2_31 + 1).toNatClampNeg))) 16 (upd (R32 16) k2_31.toNatClampNeg (R32 16 (k2_31 + 1).toNatClampNeg))) 17 (upd (R32 17) k2_31.toNatClampNeg (R32 17 (k2_31 + 1).toNatClampNeg))) (⟨by (show 0 ≤ Int32.toInt y71; omega), by (show Int32.toInt y71 ≤ 12; omega), by (show Int32.toInt (R32 12 0) ≤ 11; omega), ⟨⟨by (show (0:Int) ≤ Int32.toInt (R32 6 0)); omega, by (show Int32.toInt (R32 6 0) ≤ (10:Int)); omega⟩, ⟨by (show (0:Int) ≤ Int32.toInt (R32 12 0)); omega, by (show Int32.toInt (R32 12 0) ≤ (12:Int)); omega⟩, ⟨by (show (0:Int) ≤ Int32.toInt (R32 23 0)); omega, by (show Int32.toInt (R32 23 0) ≤ (40:Int)); omega⟩, ⟨by (show (0:Int) ≤ Int32.toInt (R32 0 0)); omega, by (show Int32.toInt (R32 0 0) ≤ (2:Int)); omega⟩, ⟨by (show (0:Int) ≤ Int32.toInt (R32 1 0)); omega, by (show Int32.toInt (R32 1 0) ≤ (2:Int)); omega⟩, (zib_upd hIR32_b14 (znar_idem _)), (zip_upd hIR32_p15 ⟨by omega, by omega⟩)⟩⟩) (by omega) _ hE
  obtain ⟨⟨k2_75, R76⟩, e77⟩ : ∃ z, mX5_removes_L12  13 atp R1 = z := ⟨_, rfl⟩
  have hE := zbnd2_cut hE e77
  have hI78 := hL12 13 atp R1 (⟨by (show 0 ≤ Int32.toInt atp; omega), by (show Int32.toInt atp ≤ 12; omega), by (show Int32.toInt (R1 12 0) ≤ 11; omega), hIR1⟩) (by omega) _ e77
  have hI78 : (0 ≤ Int32.toInt k2_75) ∧ (Int32.toInt k2_75 ≤ 12) ∧ (Int32.toInt (R76 12 0) ≤ 11) ∧ (zIR R76) := hI78
  obtain ⟨i79, i80, i81, hIR76⟩ := id hI78
  obtain ⟨⟨i82, i83⟩, ⟨i84, i85⟩, ⟨i86, i87⟩, ⟨i88, i89⟩, ⟨i90, i91⟩, hIR76_b14, hIR76_p15⟩ := id hIR76
  subst hE
  exact hIR76
theorem hw_X5_removes_X5 : ∀ w ∈ wsX50, w ∈ wsX5_removes := fun w h => List.mem_cons_of_mem _ (List.mem_append_right _ (h))
abbrev rmX5_removes : Room := { frames := 0, cells := 0, slots := 0, locals := 0 }
theorem hd_X5_removes : yX5_removes.cls = RX5 ∧ yX5_removes.cls ≠ "java/lang/invoke/MethodHandle" ∧ yX5_removes.cls ≠ "java/lang/invoke/VarHandle" ∧ (parseMethodDescriptor yX5_removes.desc).map (fun d => d.parameters.length) = some 1 := by decide +kernel
set_option maxHeartbeats 4000000 in
set_option maxRecDepth 100000 in
theorem c_X5_removes (l : Launch) (G : zG_t) (atp : Int32) (R : zS_t) (hIR : zIR R) (hx0 : 0 ≤ Int32.toInt atp ∧ Int32.toInt atp < Int32.toInt (R 12 0)) : zCV l G.1 (zty G) yX5_removes wsX5_removes rmX5_removes [.ref (G.2.2 6 0), .int atp] (zWR G R) (zWR G (mX5_removes atp R)) := by
  obtain ⟨X, hE⟩ : ∃ z, mX5_removes atp R = z := ⟨_, rfl⟩
  rw [hE]
  refine zb_V (cc := cX5_removes) (maxL := 3) (by decide) rfl (Nat.le_of_ble_eq_true rfl) ?_
  intro p e s m args below meth c Q A F hret
  show zW p l e rmX5_removes s m args below meth c 0 0 Q G.1 A 3 (zWR G R) [(0, .ref (G.2.2 6 0)), (1, .int atp)] 0 []
  have k_0 : Int32.toInt 0 = 0 := by decide
  have k_1 : Int32.toInt 1 = 1 := by decide
  obtain ⟨⟨i102, i103⟩, ⟨i104, i105⟩, ⟨i106, i107⟩, ⟨i108, i109⟩, ⟨i110, i111⟩, hIR_b14, hIR_p15⟩ := id hIR
  unfold mX5_removes at hE
  refine zi_aload_n (pc := 0) F dX5_removes_0 0 rfl ?_
  refine zi_dup (pc := 1) F dX5_removes_1 rfl ?_
  refine zi_get (pc := 2) (C := RX5) (T := TX5) (N := 27) (v := .int (R 12 0)) F (hw_X5_removes_X5) 0 rfl rfl 12 (by decide) (List.mem_of_getElem? (i := 1) rfl) rfl rfl dX5_removes_2 ?_
  refine zi_iconst (pc := 5) (v := 1) F dX5_removes_5 rfl ?_
  refine zi_isub (pc := 6) F dX5_removes_6 ?_
  refine zi_put (pc := 7) (C := RX5) (T := TX5) (N := 27) (ty := .int) (ws' := zWR G (zsI R 12 ((R 12 0) - 1))) F (hw_X5_removes_X5) tyX5 tyX5_ok nmX5 0 rfl rfl 12 (by decide) (List.mem_of_getElem? (i := 1) rfl) rfl rfl rfl rfl rfl (Nat.le_of_ble_eq_true rfl) rfl dX5_removes_7 ?_
  refine zi_iload_n (pc := 10) F dX5_removes_10 1 rfl ?_
  refine zi_istore_n (pc := 11) (lv' := [(0, .ref (G.2.2 6 0)), (1, .int atp), (2, .int atp)]) F dX5_removes_11 (by decide) rfl ?_
  try have t3 := zt_sub (a := (R 12 0)) (b := 1) (by omega) (by omega)
  have hIR1 : zIR (zsI R 12 ((R 12 0) - 1)) := ⟨⟨by (show (0:Int) ≤ Int32.toInt (R 6 0)); omega, by (show Int32.toInt (R 6 0) ≤ (10:Int)); omega⟩, ⟨by (show (0:Int) ≤ Int32.toInt ((R 12 0) - 1)); omega, by (show Int32.toInt ((R 12 0) - 1) ≤ (12:Int)); omega⟩, ⟨by (show (0:Int) ≤ Int32.toInt (R 23 0)); omega, by (show Int32.toInt (R 23 0) ≤ (40:Int)); omega⟩, ⟨by (show (0:Int) ≤ Int32.toInt (R 0 0)); omega, by (show Int32.toInt (R 0 0) ≤ (2:Int)); omega⟩, ⟨by (show (0:Int) ≤ Int32.toInt (R 1 0)); omega, by (show Int32.toInt (R 1 0) ≤ (2:Int)); omega⟩, hIR_b14, hIR_p15⟩
  refine zi_nameW (w := fun Z9 => zWR G Z9) (S := (zsI R 12 ((R 12 0) - 1))) (fun R1 e2 => ?_)
  have hE := zbnd_cut hE e2
  have t4 : Int32.toInt (R1 6 0) = Int32.toInt (R 6 0) := by rw [← e2]; rfl
  have t5 : Int32.toInt (R1 12 0) = Int32.toInt ((R 12 0) - 1) := by rw [← e2]; rfl
  have t6 : Int32.toInt (R1 23 0) = Int32.toInt (R 23 0) := by rw [← e2]; rfl
  have t7 : Int32.toInt (R1 0 0) = Int32.toInt (R 0 0) := by rw [← e2]; rfl
  have t8 : Int32.toInt (R1 1 0) = Int32.toInt (R 1 0) := by rw [← e2]; rfl
  rw [e2] at hIR1
  obtain ⟨⟨i9, i10⟩, ⟨i11, i12⟩, ⟨i13, i14⟩, ⟨i15, i16⟩, ⟨i17, i18⟩, hIR1_b14, hIR1_p15⟩ := id hIR1
  have hL12 : ∀ (n33 : Nat) (k2_31 : Int32) (R32 : zS_t), (0 ≤ Int32.toInt k2_31) ∧ (Int32.toInt k2_31 ≤ 12) ∧ (Int32.toInt (R32 12 0) ≤ 11) ∧ (zIR R32) → 13 - Int32.toInt k2_31 ≤ (n33 : Int) → ∀ Y34, mX5_removes_L12  n33 k2_31 R32 = Y34 → (((0 ≤ Int32.toInt Y34.1) ∧ (Int32.toInt Y34.1 ≤ 12) ∧ (Int32.toInt ((Y34.2) 12 0) ≤ 11) ∧ (zIR (Y34.2))) → zW p l e rmX5_removes s m args below meth c 0 0 Q G.1 A 3 (zWR G (Y34.2)) [(0, .ref (G.2.2 6 0)), (1, .int atp), (2, .int Y34.1)] 96 []) → zW p l e rmX5_removes s m args below meth c 0 0 Q G.1 A 3 (zWR G R32) [(0, .ref (G.2.2 6 0)), (1, .int atp), (2, .int k2_31)] 12 [] := by
    intro n33
    induction n33 with
    | zero =>
      intro k2_31 R32 hI hM9
      obtain ⟨i35, i36, i37, hIR32⟩ := id hI
      obtain ⟨⟨i38, i39⟩, ⟨i40, i41⟩, ⟨i42, i43⟩, ⟨i44, i45⟩, ⟨i46, i47⟩, hIR32_b14, hIR32_p15⟩ := id hIR32
      exact absurd hM9 (by omega)
    | succ n33 ih =>
      intro k2_31 R32 hI hM9 Y34 hE hK
      obtain ⟨i48, i49, i50, hIR32⟩ := id hI
      obtain ⟨⟨i51, i52⟩, ⟨i53, i54⟩, ⟨i55, i56⟩, ⟨i57, i58⟩, ⟨i59, i60⟩, hIR32_b14, hIR32_p15⟩ := id hIR32
      rw [mX5_removes_L12.eq_2] at hE
      refine zi_iload_n (pc := 12) F dX5_removes_12 2 rfl ?_
      refine zi_aload_n (pc := 13) F dX5_removes_13 0 rfl ?_
      refine zi_get (pc := 14) (C := RX5) (T := TX5) (N := 27) (v := .int (R32 12 0)) F (hw_X5_removes_X5) 0 rfl rfl 12 (by decide) (List.mem_of_getElem? (i := 1) rfl) rfl rfl dX5_removes_14 ?_
      refine zi_icmp_ge (pc := 17) (tgt := 96) F dX5_removes_17 (by decide) (fun c61 => ?_) (fun c61 => ?_)
      · have hE := zite_t hE c61
        have t62 := zt_le c61
        subst hE
        refine zi_sub [0, 1, 2] rfl ?_
        exact hK (⟨by (show 0 ≤ Int32.toInt k2_31; omega), by (show Int32.toInt k2_31 ≤ 12; omega), by (show Int32.toInt (R32 12 0) ≤ 11; omega), hIR32⟩)
      · have hE := zite_f hE c61
        have t63 := zt_nle c61
        refine zi_aload_n (pc := 20) F dX5_removes_20 0 rfl ?_
        refine zi_get (pc := 21) (C := RX5) (T := TX5) (N := 27) (v := .ref (G.2.2 6 6)) F (hw_X5_removes_X5) 0 rfl rfl 13 (by decide) (List.mem_of_getElem? (i := 2) rfl) rfl rfl dX5_removes_21 ?_
        refine zi_iload_n (pc := 24) F dX5_removes_24 2 rfl ?_
        refine zi_aload_n (pc := 25) F dX5_removes_25 0 rfl ?_
        refine zi_get (pc := 26) (C := RX5) (T := TX5) (N := 27) (v := .ref (G.2.2 6 6)) F (hw_X5_removes_X5) 0 rfl rfl 13 (by decide) (List.mem_of_getElem? (i := 2) rfl) rfl rfl dX5_removes_26 ?_
        refine zi_iload_n (pc := 29) F dX5_removes_29 2 rfl ?_
        refine zi_iconst (pc := 30) (v := 1) F dX5_removes_30 rfl ?_
        refine zi_iadd (pc := 31) F dX5_removes_31 ?_
        try have t64 := zt_add (a := k2_31) (b := 1) (by omega) (by omega)
        refine zi_iald (pc := 32) (v := (R32 13 (k2_31 + 1).toNatClampNeg)) F 6 0 rfl rfl (zin (a := (k2_31 + 1)) (by omega) (by omega)) rfl dX5_removes_32 ?_
        refine zi_iast (pc := 33) (ws' := zWR G (zsF R32 13 (upd (R32 13) k2_31.toNatClampNeg (R32 13 (k2_31 + 1).toNatClampNeg)))) F 6 0 rfl rfl (zin (a := k2_31) (by omega) (by omega)) rfl dX5_removes_33 ?_
        refine zi_aload_n (pc := 34) F dX5_removes_34 0 rfl ?_
        refine zi_get (pc := 35) (C := RX5) (T := TX5) (N := 27) (v := .ref (G.2.2 6 7)) F (hw_X5_removes_X5) 0 rfl rfl 14 (by decide) (List.mem_of_getElem? (i := 3) rfl) rfl rfl dX5_removes_35 ?_
        refine zi_iload_n (pc := 38) F dX5_removes_38 2 rfl ?_
        refine zi_aload_n (pc := 39) F dX5_removes_39 0 rfl ?_
        refine zi_get (pc := 40) (C := RX5) (T := TX5) (N := 27) (v := .ref (G.2.2 6 7)) F (hw_X5_removes_X5) 0 rfl rfl 14 (by decide) (List.mem_of_getElem? (i := 3) rfl) rfl rfl dX5_removes_40 ?_
        refine zi_iload_n (pc := 43) F dX5_removes_43 2 rfl ?_
        refine zi_iconst (pc := 44) (v := 1) F dX5_removes_44 rfl ?_
        refine zi_iadd (pc := 45) F dX5_removes_45 ?_
        try have t65 := zt_add (a := k2_31) (b := 1) (by omega) (by omega)
        refine zi_zald (pc := 46) (v := (R32 14 (k2_31 + 1).toNatClampNeg)) F 7 1 rfl rfl (zin (a := (k2_31 + 1)) (by omega) (by omega)) rfl dX5_removes_46 ?_
        refine zi_zast (pc := 47) (ws' := zWR G (zsF (zsF R32 13 (upd (R32 13) k2_31.toNatClampNeg (R32 13 (k2_31 + 1).toNatClampNeg))) 14 (upd (R32 14) k2_31.toNatClampNeg (vp_nar .boolean (R32 14 (k2_31 + 1).toNatClampNeg))))) F 7 1 rfl rfl (zin (a := k2_31) (by omega) (by omega)) rfl dX5_removes_47 ?_
        refine zi_aload_n (pc := 48) F dX5_removes_48 0 rfl ?_
        refine zi_get (pc := 49) (C := RX5) (T := TX5) (N := 27) (v := .ref (G.2.2 6 8)) F (hw_X5_removes_X5) 0 rfl rfl 15 (by decide) (List.mem_of_getElem? (i := 4) rfl) rfl rfl dX5_removes_49 ?_
        refine zi_iload_n (pc := 52) F dX5_removes_52 2 rfl ?_
        refine zi_aload_n (pc := 53) F dX5_removes_53 0 rfl ?_
        refine zi_get (pc := 54) (C := RX5) (T := TX5) (N := 27) (v := .ref (G.2.2 6 8)) F (hw_X5_removes_X5) 0 rfl rfl 15 (by decide) (List.mem_of_getElem? (i := 4) rfl) rfl rfl dX5_removes_54 ?_
        refine zi_iload_n (pc := 57) F dX5_removes_57 2 rfl ?_
        refine zi_iconst (pc := 58) (v := 1) F dX5_removes_58 rfl ?_
        refine zi_iadd (pc := 59) F dX5_removes_59 ?_
        try have t66 := zt_add (a := k2_31) (b := 1) (by omega) (by omega)
        obtain ⟨t67, t68⟩ := hIR32_p15 (k2_31 + 1).toNatClampNeg
        refine zi_iald (pc := 60) (v := (R32 15 (k2_31 + 1).toNatClampNeg)) F 8 0 rfl rfl (zin (a := (k2_31 + 1)) (by omega) (by omega)) rfl dX5_removes_60 ?_
        refine zi_iast (pc := 61) (ws' := zWR G (zsF (zsF (zsF R32 13 (upd (R32 13) k2_31.toNatClampNeg (R32 13 (k2_31 + 1).toNatClampNeg))) 14 (upd (R32 14) k2_31.toNatClampNeg (vp_nar .boolean (R32 14 (k2_31 + 1).toNatClampNeg)))) 15 (upd (R32 15) k2_31.toNatClampNeg (R32 15 (k2_31 + 1).toNatClampNeg)))) F 8 0 rfl rfl (zin (a := k2_31) (by omega) (by omega)) rfl dX5_removes_61 ?_
        refine zi_aload_n (pc := 62) F dX5_removes_62 0 rfl ?_
        refine zi_get (pc := 63) (C := RX5) (T := TX5) (N := 27) (v := .ref (G.2.2 6 9)) F (hw_X5_removes_X5) 0 rfl rfl 16 (by decide) (List.mem_of_getElem? (i := 5) rfl) rfl rfl dX5_removes_63 ?_
        refine zi_iload_n (pc := 66) F dX5_removes_66 2 rfl ?_
        refine zi_aload_n (pc := 67) F dX5_removes_67 0 rfl ?_
        refine zi_get (pc := 68) (C := RX5) (T := TX5) (N := 27) (v := .ref (G.2.2 6 9)) F (hw_X5_removes_X5) 0 rfl rfl 16 (by decide) (List.mem_of_getElem? (i := 5) rfl) rfl rfl dX5_removes_68 ?_
        refine zi_iload_n (pc := 71) F dX5_removes_71 2 rfl ?_
        refine zi_iconst (pc := 72) (v := 1) F dX5_removes_72 rfl ?_
        refine zi_iadd (pc := 73) F dX5_removes_73 ?_
        try have t69 := zt_add (a := k2_31) (b := 1) (by omega) (by omega)
        refine zi_iald (pc := 74) (v := (R32 16 (k2_31 + 1).toNatClampNeg)) F 9 0 rfl rfl (zin (a := (k2_31 + 1)) (by omega) (by omega)) rfl dX5_removes_74 ?_
        refine zi_iast (pc := 75) (ws' := zWR G (zsF (zsF (zsF (zsF R32 13 (upd (R32 13) k2_31.toNatClampNeg (R32 13 (k2_31 + 1).toNatClampNeg))) 14 (upd (R32 14) k2_31.toNatClampNeg (vp_nar .boolean (R32 14 (k2_31 + 1).toNatClampNeg)))) 15 (upd (R32 15) k2_31.toNatClampNeg (R32 15 (k2_31 + 1).toNatClampNeg))) 16 (upd (R32 16) k2_31.toNatClampNeg (R32 16 (k2_31 + 1).toNatClampNeg)))) F 9 0 rfl rfl (zin (a := k2_31) (by omega) (by omega)) rfl dX5_removes_75 ?_
        refine zi_aload_n (pc := 76) F dX5_removes_76 0 rfl ?_
        refine zi_get (pc := 77) (C := RX5) (T := TX5) (N := 27) (v := .ref (G.2.2 6 10)) F (hw_X5_removes_X5) 0 rfl rfl 17 (by decide) (List.mem_of_getElem? (i := 6) rfl) rfl rfl dX5_removes_77 ?_
        refine zi_iload_n (pc := 80) F dX5_removes_80 2 rfl ?_
        refine zi_aload_n (pc := 81) F dX5_removes_81 0 rfl ?_
        refine zi_get (pc := 82) (C := RX5) (T := TX5) (N := 27) (v := .ref (G.2.2 6 10)) F (hw_X5_removes_X5) 0 rfl rfl 17 (by decide) (List.mem_of_getElem? (i := 6) rfl) rfl rfl dX5_removes_82 ?_
        refine zi_iload_n (pc := 85) F dX5_removes_85 2 rfl ?_
        refine zi_iconst (pc := 86) (v := 1) F dX5_removes_86 rfl ?_
        refine zi_iadd (pc := 87) F dX5_removes_87 ?_
        try have t70 := zt_add (a := k2_31) (b := 1) (by omega) (by omega)
        refine zi_iald (pc := 88) (v := (R32 17 (k2_31 + 1).toNatClampNeg)) F 10 0 rfl rfl (zin (a := (k2_31 + 1)) (by omega) (by omega)) rfl dX5_removes_88 ?_
        refine zi_iast (pc := 89) (ws' := zWR G (zsF (zsF (zsF (zsF (zsF R32 13 (upd (R32 13) k2_31.toNatClampNeg (R32 13 (k2_31 + 1).toNatClampNeg))) 14 (upd (R32 14) k2_31.toNatClampNeg (vp_nar .boolean (R32 14 (k2_31 + 1).toNatClampNeg)))) 15 (upd (R32 15) k2_31.toNatClampNeg (R32 15 (k2_31 + 1).toNatClampNeg))) 16 (upd (R32 16) k2_31.toNatClampNeg (R32 16 (k2_31 + 1).toNatClampNeg))) 17 (upd (R32 17) k2_31.toNatClampNeg (R32 17 (k2_31 + 1).toNatClampNeg)))) F 10 0 rfl rfl (zin (a := k2_31) (by omega) (by omega)) rfl dX5_removes_89 ?_
        try have t73 := zt_add (a := k2_31) (b := 1) (by omega) (by omega)
        obtain ⟨y71, e72⟩ : ∃ z : Int32, (k2_31 + 1) = z := ⟨_, rfl⟩
        have hE := zbnd_cut hE e72
        have t74 := congrArg Int32.toInt e72
        refine zi_iinc (pc := 90) (lv' := [(0, .ref (G.2.2 6 0)), (1, .int atp), (2, .int y71)]) F dX5_removes_90 2 rfl e72 (by decide) rfl ?_
        refine zi_goto (pc := 93) (tgt := 12) F dX5_removes_93 (by decide) ?_
        refine zi_sub [0, 1, 2] rfl ?_
        exact ih y71 (zsF (zsF (zsF (zsF (zsF R32 13 (upd (R32 13) k2_31.toNatClampNeg (R32 13 (k2_31 + 1).toNatClampNeg))) 14 (upd (R32 14) k2_31.toNatClampNeg (vp_nar .boolean (R32 14 (k2_31 + 1).toNatClampNeg)))) 15 (upd (R32 15) k2_31.toNatClampNeg (R32 15 (k2_31 + 1).toNatClampNeg))) 16 (upd (R32 16) k2_31.toNatClampNeg (R32 16 (k2_31 + 1).toNatClampNeg))) 17 (upd (R32 17) k2_31.toNatClampNeg (R32 17 (k2_31 + 1).toNatClampNeg))) (⟨by (show 0 ≤ Int32.toInt y71; omega), by (show Int32.toInt y71 ≤ 12; omega), by (show Int32.toInt (R32 12 0) ≤ 11; omega), ⟨⟨by (show (0:Int) ≤ Int32.toInt (R32 6 0)); omega, by (show Int32.toInt (R32 6 0) ≤ (10:Int)); omega⟩, ⟨by (show (0:Int) ≤ Int32.toInt (R32 12 0)); omega, by (show Int32.toInt (R32 12 0) ≤ (12:Int)); omega⟩, ⟨by (show (0:Int) ≤ Int32.toInt (R32 23 0)); omega, by (show Int32.toInt (R32 23 0) ≤ (40:Int)); omega⟩, ⟨by (show (0:Int) ≤ Int32.toInt (R32 0 0)); omega, by (show Int32.toInt (R32 0 0) ≤ (2:Int)); omega⟩, ⟨by (show (0:Int) ≤ Int32.toInt (R32 1 0)); omega, by (show Int32.toInt (R32 1 0) ≤ (2:Int)); omega⟩, (zib_upd hIR32_b14 (znar_idem _)), (zip_upd hIR32_p15 ⟨by omega, by omega⟩)⟩⟩) (by omega) _ hE hK
  obtain ⟨⟨k2_75, R76⟩, e77⟩ : ∃ z, mX5_removes_L12  13 atp R1 = z := ⟨_, rfl⟩
  have hE := zbnd2_cut hE e77
  refine hL12 13 atp R1 (⟨by (show 0 ≤ Int32.toInt atp; omega), by (show Int32.toInt atp ≤ 12; omega), by (show Int32.toInt (R1 12 0) ≤ 11; omega), hIR1⟩) (by omega) _ e77 (fun hI78 => ?_)
  have hI78 : (0 ≤ Int32.toInt k2_75) ∧ (Int32.toInt k2_75 ≤ 12) ∧ (Int32.toInt (R76 12 0) ≤ 11) ∧ (zIR R76) := hI78
  obtain ⟨i79, i80, i81, hIR76⟩ := id hI78
  obtain ⟨⟨i82, i83⟩, ⟨i84, i85⟩, ⟨i86, i87⟩, ⟨i88, i89⟩, ⟨i90, i91⟩, hIR76_b14, hIR76_p15⟩ := id hIR76
  show zW p l e rmX5_removes s m args below meth c 0 0 Q G.1 A 3 (zWR G R76) [(0, .ref (G.2.2 6 0)), (1, .int atp), (2, .int k2_75)] 96 []
  subst hE
  exact hret _ _ dX5_removes_96
/-! X5_firstBeast -/
def mX5_firstBeast_L9 (R : zS_t) : Nat → Int32 → Int32 → Int32 × Int32
  | 0, k1_17, k2_18 => (k1_17, k2_18)
  | n19 + 1, k1_17, k2_18 => if k2_18 < 0 then (k1_17, k2_18) else (if (R 7 k2_18.toNatClampNeg) = 0 then (zbnd ((k2_18 + (-1))) (fun y38 => mX5_firstBeast_L9 R n19 k2_18 y38)) else (zbnd ((k2_18 + (-1))) (fun y34 => mX5_firstBeast_L9 R n19 k1_17 y34)))
def mX5_firstBeast  (R : zS_t) : Int32 := zbnd (((R 6 0) - 1)) (fun y1 => zbnd2 (mX5_firstBeast_L9 R 12 (-1) y1) (fun k1_41 k2_42 => k1_41))
set_option maxHeartbeats 4000000 in
set_option maxRecDepth 100000 in
theorem pp_X5_firstBeast  (R : zS_t) (hIR : zIR R) : (-1 ≤ Int32.toInt (mX5_firstBeast R) ∧ Int32.toInt (mX5_firstBeast R) < Int32.toInt (R 6 0)) := by
  obtain ⟨X, hE⟩ : ∃ z, mX5_firstBeast R = z := ⟨_, rfl⟩
  rw [hE]
  have k_m1 : Int32.toInt (-1) = -1 := by decide
  have k_0 : Int32.toInt 0 = 0 := by decide
  have k_1 : Int32.toInt 1 = 1 := by decide
  obtain ⟨⟨i49, i50⟩, ⟨i51, i52⟩, ⟨i53, i54⟩, ⟨i55, i56⟩, ⟨i57, i58⟩, hIR_b14, hIR_p15⟩ := id hIR
  unfold mX5_firstBeast at hE
  try have t3 := zt_sub (a := (R 6 0)) (b := 1) (by omega) (by omega)
  obtain ⟨y1, e2⟩ : ∃ z : Int32, ((R 6 0) - 1) = z := ⟨_, rfl⟩
  have hE := zbnd_cut hE e2
  have t4 := congrArg Int32.toInt e2
  have hL9 : ∀ (n19 : Nat) (k1_17 : Int32) (k2_18 : Int32), (-1 ≤ Int32.toInt k2_18) ∧ (Int32.toInt k2_18 < Int32.toInt (R 6 0)) ∧ (-1 ≤ Int32.toInt k1_17) ∧ (Int32.toInt k1_17 < Int32.toInt (R 6 0)) → 2 + Int32.toInt k2_18 ≤ (n19 : Int) → ∀ Y20, mX5_firstBeast_L9 R n19 k1_17 k2_18 = Y20 → (-1 ≤ Int32.toInt Y20.2) ∧ (Int32.toInt Y20.2 < Int32.toInt (R 6 0)) ∧ (-1 ≤ Int32.toInt Y20.1) ∧ (Int32.toInt Y20.1 < Int32.toInt (R 6 0)) := by
    intro n19
    induction n19 with
    | zero =>
      intro k1_17 k2_18 hI hM9
      obtain ⟨i21, i22, i23, i24⟩ := id hI
      exact absurd hM9 (by omega)
    | succ n19 ih =>
      intro k1_17 k2_18 hI hM9 Y20 hE
      obtain ⟨i25, i26, i27, i28⟩ := id hI
      rw [mX5_firstBeast_L9.eq_2] at hE
      by_cases c29 : k2_18 < 0
      · have hE := zite_t hE c29
        have t30 := zt_lt c29
        subst hE
        exact ⟨by (show -1 ≤ Int32.toInt k2_18; omega), by (show Int32.toInt k2_18 < Int32.toInt (R 6 0); omega), by (show -1 ≤ Int32.toInt k1_17; omega), by (show Int32.toInt k1_17 < Int32.toInt (R 6 0); omega)⟩
      · have hE := zite_f hE c29
        have t31 := zt_nlt c29
        by_cases c32 : (R 7 k2_18.toNatClampNeg) = 0
        · have hE := zite_t hE c32
          have t33 := congrArg Int32.toInt c32
          obtain ⟨y34, e35⟩ : ∃ z : Int32, (k2_18 + (-1)) = z := ⟨_, rfl⟩
          have hE := zbnd_cut hE e35
          have t36 := zdec e35 (by omega)
          exact ih k2_18 y34 (⟨by (show -1 ≤ Int32.toInt y34; omega), by (show Int32.toInt y34 < Int32.toInt (R 6 0); omega), by (show -1 ≤ Int32.toInt k2_18; omega), by (show Int32.toInt k2_18 < Int32.toInt (R 6 0); omega)⟩) (by omega) _ hE
        · have hE := zite_f hE c32
          have t37 := zt_ne c32
          obtain ⟨y38, e39⟩ : ∃ z : Int32, (k2_18 + (-1)) = z := ⟨_, rfl⟩
          have hE := zbnd_cut hE e39
          have t40 := zdec e39 (by omega)
          exact ih k1_17 y38 (⟨by (show -1 ≤ Int32.toInt y38; omega), by (show Int32.toInt y38 < Int32.toInt (R 6 0); omega), by (show -1 ≤ Int32.toInt k1_17; omega), by (show Int32.toInt k1_17 < Int32.toInt (R 6 0); omega)⟩) (by omega) _ hE
  obtain ⟨⟨k1_41, k2_42⟩, e43⟩ : ∃ z, mX5_firstBeast_L9 R 12 (-1) y1 = z := ⟨_, rfl⟩
  have hE := zbnd2_cut hE e43
  have hI44 := hL9 12 (-1) y1 (⟨by (show -1 ≤ Int32.toInt y1; omega), by (show Int32.toInt y1 < Int32.toInt (R 6 0); omega), by (show -1 ≤ Int32.toInt (-1); omega), by (show Int32.toInt (-1) < Int32.toInt (R 6 0); omega)⟩) (by omega) _ e43
  have hI44 : (-1 ≤ Int32.toInt k2_42) ∧ (Int32.toInt k2_42 < Int32.toInt (R 6 0)) ∧ (-1 ≤ Int32.toInt k1_41) ∧ (Int32.toInt k1_41 < Int32.toInt (R 6 0)) := hI44
  obtain ⟨i45, i46, i47, i48⟩ := id hI44
  subst hE
  exact (by first | omega | (show -1 ≤ Int32.toInt k1_41 ∧ Int32.toInt k1_41 < Int32.toInt (R 6 0); omega) | (show -1 ≤ Int32.toInt k1_41 ∧ Int32.toInt k1_41 < Int32.toInt (R 6 0); simp))
theorem hw_X5_firstBeast_X5 : ∀ w ∈ wsX50, w ∈ wsX5_firstBeast := fun w h => List.mem_cons_of_mem _ (List.mem_append_right _ (h))
abbrev rmX5_firstBeast : Room := { frames := 0, cells := 0, slots := 0, locals := 0 }
theorem hd_X5_firstBeast : yX5_firstBeast.cls = RX5 ∧ yX5_firstBeast.cls ≠ "java/lang/invoke/MethodHandle" ∧ yX5_firstBeast.cls ≠ "java/lang/invoke/VarHandle" ∧ (parseMethodDescriptor yX5_firstBeast.desc).map (fun d => d.parameters.length) = some 0 := by decide +kernel
set_option maxHeartbeats 4000000 in
set_option maxRecDepth 100000 in
theorem c_X5_firstBeast (l : Launch) (G : zG_t)  (R : zS_t) (hIR : zIR R) : zCI l G.1 (zty G) yX5_firstBeast wsX5_firstBeast rmX5_firstBeast [.ref (G.2.2 6 0)] (zWR G R) ((mX5_firstBeast R)) (zWR G R) := by
  obtain ⟨X, hE⟩ : ∃ z, mX5_firstBeast R = z := ⟨_, rfl⟩
  rw [hE]
  refine zb_I (cc := cX5_firstBeast) (maxL := 3) (by decide) rfl (Nat.le_of_ble_eq_true rfl) ?_
  intro p e s m args below meth c Q A F hret
  show zW p l e rmX5_firstBeast s m args below meth c 0 0 Q G.1 A 3 (zWR G R) [(0, .ref (G.2.2 6 0))] 0 []
  have k_m1 : Int32.toInt (-1) = -1 := by decide
  have k_0 : Int32.toInt 0 = 0 := by decide
  have k_1 : Int32.toInt 1 = 1 := by decide
  obtain ⟨⟨i59, i60⟩, ⟨i61, i62⟩, ⟨i63, i64⟩, ⟨i65, i66⟩, ⟨i67, i68⟩, hIR_b14, hIR_p15⟩ := id hIR
  unfold mX5_firstBeast at hE
  refine zi_iconst (pc := 0) (v := (-1)) F dX5_firstBeast_0 rfl ?_
  refine zi_istore_n (pc := 1) (lv' := [(0, .ref (G.2.2 6 0)), (1, .int (-1))]) F dX5_firstBeast_1 (by decide) rfl ?_
  refine zi_aload_n (pc := 2) F dX5_firstBeast_2 0 rfl ?_
  refine zi_get (pc := 3) (C := RX5) (T := TX5) (N := 27) (v := .int (R 6 0)) F (hw_X5_firstBeast_X5) 0 rfl rfl 6 (by decide) (List.mem_of_getElem? (i := 1) rfl) rfl rfl dX5_firstBeast_3 ?_
  refine zi_iconst (pc := 6) (v := 1) F dX5_firstBeast_6 rfl ?_
  refine zi_isub (pc := 7) F dX5_firstBeast_7 ?_
  try have t3 := zt_sub (a := (R 6 0)) (b := 1) (by omega) (by omega)
  refine zi_topi (fun y1 e2 => ?_)
  have hE := zbnd_cut hE e2
  have t4 := congrArg Int32.toInt e2
  refine zi_istore_n (pc := 8) (lv' := [(0, .ref (G.2.2 6 0)), (1, .int (-1)), (2, .int y1)]) F dX5_firstBeast_8 (by decide) rfl ?_
  have hL9 : ∀ (n19 : Nat) (k1_17 : Int32) (k2_18 : Int32), (-1 ≤ Int32.toInt k2_18) ∧ (Int32.toInt k2_18 < Int32.toInt (R 6 0)) ∧ (-1 ≤ Int32.toInt k1_17) ∧ (Int32.toInt k1_17 < Int32.toInt (R 6 0)) → 2 + Int32.toInt k2_18 ≤ (n19 : Int) → ∀ Y20, mX5_firstBeast_L9 R n19 k1_17 k2_18 = Y20 → (((-1 ≤ Int32.toInt Y20.2) ∧ (Int32.toInt Y20.2 < Int32.toInt (R 6 0)) ∧ (-1 ≤ Int32.toInt Y20.1) ∧ (Int32.toInt Y20.1 < Int32.toInt (R 6 0))) → zW p l e rmX5_firstBeast s m args below meth c 0 0 Q G.1 A 3 (zWR G R) [(0, .ref (G.2.2 6 0)), (1, .int Y20.1), (2, .int Y20.2)] 34 []) → zW p l e rmX5_firstBeast s m args below meth c 0 0 Q G.1 A 3 (zWR G R) [(0, .ref (G.2.2 6 0)), (1, .int k1_17), (2, .int k2_18)] 9 [] := by
    intro n19
    induction n19 with
    | zero =>
      intro k1_17 k2_18 hI hM9
      obtain ⟨i21, i22, i23, i24⟩ := id hI
      exact absurd hM9 (by omega)
    | succ n19 ih =>
      intro k1_17 k2_18 hI hM9 Y20 hE hK
      obtain ⟨i25, i26, i27, i28⟩ := id hI
      rw [mX5_firstBeast_L9.eq_2] at hE
      refine zi_iload_n (pc := 9) F dX5_firstBeast_9 2 rfl ?_
      refine zi_if_lt (pc := 10) (tgt := 34) F dX5_firstBeast_10 (by decide) (fun c29 => ?_) (fun c29 => ?_)
      · have hE := zite_t hE c29
        have t30 := zt_lt c29
        subst hE
        refine zi_sub [0, 1, 2] rfl ?_
        exact hK (⟨by (show -1 ≤ Int32.toInt k2_18; omega), by (show Int32.toInt k2_18 < Int32.toInt (R 6 0); omega), by (show -1 ≤ Int32.toInt k1_17; omega), by (show Int32.toInt k1_17 < Int32.toInt (R 6 0); omega)⟩)
      · have hE := zite_f hE c29
        have t31 := zt_nlt c29
        refine zi_aload_n (pc := 13) F dX5_firstBeast_13 0 rfl ?_
        refine zi_get (pc := 14) (C := RX5) (T := TX5) (N := 27) (v := .ref (G.2.2 6 2)) F (hw_X5_firstBeast_X5) 0 rfl rfl 7 (by decide) (List.mem_of_getElem? (i := 2) rfl) rfl rfl dX5_firstBeast_14 ?_
        refine zi_iload_n (pc := 17) F dX5_firstBeast_17 2 rfl ?_
        refine zi_iald (pc := 18) (v := (R 7 k2_18.toNatClampNeg)) F 2 0 rfl rfl (zin (a := k2_18) (by omega) (by omega)) rfl dX5_firstBeast_18 ?_
        refine zi_if_ne (pc := 19) (tgt := 26) F dX5_firstBeast_19 (by decide) (fun c32 => ?_) (fun c32 => ?_)
        · have hE := zite_f hE c32
          have t33 := zt_ne c32
          refine zi_iload_n (pc := 26) F dX5_firstBeast_26 1 rfl ?_
          refine zi_istore_n (pc := 27) (lv' := [(0, .ref (G.2.2 6 0)), (1, .int k1_17), (2, .int k2_18)]) F dX5_firstBeast_27 (by decide) rfl ?_
          obtain ⟨y34, e35⟩ : ∃ z : Int32, (k2_18 + (-1)) = z := ⟨_, rfl⟩
          have hE := zbnd_cut hE e35
          have t36 := zdec e35 (by omega)
          refine zi_iinc (pc := 28) (lv' := [(0, .ref (G.2.2 6 0)), (1, .int k1_17), (2, .int y34)]) F dX5_firstBeast_28 2 rfl (zofm1 e35) (by decide) rfl ?_
          refine zi_goto (pc := 31) (tgt := 9) F dX5_firstBeast_31 (by decide) ?_
          refine zi_sub [0, 1, 2] rfl ?_
          exact ih k1_17 y34 (⟨by (show -1 ≤ Int32.toInt y34; omega), by (show Int32.toInt y34 < Int32.toInt (R 6 0); omega), by (show -1 ≤ Int32.toInt k1_17; omega), by (show Int32.toInt k1_17 < Int32.toInt (R 6 0); omega)⟩) (by omega) _ hE hK
        · have hE := zite_t hE c32
          have t37 := congrArg Int32.toInt c32
          refine zi_iload_n (pc := 22) F dX5_firstBeast_22 2 rfl ?_
          refine zi_goto (pc := 23) (tgt := 27) F dX5_firstBeast_23 (by decide) ?_
          refine zi_istore_n (pc := 27) (lv' := [(0, .ref (G.2.2 6 0)), (1, .int k2_18), (2, .int k2_18)]) F dX5_firstBeast_27 (by decide) rfl ?_
          obtain ⟨y38, e39⟩ : ∃ z : Int32, (k2_18 + (-1)) = z := ⟨_, rfl⟩
          have hE := zbnd_cut hE e39
          have t40 := zdec e39 (by omega)
          refine zi_iinc (pc := 28) (lv' := [(0, .ref (G.2.2 6 0)), (1, .int k2_18), (2, .int y38)]) F dX5_firstBeast_28 2 rfl (zofm1 e39) (by decide) rfl ?_
          refine zi_goto (pc := 31) (tgt := 9) F dX5_firstBeast_31 (by decide) ?_
          refine zi_sub [0, 1, 2] rfl ?_
          exact ih k2_18 y38 (⟨by (show -1 ≤ Int32.toInt y38; omega), by (show Int32.toInt y38 < Int32.toInt (R 6 0); omega), by (show -1 ≤ Int32.toInt k2_18; omega), by (show Int32.toInt k2_18 < Int32.toInt (R 6 0); omega)⟩) (by omega) _ hE hK
  obtain ⟨⟨k1_41, k2_42⟩, e43⟩ : ∃ z, mX5_firstBeast_L9 R 12 (-1) y1 = z := ⟨_, rfl⟩
  have hE := zbnd2_cut hE e43
  refine hL9 12 (-1) y1 (⟨by (show -1 ≤ Int32.toInt y1; omega), by (show Int32.toInt y1 < Int32.toInt (R 6 0); omega), by (show -1 ≤ Int32.toInt (-1); omega), by (show Int32.toInt (-1) < Int32.toInt (R 6 0); omega)⟩) (by omega) _ e43 (fun hI44 => ?_)
  have hI44 : (-1 ≤ Int32.toInt k2_42) ∧ (Int32.toInt k2_42 < Int32.toInt (R 6 0)) ∧ (-1 ≤ Int32.toInt k1_41) ∧ (Int32.toInt k1_41 < Int32.toInt (R 6 0)) := hI44
  obtain ⟨i45, i46, i47, i48⟩ := id hI44
  show zW p l e rmX5_firstBeast s m args below meth c 0 0 Q G.1 A 3 (zWR G R) [(0, .ref (G.2.2 6 0)), (1, .int k1_41), (2, .int k2_42)] 34 []
  refine zi_iload_n (pc := 34) F dX5_firstBeast_34 1 rfl ?_
  subst hE
  exact hret _ _ dX5_firstBeast_35
/-! X5_trigger -/
def mX5_trigger (its : Int32) (player : Int32) (R : zS_t) : zS_t := if its = 1 then (if its = 1 then (zsF R 5 (upd (R 5) player.toNatClampNeg ((R 5 player.toNatClampNeg) + 2))) else (zsF R 5 (upd (R 5) player.toNatClampNeg ((R 5 player.toNatClampNeg) + 1)))) else (if its = 9 then (if its = 1 then (zsF R 5 (upd (R 5) player.toNatClampNeg ((R 5 player.toNatClampNeg) + 2))) else (zsF R 5 (upd (R 5) player.toNatClampNeg ((R 5 player.toNatClampNeg) + 1)))) else (if its = 10 then (zbnd (mX5_enters 0 player 0 R) (fun R40 => R40)) else (zbnd (mX5_firstBeast R) (fun r11 => if r11 < 0 then R else (zbnd (mX5_firstBeast R) (fun r19 => zbnd (mX5_leaves r19 R) (fun R25 => R25)))))))
set_option maxHeartbeats 4000000 in
set_option maxRecDepth 100000 in
theorem pp_X5_trigger (its : Int32) (player : Int32) (R : zS_t) (hIR : zIR R) (hx0 : 0 ≤ Int32.toInt player ∧ Int32.toInt player < 3) : (zIR (mX5_trigger its player R)) := by
  obtain ⟨X, hE⟩ : ∃ z, mX5_trigger its player R = z := ⟨_, rfl⟩
  rw [hE]
  have k_0 : Int32.toInt 0 = 0 := by decide
  have k_1 : Int32.toInt 1 = 1 := by decide
  have k_2 : Int32.toInt 2 = 2 := by decide
  have k_9 : Int32.toInt 9 = 9 := by decide
  have k_10 : Int32.toInt 10 = 10 := by decide
  obtain ⟨⟨i58, i59⟩, ⟨i60, i61⟩, ⟨i62, i63⟩, ⟨i64, i65⟩, ⟨i66, i67⟩, hIR_b14, hIR_p15⟩ := id hIR
  unfold mX5_trigger at hE
  by_cases c1 : its = 1
  · have hE := zite_t hE c1
    have t2 := congrArg Int32.toInt c1
    by_cases c3 : its = 1
    · have hE := zite_t hE c3
      have t4 := congrArg Int32.toInt c3
      subst hE
      exact hIR
    · have hE := zite_f hE c3
      have t5 := zt_ne c3
      subst hE
      exact hIR
  · have hE := zite_f hE c1
    have t6 := zt_ne c1
    by_cases c7 : its = 9
    · have hE := zite_t hE c7
      have t8 := congrArg Int32.toInt c7
      by_cases c9 : its = 1
      · have hE := zite_t hE c9
        have t10 := congrArg Int32.toInt c9
        subst hE
        exact hIR
      · have hE := zite_f hE c9
        have t11 := zt_ne c9
        subst hE
        exact hIR
    · have hE := zite_f hE c7
      have t12 := zt_ne c7
      by_cases c13 : its = 10
      · have hE := zite_t hE c13
        have t14 := congrArg Int32.toInt c13
        have pp18 := pp_X5_enters 0 player 0 R (hIR)
        obtain ⟨R15, e16⟩ : ∃ z, mX5_enters 0 player 0 R = z := ⟨_, rfl⟩
        have hE := zbnd_cut hE e16
        rw [e16] at pp18
        have hIR15 := pp18
        obtain ⟨⟨i19, i20⟩, ⟨i21, i22⟩, ⟨i23, i24⟩, ⟨i25, i26⟩, ⟨i27, i28⟩, hIR15_b14, hIR15_p15⟩ := id hIR15
        subst hE
        exact hIR15
      · have hE := zite_f hE c13
        have t29 := zt_ne c13
        have pp33 := pp_X5_firstBeast  R (hIR)
        obtain ⟨r30, e31⟩ : ∃ z, mX5_firstBeast R = z := ⟨_, rfl⟩
        have hE := zbnd_cut hE e31
        rw [e31] at pp33
        have q34 := pp33
        by_cases c35 : r30 < 0
        · have hE := zite_t hE c35
          have t36 := zt_lt c35
          subst hE
          exact hIR
        · have hE := zite_f hE c35
          have t37 := zt_nlt c35
          have pp41 := pp_X5_firstBeast  R (hIR)
          obtain ⟨r38, e39⟩ : ∃ z, mX5_firstBeast R = z := ⟨_, rfl⟩
          have hE := zbnd_cut hE e39
          have t42 : Int32.toInt r38 = Int32.toInt r30 := congrArg Int32.toInt (e39.symm.trans e31)
          rw [e39] at pp41
          have q43 := pp41
          have pp47 := pp_X5_leaves r38 R (hIR) (by first | omega | (show 0 ≤ Int32.toInt r38 ∧ Int32.toInt r38 < Int32.toInt (R 6 0); omega))
          obtain ⟨R44, e45⟩ : ∃ z, mX5_leaves r38 R = z := ⟨_, rfl⟩
          have hE := zbnd_cut hE e45
          rw [e45] at pp47
          have hIR44 := pp47
          obtain ⟨⟨i48, i49⟩, ⟨i50, i51⟩, ⟨i52, i53⟩, ⟨i54, i55⟩, ⟨i56, i57⟩, hIR44_b14, hIR44_p15⟩ := id hIR44
          subst hE
          exact hIR44
theorem hw_X5_trigger_X5 : ∀ w ∈ wsX50, w ∈ wsX5_trigger := fun w h => List.mem_cons_of_mem _ (List.mem_append_right _ (h))
abbrev rmX5_trigger : Room := { frames := 5, cells := 0, slots := 0, locals := 121 }
theorem hd_X5_trigger : yX5_trigger.cls = RX5 ∧ yX5_trigger.cls ≠ "java/lang/invoke/MethodHandle" ∧ yX5_trigger.cls ≠ "java/lang/invoke/VarHandle" ∧ (parseMethodDescriptor yX5_trigger.desc).map (fun d => d.parameters.length) = some 2 := by decide +kernel
set_option maxHeartbeats 4000000 in
set_option maxRecDepth 100000 in
theorem c_X5_trigger (l : Launch) (G : zG_t) (its : Int32) (player : Int32) (R : zS_t) (hIR : zIR R) (hx0 : 0 ≤ Int32.toInt player ∧ Int32.toInt player < 3) : zCV l G.1 (zty G) yX5_trigger wsX5_trigger rmX5_trigger [.ref (G.2.2 6 0), .int its, .int player] (zWR G R) (zWR G (mX5_trigger its player R)) := by
  obtain ⟨X, hE⟩ : ∃ z, mX5_trigger its player R = z := ⟨_, rfl⟩
  rw [hE]
  refine zb_V (cc := cX5_trigger) (maxL := 3) (by decide) rfl (Nat.le_of_ble_eq_true rfl) ?_
  intro p e s m args below meth c Q A F hret
  show zW p l e rmX5_trigger s m args below meth c 0 0 Q G.1 A 3 (zWR G R) [(0, .ref (G.2.2 6 0)), (1, .int its), (2, .int player)] 0 []
  have k_0 : Int32.toInt 0 = 0 := by decide
  have k_1 : Int32.toInt 1 = 1 := by decide
  have k_2 : Int32.toInt 2 = 2 := by decide
  have k_9 : Int32.toInt 9 = 9 := by decide
  have k_10 : Int32.toInt 10 = 10 := by decide
  obtain ⟨⟨i68, i69⟩, ⟨i70, i71⟩, ⟨i72, i73⟩, ⟨i74, i75⟩, ⟨i76, i77⟩, hIR_b14, hIR_p15⟩ := id hIR
  unfold mX5_trigger at hE
  refine zi_iload_n (pc := 0) F dX5_trigger_0 1 rfl ?_
  refine zi_iconst (pc := 1) (v := 1) F dX5_trigger_1 rfl ?_
  refine zi_icmp_eq (pc := 2) (tgt := 11) F dX5_trigger_2 (by decide) (fun c1 => ?_) (fun c1 => ?_)
  · have hE := zite_t hE c1
    have t2 := congrArg Int32.toInt c1
    refine zi_aload_n (pc := 11) F dX5_trigger_11 0 rfl ?_
    refine zi_get (pc := 12) (C := RX5) (T := TX5) (N := 27) (v := .ref (G.2.2 6 1)) F (hw_X5_trigger_X5) 0 rfl rfl 5 (by decide) (List.mem_of_getElem? (i := 1) rfl) rfl rfl dX5_trigger_12 ?_
    refine zi_iload_n (pc := 15) F dX5_trigger_15 2 rfl ?_
    refine zi_dup2 (pc := 16) F dX5_trigger_16 rfl rfl ?_
    refine zi_iald (pc := 17) (v := (R 5 player.toNatClampNeg)) F 1 0 rfl rfl (zin (a := player) (by omega) (by omega)) rfl dX5_trigger_17 ?_
    refine zi_iload_n (pc := 18) F dX5_trigger_18 1 rfl ?_
    refine zi_iconst (pc := 19) (v := 1) F dX5_trigger_19 rfl ?_
    refine zi_icmp_ne (pc := 20) (tgt := 27) F dX5_trigger_20 (by decide) (fun c3 => ?_) (fun c3 => ?_)
    · have hE := zite_f hE c3
      have t4 := zt_ne c3
      refine zi_iconst (pc := 27) (v := 1) F dX5_trigger_27 rfl ?_
      refine zi_iadd (pc := 28) F dX5_trigger_28 ?_
      refine zi_iast (pc := 29) (ws' := zWR G (zsF R 5 (upd (R 5) player.toNatClampNeg ((R 5 player.toNatClampNeg) + 1)))) F 1 0 rfl rfl (zin (a := player) (by omega) (by omega)) rfl dX5_trigger_29 ?_
      refine zi_goto (pc := 30) (tgt := 64) F dX5_trigger_30 (by decide) ?_
      subst hE
      exact hret _ _ dX5_trigger_64
    · have hE := zite_t hE c3
      have t5 := congrArg Int32.toInt c3
      refine zi_iconst (pc := 23) (v := 2) F dX5_trigger_23 rfl ?_
      refine zi_goto (pc := 24) (tgt := 28) F dX5_trigger_24 (by decide) ?_
      refine zi_iadd (pc := 28) F dX5_trigger_28 ?_
      refine zi_iast (pc := 29) (ws' := zWR G (zsF R 5 (upd (R 5) player.toNatClampNeg ((R 5 player.toNatClampNeg) + 2)))) F 1 0 rfl rfl (zin (a := player) (by omega) (by omega)) rfl dX5_trigger_29 ?_
      refine zi_goto (pc := 30) (tgt := 64) F dX5_trigger_30 (by decide) ?_
      subst hE
      exact hret _ _ dX5_trigger_64
  · have hE := zite_f hE c1
    have t6 := zt_ne c1
    refine zi_iload_n (pc := 5) F dX5_trigger_5 1 rfl ?_
    refine zi_bipush (pc := 6) (v := 9) F dX5_trigger_6 rfl ?_
    refine zi_icmp_ne (pc := 8) (tgt := 33) F dX5_trigger_8 (by decide) (fun c7 => ?_) (fun c7 => ?_)
    · have hE := zite_f hE c7
      have t8 := zt_ne c7
      refine zi_iload_n (pc := 33) F dX5_trigger_33 1 rfl ?_
      refine zi_bipush (pc := 34) (v := 10) F dX5_trigger_34 rfl ?_
      refine zi_icmp_ne (pc := 36) (tgt := 49) F dX5_trigger_36 (by decide) (fun c9 => ?_) (fun c9 => ?_)
      · have hE := zite_f hE c9
        have t10 := zt_ne c9
        refine zi_aload_n (pc := 49) F dX5_trigger_49 0 rfl ?_
        have hM13 := c_X5_firstBeast l G  R (hIR)
        have pp14 := pp_X5_firstBeast  R (hIR)
        obtain ⟨r11, e12⟩ : ∃ z, mX5_firstBeast R = z := ⟨_, rfl⟩
        have hE := zbnd_cut hE e12
        rw [e12] at hM13
        rw [e12] at pp14
        have q15 := pp14
        refine zi_callVI (pc := 50) (rest := []) (ws' := zWR G R) F hM13 (cwV 0 F.1.2.2.2.2 gX5_trigger_X5_firstBeast rfl rfl rfl hd_X5_firstBeast ⟨Nat.le_of_ble_eq_true rfl, Nat.le_of_ble_eq_true rfl⟩) 0 rfl rfl _ _ (zw_nil _) (zw_nil _).symm rfl rfl (Nat.le_of_ble_eq_true rfl) dX5_trigger_50 ⟨Nat.zero_le _, Nat.zero_le _⟩ ?_
        refine zi_if_lt (pc := 53) (tgt := 64) F dX5_trigger_53 (by decide) (fun c16 => ?_) (fun c16 => ?_)
        · have hE := zite_t hE c16
          have t17 := zt_lt c16
          subst hE
          exact hret _ _ dX5_trigger_64
        · have hE := zite_f hE c16
          have t18 := zt_nlt c16
          refine zi_aload_n (pc := 56) F dX5_trigger_56 0 rfl ?_
          refine zi_aload_n (pc := 57) F dX5_trigger_57 0 rfl ?_
          have hM21 := c_X5_firstBeast l G  R (hIR)
          have pp22 := pp_X5_firstBeast  R (hIR)
          obtain ⟨r19, e20⟩ : ∃ z, mX5_firstBeast R = z := ⟨_, rfl⟩
          have hE := zbnd_cut hE e20
          rw [e20] at hM21
          have t23 : Int32.toInt r19 = Int32.toInt r11 := congrArg Int32.toInt (e20.symm.trans e12)
          rw [e20] at pp22
          have q24 := pp22
          refine zi_callVI (pc := 58) (rest := [.ref (G.2.2 6 0)]) (ws' := zWR G R) F hM21 (cwV 0 F.1.2.2.2.2 gX5_trigger_X5_firstBeast rfl rfl rfl hd_X5_firstBeast ⟨Nat.le_of_ble_eq_true rfl, Nat.le_of_ble_eq_true rfl⟩) 0 rfl rfl _ _ (zw_nil _) (zw_nil _).symm rfl rfl (Nat.le_of_ble_eq_true rfl) dX5_trigger_58 ⟨Nat.zero_le _, Nat.zero_le _⟩ ?_
          have hM27 := c_X5_leaves l G r19 R (hIR) (by first | omega | (show 0 ≤ Int32.toInt r19 ∧ Int32.toInt r19 < Int32.toInt (R 6 0); omega))
          have pp28 := pp_X5_leaves r19 R (hIR) (by first | omega | (show 0 ≤ Int32.toInt r19 ∧ Int32.toInt r19 < Int32.toInt (R 6 0); omega))
          obtain ⟨R25, e26⟩ : ∃ z, mX5_leaves r19 R = z := ⟨_, rfl⟩
          have hE := zbnd_cut hE e26
          rw [e26] at hM27
          rw [e26] at pp28
          have hIR25 := pp28
          obtain ⟨⟨i29, i30⟩, ⟨i31, i32⟩, ⟨i33, i34⟩, ⟨i35, i36⟩, ⟨i37, i38⟩, hIR25_b14, hIR25_p15⟩ := id hIR25
          refine zi_callVV (pc := 61) (rest := []) (ws' := zWR G R25) F hM27 (cwV 1 F.1.2.2.2.2 gX5_trigger_X5_leaves rfl rfl rfl hd_X5_leaves ⟨Nat.le_of_ble_eq_true rfl, Nat.le_of_ble_eq_true rfl⟩) 0 rfl rfl _ _ (zw_nil _) (zw_nil _).symm rfl rfl (Nat.le_of_ble_eq_true rfl) dX5_trigger_61 ⟨Nat.zero_le _, Nat.zero_le _⟩ ?_
          subst hE
          exact hret _ _ dX5_trigger_64
      · have hE := zite_t hE c9
        have t39 := congrArg Int32.toInt c9
        refine zi_aload_n (pc := 39) F dX5_trigger_39 0 rfl ?_
        refine zi_iconst (pc := 40) (v := 0) F dX5_trigger_40 rfl ?_
        refine zi_iload_n (pc := 41) F dX5_trigger_41 2 rfl ?_
        refine zi_iconst (pc := 42) (v := 0) F dX5_trigger_42 rfl ?_
        have hM42 := c_X5_enters l G 0 player 0 R (hIR)
        have pp43 := pp_X5_enters 0 player 0 R (hIR)
        obtain ⟨R40, e41⟩ : ∃ z, mX5_enters 0 player 0 R = z := ⟨_, rfl⟩
        have hE := zbnd_cut hE e41
        rw [e41] at hM42
        rw [e41] at pp43
        have hIR40 := pp43
        obtain ⟨⟨i44, i45⟩, ⟨i46, i47⟩, ⟨i48, i49⟩, ⟨i50, i51⟩, ⟨i52, i53⟩, hIR40_b14, hIR40_p15⟩ := id hIR40
        refine zi_callVV (pc := 43) (rest := []) (ws' := zWR G R40) F hM42 (cwV 3 F.1.2.2.2.2 gX5_trigger_X5_enters rfl rfl rfl hd_X5_enters ⟨Nat.le_of_ble_eq_true rfl, Nat.le_of_ble_eq_true rfl⟩) 0 rfl rfl _ _ (zw_nil _) (zw_nil _).symm rfl rfl (Nat.le_of_ble_eq_true rfl) dX5_trigger_43 ⟨Nat.zero_le _, Nat.zero_le _⟩ ?_
        refine zi_goto (pc := 46) (tgt := 64) F dX5_trigger_46 (by decide) ?_
        subst hE
        exact hret _ _ dX5_trigger_64
    · have hE := zite_t hE c7
      have t54 := congrArg Int32.toInt c7
      refine zi_aload_n (pc := 11) F dX5_trigger_11 0 rfl ?_
      refine zi_get (pc := 12) (C := RX5) (T := TX5) (N := 27) (v := .ref (G.2.2 6 1)) F (hw_X5_trigger_X5) 0 rfl rfl 5 (by decide) (List.mem_of_getElem? (i := 1) rfl) rfl rfl dX5_trigger_12 ?_
      refine zi_iload_n (pc := 15) F dX5_trigger_15 2 rfl ?_
      refine zi_dup2 (pc := 16) F dX5_trigger_16 rfl rfl ?_
      refine zi_iald (pc := 17) (v := (R 5 player.toNatClampNeg)) F 1 0 rfl rfl (zin (a := player) (by omega) (by omega)) rfl dX5_trigger_17 ?_
      refine zi_iload_n (pc := 18) F dX5_trigger_18 1 rfl ?_
      refine zi_iconst (pc := 19) (v := 1) F dX5_trigger_19 rfl ?_
      refine zi_icmp_ne (pc := 20) (tgt := 27) F dX5_trigger_20 (by decide) (fun c55 => ?_) (fun c55 => ?_)
      · have hE := zite_f hE c55
        have t56 := zt_ne c55
        refine zi_iconst (pc := 27) (v := 1) F dX5_trigger_27 rfl ?_
        refine zi_iadd (pc := 28) F dX5_trigger_28 ?_
        refine zi_iast (pc := 29) (ws' := zWR G (zsF R 5 (upd (R 5) player.toNatClampNeg ((R 5 player.toNatClampNeg) + 1)))) F 1 0 rfl rfl (zin (a := player) (by omega) (by omega)) rfl dX5_trigger_29 ?_
        refine zi_goto (pc := 30) (tgt := 64) F dX5_trigger_30 (by decide) ?_
        subst hE
        exact hret _ _ dX5_trigger_64
      · have hE := zite_t hE c55
        have t57 := congrArg Int32.toInt c55
        refine zi_iconst (pc := 23) (v := 2) F dX5_trigger_23 rfl ?_
        refine zi_goto (pc := 24) (tgt := 28) F dX5_trigger_24 (by decide) ?_
        refine zi_iadd (pc := 28) F dX5_trigger_28 ?_
        refine zi_iast (pc := 29) (ws' := zWR G (zsF R 5 (upd (R 5) player.toNatClampNeg ((R 5 player.toNatClampNeg) + 2)))) F 1 0 rfl rfl (zin (a := player) (by omega) (by omega)) rfl dX5_trigger_29 ?_
        refine zi_goto (pc := 30) (tgt := 64) F dX5_trigger_30 (by decide) ?_
        subst hE
        exact hret _ _ dX5_trigger_64
/-! X5_strikes -/
def mX5_strikes (itsName : Int32) (R : zS_t) : zS_t := zbnd (mX5_thingOf itsName R) (fun r1 => zbnd (mX5_lays 5 R) (fun R6 => if r1 < 0 then R6 else (if 4 < (R6 20 r1.toNatClampNeg) then R6 else (zbnd (mX5_leaves r1 R6) (fun R27 => R27)))))
set_option maxHeartbeats 4000000 in
set_option maxRecDepth 100000 in
theorem pp_X5_strikes (itsName : Int32) (R : zS_t) (hIR : zIR R) : (zIR (mX5_strikes itsName R)) := by
  obtain ⟨X, hE⟩ : ∃ z, mX5_strikes itsName R = z := ⟨_, rfl⟩
  rw [hE]
  have k_0 : Int32.toInt 0 = 0 := by decide
  have k_1 : Int32.toInt 1 = 1 := by decide
  have k_4 : Int32.toInt 4 = 4 := by decide
  have k_5 : Int32.toInt 5 = 5 := by decide
  obtain ⟨⟨i41, i42⟩, ⟨i43, i44⟩, ⟨i45, i46⟩, ⟨i47, i48⟩, ⟨i49, i50⟩, hIR_b14, hIR_p15⟩ := id hIR
  unfold mX5_strikes at hE
  have pp4 := pp_X5_thingOf itsName R (hIR)
  obtain ⟨r1, e2⟩ : ∃ z, mX5_thingOf itsName R = z := ⟨_, rfl⟩
  have hE := zbnd_cut hE e2
  rw [e2] at pp4
  have q5 := pp4
  have pp9 := pp_X5_lays 5 R (hIR) (by first | omega | (show Int32.toInt 5 ≤ 5; omega))
  obtain ⟨R6, e7⟩ : ∃ z, mX5_lays 5 R = z := ⟨_, rfl⟩
  have hE := zbnd_cut hE e7
  rw [e7] at pp9
  obtain ⟨hIR6, q10⟩ := pp9
  obtain ⟨⟨i11, i12⟩, ⟨i13, i14⟩, ⟨i15, i16⟩, ⟨i17, i18⟩, ⟨i19, i20⟩, hIR6_b14, hIR6_p15⟩ := id hIR6
  by_cases c21 : r1 < 0
  · have hE := zite_t hE c21
    have t22 := zt_lt c21
    subst hE
    exact hIR6
  · have hE := zite_f hE c21
    have t23 := zt_nlt c21
    by_cases c24 : 4 < (R6 20 r1.toNatClampNeg)
    · have hE := zite_t hE c24
      have t25 := zt_lt c24
      subst hE
      exact hIR6
    · have hE := zite_f hE c24
      have t26 := zt_nlt c24
      have pp30 := pp_X5_leaves r1 R6 (hIR6) (by first | omega | (show 0 ≤ Int32.toInt r1 ∧ Int32.toInt r1 < Int32.toInt (R6 6 0); omega))
      obtain ⟨R27, e28⟩ : ∃ z, mX5_leaves r1 R6 = z := ⟨_, rfl⟩
      have hE := zbnd_cut hE e28
      rw [e28] at pp30
      have hIR27 := pp30
      obtain ⟨⟨i31, i32⟩, ⟨i33, i34⟩, ⟨i35, i36⟩, ⟨i37, i38⟩, ⟨i39, i40⟩, hIR27_b14, hIR27_p15⟩ := id hIR27
      subst hE
      exact hIR27
theorem hw_X5_strikes_X5 : ∀ w ∈ wsX50, w ∈ wsX5_strikes := fun w h => List.mem_cons_of_mem _ (List.mem_append_right _ (h))
abbrev rmX5_strikes : Room := { frames := 5, cells := 0, slots := 0, locals := 120 }
theorem hd_X5_strikes : yX5_strikes.cls = RX5 ∧ yX5_strikes.cls ≠ "java/lang/invoke/MethodHandle" ∧ yX5_strikes.cls ≠ "java/lang/invoke/VarHandle" ∧ (parseMethodDescriptor yX5_strikes.desc).map (fun d => d.parameters.length) = some 1 := by decide +kernel
set_option maxHeartbeats 4000000 in
set_option maxRecDepth 100000 in
theorem c_X5_strikes (l : Launch) (G : zG_t) (itsName : Int32) (R : zS_t) (hIR : zIR R) : zCV l G.1 (zty G) yX5_strikes wsX5_strikes rmX5_strikes [.ref (G.2.2 6 0), .int itsName] (zWR G R) (zWR G (mX5_strikes itsName R)) := by
  obtain ⟨X, hE⟩ : ∃ z, mX5_strikes itsName R = z := ⟨_, rfl⟩
  rw [hE]
  refine zb_V (cc := cX5_strikes) (maxL := 3) (by decide) rfl (Nat.le_of_ble_eq_true rfl) ?_
  intro p e s m args below meth c Q A F hret
  show zW p l e rmX5_strikes s m args below meth c 0 0 Q G.1 A 3 (zWR G R) [(0, .ref (G.2.2 6 0)), (1, .int itsName)] 0 []
  have k_0 : Int32.toInt 0 = 0 := by decide
  have k_1 : Int32.toInt 1 = 1 := by decide
  have k_4 : Int32.toInt 4 = 4 := by decide
  have k_5 : Int32.toInt 5 = 5 := by decide
  obtain ⟨⟨i51, i52⟩, ⟨i53, i54⟩, ⟨i55, i56⟩, ⟨i57, i58⟩, ⟨i59, i60⟩, hIR_b14, hIR_p15⟩ := id hIR
  unfold mX5_strikes at hE
  refine zi_aload_n (pc := 0) F dX5_strikes_0 0 rfl ?_
  refine zi_iload_n (pc := 1) F dX5_strikes_1 1 rfl ?_
  have hM3 := c_X5_thingOf l G itsName R (hIR)
  have pp4 := pp_X5_thingOf itsName R (hIR)
  obtain ⟨r1, e2⟩ : ∃ z, mX5_thingOf itsName R = z := ⟨_, rfl⟩
  have hE := zbnd_cut hE e2
  rw [e2] at hM3
  rw [e2] at pp4
  have q5 := pp4
  refine zi_callVI (pc := 2) (rest := []) (ws' := zWR G R) F hM3 (cwV 1 F.1.2.2.2.2 gX5_strikes_X5_thingOf rfl rfl rfl hd_X5_thingOf ⟨Nat.le_of_ble_eq_true rfl, Nat.le_of_ble_eq_true rfl⟩) 0 rfl rfl _ _ (zw_nil _) (zw_nil _).symm rfl rfl (Nat.le_of_ble_eq_true rfl) dX5_strikes_2 ⟨Nat.zero_le _, Nat.zero_le _⟩ ?_
  refine zi_istore_n (pc := 5) (lv' := [(0, .ref (G.2.2 6 0)), (1, .int itsName), (2, .int r1)]) F dX5_strikes_5 (by decide) rfl ?_
  refine zi_aload_n (pc := 6) F dX5_strikes_6 0 rfl ?_
  refine zi_iconst (pc := 7) (v := 5) F dX5_strikes_7 rfl ?_
  have hM8 := c_X5_lays l G 5 R (hIR) (by first | omega | (show Int32.toInt 5 ≤ 5; omega))
  have pp9 := pp_X5_lays 5 R (hIR) (by first | omega | (show Int32.toInt 5 ≤ 5; omega))
  obtain ⟨R6, e7⟩ : ∃ z, mX5_lays 5 R = z := ⟨_, rfl⟩
  have hE := zbnd_cut hE e7
  rw [e7] at hM8
  rw [e7] at pp9
  obtain ⟨hIR6, q10⟩ := pp9
  obtain ⟨⟨i11, i12⟩, ⟨i13, i14⟩, ⟨i15, i16⟩, ⟨i17, i18⟩, ⟨i19, i20⟩, hIR6_b14, hIR6_p15⟩ := id hIR6
  refine zi_callVV (pc := 8) (rest := []) (ws' := zWR G R6) F hM8 (cwV 1 F.1.2.2.2.2 gX5_strikes_X5_lays rfl rfl rfl hd_X5_lays ⟨Nat.le_of_ble_eq_true rfl, Nat.le_of_ble_eq_true rfl⟩) 0 rfl rfl _ _ (zw_nil _) (zw_nil _).symm rfl rfl (Nat.le_of_ble_eq_true rfl) dX5_strikes_8 ⟨Nat.zero_le _, Nat.zero_le _⟩ ?_
  refine zi_iload_n (pc := 11) F dX5_strikes_11 2 rfl ?_
  refine zi_if_lt (pc := 12) (tgt := 30) F dX5_strikes_12 (by decide) (fun c21 => ?_) (fun c21 => ?_)
  · have hE := zite_t hE c21
    have t22 := zt_lt c21
    subst hE
    exact hret _ _ dX5_strikes_30
  · have hE := zite_f hE c21
    have t23 := zt_nlt c21
    refine zi_aload_n (pc := 15) F dX5_strikes_15 0 rfl ?_
    refine zi_get (pc := 16) (C := RX5) (T := TX5) (N := 27) (v := .ref (G.2.2 6 13)) F (hw_X5_strikes_X5) 0 rfl rfl 20 (by decide) (List.mem_of_getElem? (i := 1) rfl) rfl rfl dX5_strikes_16 ?_
    refine zi_iload_n (pc := 19) F dX5_strikes_19 2 rfl ?_
    refine zi_iald (pc := 20) (v := (R6 20 r1.toNatClampNeg)) F 13 0 rfl rfl (zin (a := r1) (by omega) (by omega)) rfl dX5_strikes_20 ?_
    refine zi_iconst (pc := 21) (v := 4) F dX5_strikes_21 rfl ?_
    refine zi_icmp_gt (pc := 22) (tgt := 30) F dX5_strikes_22 (by decide) (fun c24 => ?_) (fun c24 => ?_)
    · have hE := zite_t hE c24
      have t25 := zt_lt c24
      subst hE
      exact hret _ _ dX5_strikes_30
    · have hE := zite_f hE c24
      have t26 := zt_nlt c24
      refine zi_aload_n (pc := 25) F dX5_strikes_25 0 rfl ?_
      refine zi_iload_n (pc := 26) F dX5_strikes_26 2 rfl ?_
      have hM29 := c_X5_leaves l G r1 R6 (hIR6) (by first | omega | (show 0 ≤ Int32.toInt r1 ∧ Int32.toInt r1 < Int32.toInt (R6 6 0); omega))
      have pp30 := pp_X5_leaves r1 R6 (hIR6) (by first | omega | (show 0 ≤ Int32.toInt r1 ∧ Int32.toInt r1 < Int32.toInt (R6 6 0); omega))
      obtain ⟨R27, e28⟩ : ∃ z, mX5_leaves r1 R6 = z := ⟨_, rfl⟩
      have hE := zbnd_cut hE e28
      rw [e28] at hM29
      rw [e28] at pp30
      have hIR27 := pp30
      obtain ⟨⟨i31, i32⟩, ⟨i33, i34⟩, ⟨i35, i36⟩, ⟨i37, i38⟩, ⟨i39, i40⟩, hIR27_b14, hIR27_p15⟩ := id hIR27
      refine zi_callVV (pc := 27) (rest := []) (ws' := zWR G R27) F hM29 (cwV 1 F.1.2.2.2.2 gX5_strikes_X5_leaves rfl rfl rfl hd_X5_leaves ⟨Nat.le_of_ble_eq_true rfl, Nat.le_of_ble_eq_true rfl⟩) 0 rfl rfl _ _ (zw_nil _) (zw_nil _).symm rfl rfl (Nat.le_of_ble_eq_true rfl) dX5_strikes_27 ⟨Nat.zero_le _, Nat.zero_le _⟩ ?_
      subst hE
      exact hret _ _ dX5_strikes_30
/-! X5_targetOf -/
def mX5_targetOf (atp : Int32) (R : zS_t) : Int32 := zbnd ((R 13 atp.toNatClampNeg)) (fun y1 => if (R 14 atp.toNatClampNeg) = 0 then (if y1 = 7 then (zbnd (mX5_thingOf (R 17 atp.toNatClampNeg) R) (fun r8 => r8)) else (if y1 = 12 then (zbnd (mX5_thingOf (R 17 atp.toNatClampNeg) R) (fun r25 => r25)) else (if y1 = 13 then (zbnd (mX5_entryOf (R 17 atp.toNatClampNeg) R) (fun r19 => r19)) else (-1)))) else (-1))
theorem hw_X5_targetOf_X5 : ∀ w ∈ wsX50, w ∈ wsX5_targetOf := fun w h => List.mem_cons_of_mem _ (List.mem_append_right _ (h))
abbrev rmX5_targetOf : Room := { frames := 1, cells := 0, slots := 0, locals := 23 }
theorem hd_X5_targetOf : yX5_targetOf.cls = RX5 ∧ yX5_targetOf.cls ≠ "java/lang/invoke/MethodHandle" ∧ yX5_targetOf.cls ≠ "java/lang/invoke/VarHandle" ∧ (parseMethodDescriptor yX5_targetOf.desc).map (fun d => d.parameters.length) = some 1 := by decide +kernel
set_option maxHeartbeats 4000000 in
set_option maxRecDepth 100000 in
theorem c_X5_targetOf (l : Launch) (G : zG_t) (atp : Int32) (R : zS_t) (hIR : zIR R) (hx0 : 0 ≤ Int32.toInt atp ∧ Int32.toInt atp < 12) : zCI l G.1 (zty G) yX5_targetOf wsX5_targetOf rmX5_targetOf [.ref (G.2.2 6 0), .int atp] (zWR G R) ((mX5_targetOf atp R)) (zWR G R) := by
  obtain ⟨X, hE⟩ : ∃ z, mX5_targetOf atp R = z := ⟨_, rfl⟩
  rw [hE]
  refine zb_I (cc := cX5_targetOf) (maxL := 3) (by decide) rfl (Nat.le_of_ble_eq_true rfl) ?_
  intro p e s m args below meth c Q A F hret
  show zW p l e rmX5_targetOf s m args below meth c 0 0 Q G.1 A 3 (zWR G R) [(0, .ref (G.2.2 6 0)), (1, .int atp)] 0 []
  have k_m1 : Int32.toInt (-1) = -1 := by decide
  have k_0 : Int32.toInt 0 = 0 := by decide
  have k_1 : Int32.toInt 1 = 1 := by decide
  have k_7 : Int32.toInt 7 = 7 := by decide
  have k_12 : Int32.toInt 12 = 12 := by decide
  have k_13 : Int32.toInt 13 = 13 := by decide
  obtain ⟨⟨i31, i32⟩, ⟨i33, i34⟩, ⟨i35, i36⟩, ⟨i37, i38⟩, ⟨i39, i40⟩, hIR_b14, hIR_p15⟩ := id hIR
  unfold mX5_targetOf at hE
  refine zi_aload_n (pc := 0) F dX5_targetOf_0 0 rfl ?_
  refine zi_get (pc := 1) (C := RX5) (T := TX5) (N := 27) (v := .ref (G.2.2 6 6)) F (hw_X5_targetOf_X5) 0 rfl rfl 13 (by decide) (List.mem_of_getElem? (i := 1) rfl) rfl rfl dX5_targetOf_1 ?_
  refine zi_iload_n (pc := 4) F dX5_targetOf_4 1 rfl ?_
  refine zi_iald (pc := 5) (v := (R 13 atp.toNatClampNeg)) F 6 0 rfl rfl (zin (a := atp) (by omega) (by omega)) rfl dX5_targetOf_5 ?_
  refine zi_topi (fun y1 e2 => ?_)
  have hE := zbnd_cut hE e2
  have t3 := congrArg Int32.toInt e2
  refine zi_istore_n (pc := 6) (lv' := [(0, .ref (G.2.2 6 0)), (1, .int atp), (2, .int y1)]) F dX5_targetOf_6 (by decide) rfl ?_
  refine zi_aload_n (pc := 7) F dX5_targetOf_7 0 rfl ?_
  refine zi_get (pc := 8) (C := RX5) (T := TX5) (N := 27) (v := .ref (G.2.2 6 7)) F (hw_X5_targetOf_X5) 0 rfl rfl 14 (by decide) (List.mem_of_getElem? (i := 2) rfl) rfl rfl dX5_targetOf_8 ?_
  refine zi_iload_n (pc := 11) F dX5_targetOf_11 1 rfl ?_
  refine zi_zald (pc := 12) (v := (R 14 atp.toNatClampNeg)) F 7 1 rfl rfl (zin (a := atp) (by omega) (by omega)) rfl dX5_targetOf_12 ?_
  refine zi_if_eq (pc := 13) (tgt := 20) F dX5_targetOf_13 (by decide) (fun c4 => ?_) (fun c4 => ?_)
  · have hE := zite_t hE c4
    have t5 := congrArg Int32.toInt c4
    refine zi_iload_n (pc := 20) F dX5_targetOf_20 2 rfl ?_
    refine zi_bipush (pc := 21) (v := 7) F dX5_targetOf_21 rfl ?_
    refine zi_icmp_eq (pc := 23) (tgt := 32) F dX5_targetOf_23 (by decide) (fun c6 => ?_) (fun c6 => ?_)
    · have hE := zite_t hE c6
      have t7 := congrArg Int32.toInt c6
      refine zi_aload_n (pc := 32) F dX5_targetOf_32 0 rfl ?_
      refine zi_aload_n (pc := 33) F dX5_targetOf_33 0 rfl ?_
      refine zi_get (pc := 34) (C := RX5) (T := TX5) (N := 27) (v := .ref (G.2.2 6 10)) F (hw_X5_targetOf_X5) 0 rfl rfl 17 (by decide) (List.mem_of_getElem? (i := 3) rfl) rfl rfl dX5_targetOf_34 ?_
      refine zi_iload_n (pc := 37) F dX5_targetOf_37 1 rfl ?_
      refine zi_iald (pc := 38) (v := (R 17 atp.toNatClampNeg)) F 10 0 rfl rfl (zin (a := atp) (by omega) (by omega)) rfl dX5_targetOf_38 ?_
      have hM10 := c_X5_thingOf l G (R 17 atp.toNatClampNeg) R (hIR)
      have pp11 := pp_X5_thingOf (R 17 atp.toNatClampNeg) R (hIR)
      obtain ⟨r8, e9⟩ : ∃ z, mX5_thingOf (R 17 atp.toNatClampNeg) R = z := ⟨_, rfl⟩
      have hE := zbnd_cut hE e9
      rw [e9] at hM10
      rw [e9] at pp11
      have q12 := pp11
      refine zi_callVI (pc := 39) (rest := []) (ws' := zWR G R) F hM10 (cwV 1 F.1.2.2.2.2 gX5_targetOf_X5_thingOf rfl rfl rfl hd_X5_thingOf ⟨Nat.le_of_ble_eq_true rfl, Nat.le_of_ble_eq_true rfl⟩) 0 rfl rfl _ _ (zw_nil _) (zw_nil _).symm rfl rfl (Nat.le_of_ble_eq_true rfl) dX5_targetOf_39 ⟨Nat.zero_le _, Nat.zero_le _⟩ ?_
      refine zi_goto (pc := 42) (tgt := 65) F dX5_targetOf_42 (by decide) ?_
      subst hE
      exact hret _ _ dX5_targetOf_65
    · have hE := zite_f hE c6
      have t13 := zt_ne c6
      refine zi_iload_n (pc := 26) F dX5_targetOf_26 2 rfl ?_
      refine zi_bipush (pc := 27) (v := 12) F dX5_targetOf_27 rfl ?_
      refine zi_icmp_ne (pc := 29) (tgt := 45) F dX5_targetOf_29 (by decide) (fun c14 => ?_) (fun c14 => ?_)
      · have hE := zite_f hE c14
        have t15 := zt_ne c14
        refine zi_iload_n (pc := 45) F dX5_targetOf_45 2 rfl ?_
        refine zi_bipush (pc := 46) (v := 13) F dX5_targetOf_46 rfl ?_
        refine zi_icmp_ne (pc := 48) (tgt := 64) F dX5_targetOf_48 (by decide) (fun c16 => ?_) (fun c16 => ?_)
        · have hE := zite_f hE c16
          have t17 := zt_ne c16
          refine zi_iconst (pc := 64) (v := (-1)) F dX5_targetOf_64 rfl ?_
          subst hE
          exact hret _ _ dX5_targetOf_65
        · have hE := zite_t hE c16
          have t18 := congrArg Int32.toInt c16
          refine zi_aload_n (pc := 51) F dX5_targetOf_51 0 rfl ?_
          refine zi_aload_n (pc := 52) F dX5_targetOf_52 0 rfl ?_
          refine zi_get (pc := 53) (C := RX5) (T := TX5) (N := 27) (v := .ref (G.2.2 6 10)) F (hw_X5_targetOf_X5) 0 rfl rfl 17 (by decide) (List.mem_of_getElem? (i := 3) rfl) rfl rfl dX5_targetOf_53 ?_
          refine zi_iload_n (pc := 56) F dX5_targetOf_56 1 rfl ?_
          refine zi_iald (pc := 57) (v := (R 17 atp.toNatClampNeg)) F 10 0 rfl rfl (zin (a := atp) (by omega) (by omega)) rfl dX5_targetOf_57 ?_
          have hM21 := c_X5_entryOf l G (R 17 atp.toNatClampNeg) R (hIR)
          have pp22 := pp_X5_entryOf (R 17 atp.toNatClampNeg) R (hIR)
          obtain ⟨r19, e20⟩ : ∃ z, mX5_entryOf (R 17 atp.toNatClampNeg) R = z := ⟨_, rfl⟩
          have hE := zbnd_cut hE e20
          rw [e20] at hM21
          rw [e20] at pp22
          have q23 := pp22
          refine zi_callVI (pc := 58) (rest := []) (ws' := zWR G R) F hM21 (cwV 1 F.1.2.2.2.2 gX5_targetOf_X5_entryOf rfl rfl rfl hd_X5_entryOf ⟨Nat.le_of_ble_eq_true rfl, Nat.le_of_ble_eq_true rfl⟩) 0 rfl rfl _ _ (zw_nil _) (zw_nil _).symm rfl rfl (Nat.le_of_ble_eq_true rfl) dX5_targetOf_58 ⟨Nat.zero_le _, Nat.zero_le _⟩ ?_
          refine zi_goto (pc := 61) (tgt := 65) F dX5_targetOf_61 (by decide) ?_
          subst hE
          exact hret _ _ dX5_targetOf_65
      · have hE := zite_t hE c14
        have t24 := congrArg Int32.toInt c14
        refine zi_aload_n (pc := 32) F dX5_targetOf_32 0 rfl ?_
        refine zi_aload_n (pc := 33) F dX5_targetOf_33 0 rfl ?_
        refine zi_get (pc := 34) (C := RX5) (T := TX5) (N := 27) (v := .ref (G.2.2 6 10)) F (hw_X5_targetOf_X5) 0 rfl rfl 17 (by decide) (List.mem_of_getElem? (i := 3) rfl) rfl rfl dX5_targetOf_34 ?_
        refine zi_iload_n (pc := 37) F dX5_targetOf_37 1 rfl ?_
        refine zi_iald (pc := 38) (v := (R 17 atp.toNatClampNeg)) F 10 0 rfl rfl (zin (a := atp) (by omega) (by omega)) rfl dX5_targetOf_38 ?_
        have hM27 := c_X5_thingOf l G (R 17 atp.toNatClampNeg) R (hIR)
        have pp28 := pp_X5_thingOf (R 17 atp.toNatClampNeg) R (hIR)
        obtain ⟨r25, e26⟩ : ∃ z, mX5_thingOf (R 17 atp.toNatClampNeg) R = z := ⟨_, rfl⟩
        have hE := zbnd_cut hE e26
        rw [e26] at hM27
        rw [e26] at pp28
        have q29 := pp28
        refine zi_callVI (pc := 39) (rest := []) (ws' := zWR G R) F hM27 (cwV 1 F.1.2.2.2.2 gX5_targetOf_X5_thingOf rfl rfl rfl hd_X5_thingOf ⟨Nat.le_of_ble_eq_true rfl, Nat.le_of_ble_eq_true rfl⟩) 0 rfl rfl _ _ (zw_nil _) (zw_nil _).symm rfl rfl (Nat.le_of_ble_eq_true rfl) dX5_targetOf_39 ⟨Nat.zero_le _, Nat.zero_le _⟩ ?_
        refine zi_goto (pc := 42) (tgt := 65) F dX5_targetOf_42 (by decide) ?_
        subst hE
        exact hret _ _ dX5_targetOf_65
  · have hE := zite_f hE c4
    have t30 := zt_ne c4
    refine zi_iconst (pc := 16) (v := (-1)) F dX5_targetOf_16 rfl ?_
    refine zi_goto (pc := 17) (tgt := 65) F dX5_targetOf_17 (by decide) ?_
    subst hE
    exact hret _ _ dX5_targetOf_65
