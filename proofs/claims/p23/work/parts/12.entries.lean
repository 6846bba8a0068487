/-! X0_has -/
def mX0_has (place : Int32) (E : zS_t) : Int32 := if place < 0 then 0 else (if (E 5 0) ≤ place then 0 else 1)
set_option maxHeartbeats 4000000 in
set_option maxRecDepth 100000 in
theorem pp_X0_has (place : Int32) (E : zS_t)  : ((mX0_has place E) = 0 ∨ (mX0_has place E) = 1) ∧ (Int32.toInt (mX0_has place E) = 0 ∨ (0 ≤ Int32.toInt place ∧ Int32.toInt place < Int32.toInt (E 5 0))) ∧ (¬ Int32.toInt (mX0_has place E) = 0 ∨ Int32.toInt place < 0 ∨ Int32.toInt (E 5 0) ≤ Int32.toInt place) := by
  obtain ⟨X, hE⟩ : ∃ z, mX0_has place E = z := ⟨_, rfl⟩
  rw [hE]
  have k_0 : Int32.toInt 0 = 0 := by decide
  have k_1 : Int32.toInt 1 = 1 := by decide
  unfold mX0_has at hE
  by_cases c1 : place < 0
  · have hE := zite_t hE c1
    have t2 := zt_lt c1
    subst hE
    exact ⟨Or.inl rfl, (by first | omega | (show Int32.toInt 0 = 0 ∨ (0 ≤ Int32.toInt place ∧ Int32.toInt place < Int32.toInt (E 5 0)); omega) | (show Int32.toInt 0 = 0 ∨ (0 ≤ Int32.toInt place ∧ Int32.toInt place < Int32.toInt (E 5 0)); simp)), (by first | omega | (show ¬ Int32.toInt 0 = 0 ∨ Int32.toInt place < 0 ∨ Int32.toInt (E 5 0) ≤ Int32.toInt place; omega) | (show ¬ Int32.toInt 0 = 0 ∨ Int32.toInt place < 0 ∨ Int32.toInt (E 5 0) ≤ Int32.toInt place; simp))⟩
  · have hE := zite_f hE c1
    have t3 := zt_nlt c1
    by_cases c4 : (E 5 0) ≤ place
    · have hE := zite_t hE c4
      have t5 := zt_le c4
      subst hE
      exact ⟨Or.inl rfl, (by first | omega | (show Int32.toInt 0 = 0 ∨ (0 ≤ Int32.toInt place ∧ Int32.toInt place < Int32.toInt (E 5 0)); omega) | (show Int32.toInt 0 = 0 ∨ (0 ≤ Int32.toInt place ∧ Int32.toInt place < Int32.toInt (E 5 0)); simp)), (by first | omega | (show ¬ Int32.toInt 0 = 0 ∨ Int32.toInt place < 0 ∨ Int32.toInt (E 5 0) ≤ Int32.toInt place; omega) | (show ¬ Int32.toInt 0 = 0 ∨ Int32.toInt place < 0 ∨ Int32.toInt (E 5 0) ≤ Int32.toInt place; simp))⟩
    · have hE := zite_f hE c4
      have t6 := zt_nle c4
      subst hE
      exact ⟨Or.inr rfl, (by first | omega | (show Int32.toInt 1 = 0 ∨ (0 ≤ Int32.toInt place ∧ Int32.toInt place < Int32.toInt (E 5 0)); omega) | (show Int32.toInt 1 = 0 ∨ (0 ≤ Int32.toInt place ∧ Int32.toInt place < Int32.toInt (E 5 0)); simp)), (by first | omega | (show ¬ Int32.toInt 1 = 0 ∨ Int32.toInt place < 0 ∨ Int32.toInt (E 5 0) ≤ Int32.toInt place; omega) | (show ¬ Int32.toInt 1 = 0 ∨ Int32.toInt place < 0 ∨ Int32.toInt (E 5 0) ≤ Int32.toInt place; simp))⟩
theorem hw_X0_has_X0 : ∀ w ∈ wsX00, w ∈ wsX0_has := fun w h => List.mem_cons_of_mem _ (List.mem_append_right _ (h))
abbrev rmX0_has : Room := { frames := 0, cells := 0, slots := 0, locals := 0 }
theorem hd_X0_has : yX0_has.cls = RX0 ∧ yX0_has.cls ≠ "java/lang/invoke/MethodHandle" ∧ yX0_has.cls ≠ "java/lang/invoke/VarHandle" ∧ (parseMethodDescriptor yX0_has.desc).map (fun d => d.parameters.length) = some 1 := by decide +kernel
set_option maxHeartbeats 4000000 in
set_option maxRecDepth 100000 in
theorem c_X0_has (l : Launch) (G : zG_t) (place : Int32) (E : zS_t)  : zCI l G.1 (zty G) yX0_has wsX0_has rmX0_has [.ref (G.2.2 2 0), .int place] (zWE G E) ((mX0_has place E)) (zWE G E) := by
  obtain ⟨X, hE⟩ : ∃ z, mX0_has place E = z := ⟨_, rfl⟩
  rw [hE]
  refine zb_Z (cc := cX0_has) (maxL := 2) (by decide) rfl (Nat.le_of_ble_eq_true rfl) ?_
  intro p e s m args below meth c Q A F hret
  show zW p l e rmX0_has s m args below meth c 0 0 Q G.1 A 2 (zWE G E) [(0, .ref (G.2.2 2 0)), (1, .int place)] 0 []
  have k_0 : Int32.toInt 0 = 0 := by decide
  have k_1 : Int32.toInt 1 = 1 := by decide
  unfold mX0_has at hE
  refine zi_iload_n (pc := 0) F dX0_has_0 1 rfl ?_
  refine zi_if_lt (pc := 1) (tgt := 16) F dX0_has_1 (by decide) (fun c1 => ?_) (fun c1 => ?_)
  · have hE := zite_t hE c1
    have t2 := zt_lt c1
    refine zi_iconst (pc := 16) (v := 0) F dX0_has_16 rfl ?_
    subst hE
    exact hret _ _ dX0_has_17 (znb (Or.inl rfl))
  · have hE := zite_f hE c1
    have t3 := zt_nlt c1
    refine zi_iload_n (pc := 4) F dX0_has_4 1 rfl ?_
    refine zi_aload_n (pc := 5) F dX0_has_5 0 rfl ?_
    refine zi_get (pc := 6) (C := RX0) (T := TX0) (N := 6) (v := .int (E 5 0)) F (hw_X0_has_X0) 0 rfl rfl 5 (by decide) (List.mem_of_getElem? (i := 1) rfl) rfl rfl dX0_has_6 ?_
    refine zi_icmp_ge (pc := 9) (tgt := 16) F dX0_has_9 (by decide) (fun c4 => ?_) (fun c4 => ?_)
    · have hE := zite_t hE c4
      have t5 := zt_le c4
      refine zi_iconst (pc := 16) (v := 0) F dX0_has_16 rfl ?_
      subst hE
      exact hret _ _ dX0_has_17 (znb (Or.inl rfl))
    · have hE := zite_f hE c4
      have t6 := zt_nle c4
      refine zi_iconst (pc := 12) (v := 1) F dX0_has_12 rfl ?_
      refine zi_goto (pc := 13) (tgt := 17) F dX0_has_13 (by decide) ?_
      subst hE
      exact hret _ _ dX0_has_17 (znb (Or.inr rfl))
/-! X0_indexOf -/
def mX0_indexOf (place : Int32) (E : zS_t) : Int32 := zbnd (mX0_has place E) (fun r1 => if r1 = 0 then (-1) else (((E 5 0) - 1) - place))
set_option maxHeartbeats 4000000 in
set_option maxRecDepth 100000 in
theorem pp_X0_indexOf (place : Int32) (E : zS_t) (hIE : zIE E) : ((Int32.toInt (mX0_indexOf place E) = -1 ∧ (Int32.toInt place < 0 ∨ Int32.toInt (E 5 0) ≤ Int32.toInt place)) ∨ (0 ≤ Int32.toInt place ∧ Int32.toInt place < Int32.toInt (E 5 0) ∧ Int32.toInt (mX0_indexOf place E) = Int32.toInt (E 5 0) - 1 - Int32.toInt place)) := by
  obtain ⟨X, hE⟩ : ∃ z, mX0_indexOf place E = z := ⟨_, rfl⟩
  rw [hE]
  have k_m1 : Int32.toInt (-1) = -1 := by decide
  have k_0 : Int32.toInt 0 = 0 := by decide
  have k_1 : Int32.toInt 1 = 1 := by decide
  obtain ⟨⟨i12, i13⟩, hIE_b1⟩ := id hIE
  unfold mX0_indexOf at hE
  have pp4 := pp_X0_has place E 
  obtain ⟨r1, e2⟩ : ∃ z, mX0_has place E = z := ⟨_, rfl⟩
  have hE := zbnd_cut hE e2
  rw [e2] at pp4
  obtain ⟨hbr1, q5, q6⟩ := pp4
  by_cases c7 : r1 = 0
  · have hE := zite_t hE c7
    have t8 := congrArg Int32.toInt c7
    subst hE
    exact (by first | omega | (show (Int32.toInt (-1) = -1 ∧ (Int32.toInt place < 0 ∨ Int32.toInt (E 5 0) ≤ Int32.toInt place)) ∨ (0 ≤ Int32.toInt place ∧ Int32.toInt place < Int32.toInt (E 5 0) ∧ Int32.toInt (-1) = Int32.toInt (E 5 0) - 1 - Int32.toInt place); omega) | (show (Int32.toInt (-1) = -1 ∧ (Int32.toInt place < 0 ∨ Int32.toInt (E 5 0) ≤ Int32.toInt place)) ∨ (0 ≤ Int32.toInt place ∧ Int32.toInt place < Int32.toInt (E 5 0) ∧ Int32.toInt (-1) = Int32.toInt (E 5 0) - 1 - Int32.toInt place); simp))
  · have hE := zite_f hE c7
    have t9 := zt_ne c7
    subst hE
    try have t10 := zt_sub (a := (E 5 0)) (b := 1) (by omega) (by omega)
    try have t11 := zt_sub (a := ((E 5 0) - 1)) (b := place) (by omega) (by omega)
    exact (by first | omega | (show (Int32.toInt (((E 5 0) - 1) - place) = -1 ∧ (Int32.toInt place < 0 ∨ Int32.toInt (E 5 0) ≤ Int32.toInt place)) ∨ (0 ≤ Int32.toInt place ∧ Int32.toInt place < Int32.toInt (E 5 0) ∧ Int32.toInt (((E 5 0) - 1) - place) = Int32.toInt (E 5 0) - 1 - Int32.toInt place); omega) | (show (Int32.toInt (((E 5 0) - 1) - place) = -1 ∧ (Int32.toInt place < 0 ∨ Int32.toInt (E 5 0) ≤ Int32.toInt place)) ∨ (0 ≤ Int32.toInt place ∧ Int32.toInt place < Int32.toInt (E 5 0) ∧ Int32.toInt (((E 5 0) - 1) - place) = Int32.toInt (E 5 0) - 1 - Int32.toInt place); simp))
theorem hw_X0_indexOf_X0 : ∀ w ∈ wsX00, w ∈ wsX0_indexOf := fun w h => List.mem_cons_of_mem _ (List.mem_append_right _ (h))
abbrev rmX0_indexOf : Room := { frames := 1, cells := 0, slots := 0, locals := 21 }
theorem hd_X0_indexOf : yX0_indexOf.cls = RX0 ∧ yX0_indexOf.cls ≠ "java/lang/invoke/MethodHandle" ∧ yX0_indexOf.cls ≠ "java/lang/invoke/VarHandle" ∧ (parseMethodDescriptor yX0_indexOf.desc).map (fun d => d.parameters.length) = some 1 := by decide +kernel
set_option maxHeartbeats 4000000 in
set_option maxRecDepth 100000 in
theorem c_X0_indexOf (l : Launch) (G : zG_t) (place : Int32) (E : zS_t) (hIE : zIE E) : zCI l G.1 (zty G) yX0_indexOf wsX0_indexOf rmX0_indexOf [.ref (G.2.2 2 0), .int place] (zWE G E) ((mX0_indexOf place E)) (zWE G E) := by
  obtain ⟨X, hE⟩ : ∃ z, mX0_indexOf place E = z := ⟨_, rfl⟩
  rw [hE]
  refine zb_I (cc := cX0_indexOf) (maxL := 2) (by decide) rfl (Nat.le_of_ble_eq_true rfl) ?_
  intro p e s m args below meth c Q A F hret
  show zW p l e rmX0_indexOf s m args below meth c 0 0 Q G.1 A 2 (zWE G E) [(0, .ref (G.2.2 2 0)), (1, .int place)] 0 []
  have k_m1 : Int32.toInt (-1) = -1 := by decide
  have k_0 : Int32.toInt 0 = 0 := by decide
  have k_1 : Int32.toInt 1 = 1 := by decide
  obtain ⟨⟨i14, i15⟩, hIE_b1⟩ := id hIE
  unfold mX0_indexOf at hE
  refine zi_aload_n (pc := 0) F dX0_indexOf_0 0 rfl ?_
  refine zi_iload_n (pc := 1) F dX0_indexOf_1 1 rfl ?_
  have hM3 := c_X0_has l G place E 
  have pp4 := pp_X0_has place E 
  obtain ⟨r1, e2⟩ : ∃ z, mX0_has place E = z := ⟨_, rfl⟩
  have hE := zbnd_cut hE e2
  rw [e2] at hM3
  rw [e2] at pp4
  obtain ⟨hbr1, q5, q6⟩ := pp4
  refine zi_callVI (pc := 2) (rest := []) (ws' := zWE G E) F hM3 (cwV 1 F.1.2.2.2.2 gX0_indexOf_X0_has rfl rfl rfl hd_X0_has ⟨Nat.le_of_ble_eq_true rfl, Nat.le_of_ble_eq_true rfl⟩) 0 rfl rfl _ _ (zw_nil _) (zw_nil _).symm rfl rfl (Nat.le_of_ble_eq_true rfl) dX0_indexOf_2 ⟨Nat.zero_le _, Nat.zero_le _⟩ ?_
  refine zi_if_eq (pc := 5) (tgt := 19) F dX0_indexOf_5 (by decide) (fun c7 => ?_) (fun c7 => ?_)
  · have hE := zite_t hE c7
    have t8 := congrArg Int32.toInt c7
    refine zi_iconst (pc := 19) (v := (-1)) F dX0_indexOf_19 rfl ?_
    subst hE
    exact hret _ _ dX0_indexOf_20
  · have hE := zite_f hE c7
    have t9 := zt_ne c7
    refine zi_aload_n (pc := 8) F dX0_indexOf_8 0 rfl ?_
    refine zi_get (pc := 9) (C := RX0) (T := TX0) (N := 6) (v := .int (E 5 0)) F (hw_X0_indexOf_X0) 0 rfl rfl 5 (by decide) (List.mem_of_getElem? (i := 1) rfl) rfl rfl dX0_indexOf_9 ?_
    refine zi_iconst (pc := 12) (v := 1) F dX0_indexOf_12 rfl ?_
    refine zi_isub (pc := 13) F dX0_indexOf_13 ?_
    refine zi_iload_n (pc := 14) F dX0_indexOf_14 1 rfl ?_
    refine zi_isub (pc := 15) F dX0_indexOf_15 ?_
    refine zi_goto (pc := 16) (tgt := 20) F dX0_indexOf_16 (by decide) ?_
    subst hE
    exact hret _ _ dX0_indexOf_20
/-! X0_push -/
def mX0_push (card : Int32) (trigger : Int32) (player : Int32) (target : Int32) (idn : Int32) (E : zS_t) : zS_t := if (E 5 0) < 12 then (zsI (zsF (zsF (zsF (zsF (zsF E 0 (upd (E 0) (E 5 0).toNatClampNeg card)) 1 (upd (E 1) (E 5 0).toNatClampNeg (vp_nar .boolean trigger))) 2 (upd (E 2) (E 5 0).toNatClampNeg player)) 3 (upd (E 3) (E 5 0).toNatClampNeg target)) 4 (upd (E 4) (E 5 0).toNatClampNeg idn)) 5 ((E 5 0) + 1)) else E
set_option maxHeartbeats 4000000 in
set_option maxRecDepth 100000 in
theorem pp_X0_push (card : Int32) (trigger : Int32) (player : Int32) (target : Int32) (idn : Int32) (E : zS_t) (hIE : zIE E) : (zIE (mX0_push card trigger player target idn E)) := by
  obtain ⟨X, hE⟩ : ∃ z, mX0_push card trigger player target idn E = z := ⟨_, rfl⟩
  rw [hE]
  have k_0 : Int32.toInt 0 = 0 := by decide
  have k_1 : Int32.toInt 1 = 1 := by decide
  have k_12 : Int32.toInt 12 = 12 := by decide
  obtain ⟨⟨i5, i6⟩, hIE_b1⟩ := id hIE
  unfold mX0_push at hE
  by_cases c1 : (E 5 0) < 12
  · have hE := zite_t hE c1
    have t2 := zt_lt c1
    subst hE
    try have t3 := zt_add (a := (E 5 0)) (b := 1) (by omega) (by omega)
    exact ⟨⟨by (show (0:Int) ≤ Int32.toInt ((E 5 0) + 1)); omega, by (show Int32.toInt ((E 5 0) + 1) ≤ (12:Int)); omega⟩, (zib_upd hIE_b1 (znar_idem _))⟩
  · have hE := zite_f hE c1
    have t4 := zt_nlt c1
    subst hE
    exact hIE
theorem hw_X0_push_X0 : ∀ w ∈ wsX00, w ∈ wsX0_push := fun w h => List.mem_cons_of_mem _ (List.mem_append_right _ (h))
abbrev rmX0_push : Room := { frames := 0, cells := 0, slots := 0, locals := 0 }
theorem hd_X0_push : yX0_push.cls = RX0 ∧ yX0_push.cls ≠ "java/lang/invoke/MethodHandle" ∧ yX0_push.cls ≠ "java/lang/invoke/VarHandle" ∧ (parseMethodDescriptor yX0_push.desc).map (fun d => d.parameters.length) = some 5 := by decide +kernel
set_option maxHeartbeats 4000000 in
set_option maxRecDepth 100000 in
theorem c_X0_push (l : Launch) (G : zG_t) (card : Int32) (trigger : Int32) (player : Int32) (target : Int32) (idn : Int32) (E : zS_t) (hIE : zIE E) : zCV l G.1 (zty G) yX0_push wsX0_push rmX0_push [.ref (G.2.2 2 0), .int card, .int trigger, .int player, .int target, .int idn] (zWE G E) (zWE G (mX0_push card trigger player target idn E)) := by
  obtain ⟨X, hE⟩ : ∃ z, mX0_push card trigger player target idn E = z := ⟨_, rfl⟩
  rw [hE]
  refine zb_V (cc := cX0_push) (maxL := 6) (by decide) rfl (Nat.le_of_ble_eq_true rfl) ?_
  intro p e s m args below meth c Q A F hret
  show zW p l e rmX0_push s m args below meth c 0 0 Q G.1 A 6 (zWE G E) [(0, .ref (G.2.2 2 0)), (1, .int card), (2, .int trigger), (3, .int player), (4, .int target), (5, .int idn)] 0 []
  have k_0 : Int32.toInt 0 = 0 := by decide
  have k_1 : Int32.toInt 1 = 1 := by decide
  have k_12 : Int32.toInt 12 = 12 := by decide
  obtain ⟨⟨i7, i8⟩, hIE_b1⟩ := id hIE
  unfold mX0_push at hE
  refine zi_aload_n (pc := 0) F dX0_push_0 0 rfl ?_
  refine zi_get (pc := 1) (C := RX0) (T := TX0) (N := 6) (v := .int (E 5 0)) F (hw_X0_push_X0) 0 rfl rfl 5 (by decide) (List.mem_of_getElem? (i := 1) rfl) rfl rfl dX0_push_1 ?_
  refine zi_bipush (pc := 4) (v := 12) F dX0_push_4 rfl ?_
  refine zi_icmp_lt (pc := 6) (tgt := 10) F dX0_push_6 (by decide) (fun c1 => ?_) (fun c1 => ?_)
  · have hE := zite_t hE c1
    have t2 := zt_lt c1
    refine zi_aload_n (pc := 10) F dX0_push_10 0 rfl ?_
    refine zi_get (pc := 11) (C := RX0) (T := TX0) (N := 6) (v := .ref (G.2.2 2 1)) F (hw_X0_push_X0) 0 rfl rfl 0 (by decide) (List.mem_of_getElem? (i := 2) rfl) rfl rfl dX0_push_11 ?_
    refine zi_aload_n (pc := 14) F dX0_push_14 0 rfl ?_
    refine zi_get (pc := 15) (C := RX0) (T := TX0) (N := 6) (v := .int (E 5 0)) F (hw_X0_push_X0) 0 rfl rfl 5 (by decide) (List.mem_of_getElem? (i := 1) rfl) rfl rfl dX0_push_15 ?_
    refine zi_iload_n (pc := 18) F dX0_push_18 1 rfl ?_
    refine zi_iast (pc := 19) (ws' := zWE G (zsF E 0 (upd (E 0) (E 5 0).toNatClampNeg card))) F 1 0 rfl rfl (zin (a := (E 5 0)) (by omega) (by omega)) rfl dX0_push_19 ?_
    refine zi_aload_n (pc := 20) F dX0_push_20 0 rfl ?_
    refine zi_get (pc := 21) (C := RX0) (T := TX0) (N := 6) (v := .ref (G.2.2 2 2)) F (hw_X0_push_X0) 0 rfl rfl 1 (by decide) (List.mem_of_getElem? (i := 3) rfl) rfl rfl dX0_push_21 ?_
    refine zi_aload_n (pc := 24) F dX0_push_24 0 rfl ?_
    refine zi_get (pc := 25) (C := RX0) (T := TX0) (N := 6) (v := .int (E 5 0)) F (hw_X0_push_X0) 0 rfl rfl 5 (by decide) (List.mem_of_getElem? (i := 1) rfl) rfl rfl dX0_push_25 ?_
    refine zi_iload_n (pc := 28) F dX0_push_28 2 rfl ?_
    refine zi_zast (pc := 29) (ws' := zWE G (zsF (zsF E 0 (upd (E 0) (E 5 0).toNatClampNeg card)) 1 (upd (E 1) (E 5 0).toNatClampNeg (vp_nar .boolean trigger)))) F 2 1 rfl rfl (zin (a := (E 5 0)) (by omega) (by omega)) rfl dX0_push_29 ?_
    refine zi_aload_n (pc := 30) F dX0_push_30 0 rfl ?_
    refine zi_get (pc := 31) (C := RX0) (T := TX0) (N := 6) (v := .ref (G.2.2 2 3)) F (hw_X0_push_X0) 0 rfl rfl 2 (by decide) (List.mem_of_getElem? (i := 4) rfl) rfl rfl dX0_push_31 ?_
    refine zi_aload_n (pc := 34) F dX0_push_34 0 rfl ?_
    refine zi_get (pc := 35) (C := RX0) (T := TX0) (N := 6) (v := .int (E 5 0)) F (hw_X0_push_X0) 0 rfl rfl 5 (by decide) (List.mem_of_getElem? (i := 1) rfl) rfl rfl dX0_push_35 ?_
    refine zi_iload_n (pc := 38) F dX0_push_38 3 rfl ?_
    refine zi_iast (pc := 39) (ws' := zWE G (zsF (zsF (zsF E 0 (upd (E 0) (E 5 0).toNatClampNeg card)) 1 (upd (E 1) (E 5 0).toNatClampNeg (vp_nar .boolean trigger))) 2 (upd (E 2) (E 5 0).toNatClampNeg player))) F 3 0 rfl rfl (zin (a := (E 5 0)) (by omega) (by omega)) rfl dX0_push_39 ?_
    refine zi_aload_n (pc := 40) F dX0_push_40 0 rfl ?_
    refine zi_get (pc := 41) (C := RX0) (T := TX0) (N := 6) (v := .ref (G.2.2 2 4)) F (hw_X0_push_X0) 0 rfl rfl 3 (by decide) (List.mem_of_getElem? (i := 5) rfl) rfl rfl dX0_push_41 ?_
    refine zi_aload_n (pc := 44) F dX0_push_44 0 rfl ?_
    refine zi_get (pc := 45) (C := RX0) (T := TX0) (N := 6) (v := .int (E 5 0)) F (hw_X0_push_X0) 0 rfl rfl 5 (by decide) (List.mem_of_getElem? (i := 1) rfl) rfl rfl dX0_push_45 ?_
    refine zi_iload (pc := 48) F dX0_push_48 4 rfl ?_
    refine zi_iast (pc := 50) (ws' := zWE G (zsF (zsF (zsF (zsF E 0 (upd (E 0) (E 5 0).toNatClampNeg card)) 1 (upd (E 1) (E 5 0).toNatClampNeg (vp_nar .boolean trigger))) 2 (upd (E 2) (E 5 0).toNatClampNeg player)) 3 (upd (E 3) (E 5 0).toNatClampNeg target))) F 4 0 rfl rfl (zin (a := (E 5 0)) (by omega) (by omega)) rfl dX0_push_50 ?_
    refine zi_aload_n (pc := 51) F dX0_push_51 0 rfl ?_
    refine zi_get (pc := 52) (C := RX0) (T := TX0) (N := 6) (v := .ref (G.2.2 2 5)) F (hw_X0_push_X0) 0 rfl rfl 4 (by decide) (List.mem_of_getElem? (i := 6) rfl) rfl rfl dX0_push_52 ?_
    refine zi_aload_n (pc := 55) F dX0_push_55 0 rfl ?_
    refine zi_get (pc := 56) (C := RX0) (T := TX0) (N := 6) (v := .int (E 5 0)) F (hw_X0_push_X0) 0 rfl rfl 5 (by decide) (List.mem_of_getElem? (i := 1) rfl) rfl rfl dX0_push_56 ?_
    refine zi_iload (pc := 59) F dX0_push_59 5 rfl ?_
    refine zi_iast (pc := 61) (ws' := zWE G (zsF (zsF (zsF (zsF (zsF E 0 (upd (E 0) (E 5 0).toNatClampNeg card)) 1 (upd (E 1) (E 5 0).toNatClampNeg (vp_nar .boolean trigger))) 2 (upd (E 2) (E 5 0).toNatClampNeg player)) 3 (upd (E 3) (E 5 0).toNatClampNeg target)) 4 (upd (E 4) (E 5 0).toNatClampNeg idn))) F 5 0 rfl rfl (zin (a := (E 5 0)) (by omega) (by omega)) rfl dX0_push_61 ?_
    refine zi_aload_n (pc := 62) F dX0_push_62 0 rfl ?_
    refine zi_dup (pc := 63) F dX0_push_63 rfl ?_
    refine zi_get (pc := 64) (C := RX0) (T := TX0) (N := 6) (v := .int (E 5 0)) F (hw_X0_push_X0) 0 rfl rfl 5 (by decide) (List.mem_of_getElem? (i := 1) rfl) rfl rfl dX0_push_64 ?_
    refine zi_iconst (pc := 67) (v := 1) F dX0_push_67 rfl ?_
    refine zi_iadd (pc := 68) F dX0_push_68 ?_
    refine zi_put (pc := 69) (C := RX0) (T := TX0) (N := 6) (ty := .int) (ws' := zWE G (zsI (zsF (zsF (zsF (zsF (zsF E 0 (upd (E 0) (E 5 0).toNatClampNeg card)) 1 (upd (E 1) (E 5 0).toNatClampNeg (vp_nar .boolean trigger))) 2 (upd (E 2) (E 5 0).toNatClampNeg player)) 3 (upd (E 3) (E 5 0).toNatClampNeg target)) 4 (upd (E 4) (E 5 0).toNatClampNeg idn)) 5 ((E 5 0) + 1))) F (hw_X0_push_X0) tyX0 tyX0_ok nmX0 0 rfl rfl 5 (by decide) (List.mem_of_getElem? (i := 1) rfl) rfl rfl rfl rfl rfl (Nat.le_of_ble_eq_true rfl) rfl dX0_push_69 ?_
    subst hE
    exact hret _ _ dX0_push_72
  · have hE := zite_f hE c1
    have t3 := zt_nlt c1
    subst hE
    exact hret _ _ dX0_push_9
/-! X0_remove -/
def mX0_remove_L25  : Nat → Int32 → zS_t → Int32 × zS_t
  | 0, k2_24, E25 => (k2_24, E25)
  | n26 + 1, k2_24, E25 => if (E25 5 0) ≤ k2_24 then (k2_24, E25) else (zbnd ((k2_24 + 1)) (fun y46 => mX0_remove_L25  n26 y46 (zsF (zsF (zsF (zsF (zsF E25 0 (upd (E25 0) k2_24.toNatClampNeg (E25 0 (k2_24 + 1).toNatClampNeg))) 1 (upd (E25 1) k2_24.toNatClampNeg (vp_nar .boolean (E25 1 (k2_24 + 1).toNatClampNeg)))) 2 (upd (E25 2) k2_24.toNatClampNeg (E25 2 (k2_24 + 1).toNatClampNeg))) 3 (upd (E25 3) k2_24.toNatClampNeg (E25 3 (k2_24 + 1).toNatClampNeg))) 4 (upd (E25 4) k2_24.toNatClampNeg (E25 4 (k2_24 + 1).toNatClampNeg)))))
def mX0_remove (index : Int32) (E : zS_t) : zS_t := if index < 0 then E else (if index < (E 5 0) then (zbnd ((zsI E 5 ((E 5 0) - 1))) (fun E6 => zbnd2 (mX0_remove_L25  13 index E6) (fun k2_50 E51 => E51))) else E)
set_option maxHeartbeats 4000000 in
set_option maxRecDepth 100000 in
theorem pp_X0_remove (index : Int32) (E : zS_t) (hIE : zIE E) : (zIE (mX0_remove index E)) := by
  obtain ⟨X, hE⟩ : ∃ z, mX0_remove index E = z := ⟨_, rfl⟩
  rw [hE]
  have k_0 : Int32.toInt 0 = 0 := by decide
  have k_1 : Int32.toInt 1 = 1 := by decide
  obtain ⟨⟨i60, i61⟩, hIE_b1⟩ := id hIE
  unfold mX0_remove at hE
  by_cases c1 : index < 0
  · have hE := zite_t hE c1
    have t2 := zt_lt c1
    subst hE
    exact hIE
  · have hE := zite_f hE c1
    have t3 := zt_nlt c1
    by_cases c4 : index < (E 5 0)
    · have hE := zite_t hE c4
      have t5 := zt_lt c4
      try have t8 := zt_sub (a := (E 5 0)) (b := 1) (by omega) (by omega)
      have hIE6 : zIE (zsI E 5 ((E 5 0) - 1)) := ⟨⟨by (show (0:Int) ≤ Int32.toInt ((E 5 0) - 1)); omega, by (show Int32.toInt ((E 5 0) - 1) ≤ (12:Int)); omega⟩, hIE_b1⟩
      obtain ⟨E6, e7⟩ : ∃ z, (zsI E 5 ((E 5 0) - 1)) = z := ⟨_, rfl⟩
      have hE := zbnd_cut hE e7
      have t9 : Int32.toInt (E6 5 0) = Int32.toInt ((E 5 0) - 1) := by rw [← e7]; rfl
      rw [e7] at hIE6
      obtain ⟨⟨i10, i11⟩, hIE6_b1⟩ := id hIE6
      have hL25 : ∀ (n26 : Nat) (k2_24 : Int32) (E25 : zS_t), (0 ≤ Int32.toInt k2_24) ∧ (Int32.toInt k2_24 ≤ 12) ∧ (Int32.toInt (E25 5 0) ≤ 11) ∧ (zIE E25) → 13 - Int32.toInt k2_24 ≤ (n26 : Int) → ∀ Y27, mX0_remove_L25  n26 k2_24 E25 = Y27 → (0 ≤ Int32.toInt Y27.1) ∧ (Int32.toInt Y27.1 ≤ 12) ∧ (Int32.toInt ((Y27.2) 5 0) ≤ 11) ∧ (zIE (Y27.2)) := by
        intro n26
        induction n26 with
        | zero =>
          intro k2_24 E25 hI hM9
          obtain ⟨i28, i29, i30, hIE25⟩ := id hI
          obtain ⟨⟨i31, i32⟩, hIE25_b1⟩ := id hIE25
          exact absurd hM9 (by omega)
        | succ n26 ih =>
          intro k2_24 E25 hI hM9 Y27 hE
          obtain ⟨i33, i34, i35, hIE25⟩ := id hI
          obtain ⟨⟨i36, i37⟩, hIE25_b1⟩ := id hIE25
          rw [mX0_remove_L25.eq_2] at hE
          by_cases c38 : (E25 5 0) ≤ k2_24
          · have hE := zite_t hE c38
            have t39 := zt_le c38
            subst hE
            exact ⟨by (show 0 ≤ Int32.toInt k2_24; omega), by (show Int32.toInt k2_24 ≤ 12; omega), by (show Int32.toInt (E25 5 0) ≤ 11; omega), hIE25⟩
          · have hE := zite_f hE c38
            have t40 := zt_nle c38
            try have t41 := zt_add (a := k2_24) (b := 1) (by omega) (by omega)
            try have t42 := zt_add (a := k2_24) (b := 1) (by omega) (by omega)
            try have t43 := zt_add (a := k2_24) (b := 1) (by omega) (by omega)
            try have t44 := zt_add (a := k2_24) (b := 1) (by omega) (by omega)
            try have t45 := zt_add (a := k2_24) (b := 1) (by omega) (by omega)
            try have t48 := zt_add (a := k2_24) (b := 1) (by omega) (by omega)
            obtain ⟨y46, e47⟩ : ∃ z : Int32, (k2_24 + 1) = z := ⟨_, rfl⟩
            have hE := zbnd_cut hE e47
            have t49 := congrArg Int32.toInt e47
            exact ih y46 (zsF (zsF (zsF (zsF (zsF E25 0 (upd (E25 0) k2_24.toNatClampNeg (E25 0 (k2_24 + 1).toNatClampNeg))) 1 (upd (E25 1) k2_24.toNatClampNeg (vp_nar .boolean (E25 1 (k2_24 + 1).toNatClampNeg)))) 2 (upd (E25 2) k2_24.toNatClampNeg (E25 2 (k2_24 + 1).toNatClampNeg))) 3 (upd (E25 3) k2_24.toNatClampNeg (E25 3 (k2_24 + 1).toNatClampNeg))) 4 (upd (E25 4) k2_24.toNatClampNeg (E25 4 (k2_24 + 1).toNatClampNeg))) (⟨by (show 0 ≤ Int32.toInt y46; omega), by (show Int32.toInt y46 ≤ 12; omega), by (show Int32.toInt (E25 5 0) ≤ 11; omega), ⟨⟨by (show (0:Int) ≤ Int32.toInt (E25 5 0)); omega, by (show Int32.toInt (E25 5 0) ≤ (12:Int)); omega⟩, (zib_upd hIE25_b1 (znar_idem _))⟩⟩) (by omega) _ hE
      obtain ⟨⟨k2_50, E51⟩, e52⟩ : ∃ z, mX0_remove_L25  13 index E6 = z := ⟨_, rfl⟩
      have hE := zbnd2_cut hE e52
      have hI53 := hL25 13 index E6 (⟨by (show 0 ≤ Int32.toInt index; omega), by (show Int32.toInt index ≤ 12; omega), by (show Int32.toInt (E6 5 0) ≤ 11; omega), hIE6⟩) (by omega) _ e52
      have hI53 : (0 ≤ Int32.toInt k2_50) ∧ (Int32.toInt k2_50 ≤ 12) ∧ (Int32.toInt (E51 5 0) ≤ 11) ∧ (zIE E51) := hI53
      obtain ⟨i54, i55, i56, hIE51⟩ := id hI53
      obtain ⟨⟨i57, i58⟩, hIE51_b1⟩ := id hIE51
      subst hE
      exact hIE51
    · have hE := zite_f hE c4
      have t59 := zt_nlt c4
      subst hE
      exact hIE
theorem hw_X0_remove_X0 : ∀ w ∈ wsX00, w ∈ wsX0_remove := fun w h => List.mem_cons_of_mem _ (List.mem_append_right _ (h))
abbrev rmX0_remove : Room := { frames := 0, cells := 0, slots := 0, locals := 0 }
theorem hd_X0_remove : yX0_remove.cls = RX0 ∧ yX0_remove.cls ≠ "java/lang/invoke/MethodHandle" ∧ yX0_remove.cls ≠ "java/lang/invoke/VarHandle" ∧ (parseMethodDescriptor yX0_remove.desc).map (fun d => d.parameters.length) = some 1 := by decide +kernel
set_option maxHeartbeats 4000000 in
set_option maxRecDepth 100000 in
theorem c_X0_remove (l : Launch) (G : zG_t) (index : Int32) (E : zS_t) (hIE : zIE E) : zCV l G.1 (zty G) yX0_remove wsX0_remove rmX0_remove [.ref (G.2.2 2 0), .int index] (zWE G E) (zWE G (mX0_remove index E)) := by
  obtain ⟨X, hE⟩ : ∃ z, mX0_remove index E = z := ⟨_, rfl⟩
  rw [hE]
  refine zb_V (cc := cX0_remove) (maxL := 3) (by decide) rfl (Nat.le_of_ble_eq_true rfl) ?_
  intro p e s m args below meth c Q A F hret
  show zW p l e rmX0_remove s m args below meth c 0 0 Q G.1 A 3 (zWE G E) [(0, .ref (G.2.2 2 0)), (1, .int index)] 0 []
  have k_0 : Int32.toInt 0 = 0 := by decide
  have k_1 : Int32.toInt 1 = 1 := by decide
  obtain ⟨⟨i62, i63⟩, hIE_b1⟩ := id hIE
  unfold mX0_remove at hE
  refine zi_iload_n (pc := 0) F dX0_remove_0 1 rfl ?_
  refine zi_if_lt (pc := 1) (tgt := 12) F dX0_remove_1 (by decide) (fun c1 => ?_) (fun c1 => ?_)
  · have hE := zite_t hE c1
    have t2 := zt_lt c1
    subst hE
    exact hret _ _ dX0_remove_12
  · have hE := zite_f hE c1
    have t3 := zt_nlt c1
    refine zi_iload_n (pc := 4) F dX0_remove_4 1 rfl ?_
    refine zi_aload_n (pc := 5) F dX0_remove_5 0 rfl ?_
    refine zi_get (pc := 6) (C := RX0) (T := TX0) (N := 6) (v := .int (E 5 0)) F (hw_X0_remove_X0) 0 rfl rfl 5 (by decide) (List.mem_of_getElem? (i := 1) rfl) rfl rfl dX0_remove_6 ?_
    refine zi_icmp_lt (pc := 9) (tgt := 13) F dX0_remove_9 (by decide) (fun c4 => ?_) (fun c4 => ?_)
    · have hE := zite_t hE c4
      have t5 := zt_lt c4
      refine zi_aload_n (pc := 13) F dX0_remove_13 0 rfl ?_
      refine zi_dup (pc := 14) F dX0_remove_14 rfl ?_
      refine zi_get (pc := 15) (C := RX0) (T := TX0) (N := 6) (v := .int (E 5 0)) F (hw_X0_remove_X0) 0 rfl rfl 5 (by decide) (List.mem_of_getElem? (i := 1) rfl) rfl rfl dX0_remove_15 ?_
      refine zi_iconst (pc := 18) (v := 1) F dX0_remove_18 rfl ?_
      refine zi_isub (pc := 19) F dX0_remove_19 ?_
      refine zi_put (pc := 20) (C := RX0) (T := TX0) (N := 6) (ty := .int) (ws' := zWE G (zsI E 5 ((E 5 0) - 1))) F (hw_X0_remove_X0) tyX0 tyX0_ok nmX0 0 rfl rfl 5 (by decide) (List.mem_of_getElem? (i := 1) rfl) rfl rfl rfl rfl rfl (Nat.le_of_ble_eq_true rfl) rfl dX0_remove_20 ?_
      refine zi_iload_n (pc := 23) F dX0_remove_23 1 rfl ?_
      refine zi_istore_n (pc := 24) (lv' := [(0, .ref (G.2.2 2 0)), (1, .int index), (2, .int index)]) F dX0_remove_24 (by decide) rfl ?_
      try have t8 := zt_sub (a := (E 5 0)) (b := 1) (by omega) (by omega)
      have hIE6 : zIE (zsI E 5 ((E 5 0) - 1)) := ⟨⟨by (show (0:Int) ≤ Int32.toInt ((E 5 0) - 1)); omega, by (show Int32.toInt ((E 5 0) - 1) ≤ (12:Int)); omega⟩, hIE_b1⟩
      refine zi_nameW (w := fun Z9 => zWE G Z9) (S := (zsI E 5 ((E 5 0) - 1))) (fun E6 e7 => ?_)
      have hE := zbnd_cut hE e7
      have t9 : Int32.toInt (E6 5 0) = Int32.toInt ((E 5 0) - 1) := by rw [← e7]; rfl
      rw [e7] at hIE6
      obtain ⟨⟨i10, i11⟩, hIE6_b1⟩ := id hIE6
      have hL25 : ∀ (n26 : Nat) (k2_24 : Int32) (E25 : zS_t), (0 ≤ Int32.toInt k2_24) ∧ (Int32.toInt k2_24 ≤ 12) ∧ (Int32.toInt (E25 5 0) ≤ 11) ∧ (zIE E25) → 13 - Int32.toInt k2_24 ≤ (n26 : Int) → ∀ Y27, mX0_remove_L25  n26 k2_24 E25 = Y27 → (((0 ≤ Int32.toInt Y27.1) ∧ (Int32.toInt Y27.1 ≤ 12) ∧ (Int32.toInt ((Y27.2) 5 0) ≤ 11) ∧ (zIE (Y27.2))) → zW p l e rmX0_remove s m args below meth c 0 0 Q G.1 A 3 (zWE G (Y27.2)) [(0, .ref (G.2.2 2 0)), (1, .int index), (2, .int Y27.1)] 109 []) → zW p l e rmX0_remove s m args below meth c 0 0 Q G.1 A 3 (zWE G E25) [(0, .ref (G.2.2 2 0)), (1, .int index), (2, .int k2_24)] 25 [] := by
        intro n26
        induction n26 with
        | zero =>
          intro k2_24 E25 hI hM9
          obtain ⟨i28, i29, i30, hIE25⟩ := id hI
          obtain ⟨⟨i31, i32⟩, hIE25_b1⟩ := id hIE25
          exact absurd hM9 (by omega)
        | succ n26 ih =>
          intro k2_24 E25 hI hM9 Y27 hE hK
          obtain ⟨i33, i34, i35, hIE25⟩ := id hI
          obtain ⟨⟨i36, i37⟩, hIE25_b1⟩ := id hIE25
          rw [mX0_remove_L25.eq_2] at hE
          refine zi_iload_n (pc := 25) F dX0_remove_25 2 rfl ?_
          refine zi_aload_n (pc := 26) F dX0_remove_26 0 rfl ?_
          refine zi_get (pc := 27) (C := RX0) (T := TX0) (N := 6) (v := .int (E25 5 0)) F (hw_X0_remove_X0) 0 rfl rfl 5 (by decide) (List.mem_of_getElem? (i := 1) rfl) rfl rfl dX0_remove_27 ?_
          refine zi_icmp_ge (pc := 30) (tgt := 109) F dX0_remove_30 (by decide) (fun c38 => ?_) (fun c38 => ?_)
          · have hE := zite_t hE c38
            have t39 := zt_le c38
            subst hE
            refine zi_sub [0, 1, 2] rfl ?_
            exact hK (⟨by (show 0 ≤ Int32.toInt k2_24; omega), by (show Int32.toInt k2_24 ≤ 12; omega), by (show Int32.toInt (E25 5 0) ≤ 11; omega), hIE25⟩)
          · have hE := zite_f hE c38
            have t40 := zt_nle c38
            refine zi_aload_n (pc := 33) F dX0_remove_33 0 rfl ?_
            refine zi_get (pc := 34) (C := RX0) (T := TX0) (N := 6) (v := .ref (G.2.2 2 1)) F (hw_X0_remove_X0) 0 rfl rfl 0 (by decide) (List.mem_of_getElem? (i := 2) rfl) rfl rfl dX0_remove_34 ?_
            refine zi_iload_n (pc := 37) F dX0_remove_37 2 rfl ?_
            refine zi_aload_n (pc := 38) F dX0_remove_38 0 rfl ?_
            refine zi_get (pc := 39) (C := RX0) (T := TX0) (N := 6) (v := .ref (G.2.2 2 1)) F (hw_X0_remove_X0) 0 rfl rfl 0 (by decide) (List.mem_of_getElem? (i := 2) rfl) rfl rfl dX0_remove_39 ?_
            refine zi_iload_n (pc := 42) F dX0_remove_42 2 rfl ?_
            refine zi_iconst (pc := 43) (v := 1) F dX0_remove_43 rfl ?_
            refine zi_iadd (pc := 44) F dX0_remove_44 ?_
            try have t41 := zt_add (a := k2_24) (b := 1) (by omega) (by omega)
            refine zi_iald (pc := 45) (v := (E25 0 (k2_24 + 1).toNatClampNeg)) F 1 0 rfl rfl (zin (a := (k2_24 + 1)) (by omega) (by omega)) rfl dX0_remove_45 ?_
            refine zi_iast (pc := 46) (ws' := zWE G (zsF E25 0 (upd (E25 0) k2_24.toNatClampNeg (E25 0 (k2_24 + 1).toNatClampNeg)))) F 1 0 rfl rfl (zin (a := k2_24) (by omega) (by omega)) rfl dX0_remove_46 ?_
            refine zi_aload_n (pc := 47) F dX0_remove_47 0 rfl ?_
            refine zi_get (pc := 48) (C := RX0) (T := TX0) (N := 6) (v := .ref (G.2.2 2 2)) F (hw_X0_remove_X0) 0 rfl rfl 1 (by decide) (List.mem_of_getElem? (i := 3) rfl) rfl rfl dX0_remove_48 ?_
            refine zi_iload_n (pc := 51) F dX0_remove_51 2 rfl ?_
            refine zi_aload_n (pc := 52) F dX0_remove_52 0 rfl ?_
            refine zi_get (pc := 53) (C := RX0) (T := TX0) (N := 6) (v := .ref (G.2.2 2 2)) F (hw_X0_remove_X0) 0 rfl rfl 1 (by decide) (List.mem_of_getElem? (i := 3) rfl) rfl rfl dX0_remove_53 ?_
            refine zi_iload_n (pc := 56) F dX0_remove_56 2 rfl ?_
            refine zi_iconst (pc := 57) (v := 1) F dX0_remove_57 rfl ?_
            refine zi_iadd (pc := 58) F dX0_remove_58 ?_
            try have t42 := zt_add (a := k2_24) (b := 1) (by omega) (by omega)
            refine zi_zald (pc := 59) (v := (E25 1 (k2_24 + 1).toNatClampNeg)) F 2 1 rfl rfl (zin (a := (k2_24 + 1)) (by omega) (by omega)) rfl dX0_remove_59 ?_
            refine zi_zast (pc := 60) (ws' := zWE G (zsF (zsF E25 0 (upd (E25 0) k2_24.toNatClampNeg (E25 0 (k2_24 + 1).toNatClampNeg))) 1 (upd (E25 1) k2_24.toNatClampNeg (vp_nar .boolean (E25 1 (k2_24 + 1).toNatClampNeg))))) F 2 1 rfl rfl (zin (a := k2_24) (by omega) (by omega)) rfl dX0_remove_60 ?_
            refine zi_aload_n (pc := 61) F dX0_remove_61 0 rfl ?_
            refine zi_get (pc := 62) (C := RX0) (T := TX0) (N := 6) (v := .ref (G.2.2 2 3)) F (hw_X0_remove_X0) 0 rfl rfl 2 (by decide) (List.mem_of_getElem? (i := 4) rfl) rfl rfl dX0_remove_62 ?_
            refine zi_iload_n (pc := 65) F dX0_remove_65 2 rfl ?_
            refine zi_aload_n (pc := 66) F dX0_remove_66 0 rfl ?_
            refine zi_get (pc := 67) (C := RX0) (T := TX0) (N := 6) (v := .ref (G.2.2 2 3)) F (hw_X0_remove_X0) 0 rfl rfl 2 (by decide) (List.mem_of_getElem? (i := 4) rfl) rfl rfl dX0_remove_67 ?_
            refine zi_iload_n (pc := 70) F dX0_remove_70 2 rfl ?_
            refine zi_iconst (pc := 71) (v := 1) F dX0_remove_71 rfl ?_
            refine zi_iadd (pc := 72) F dX0_remove_72 ?_
            try have t43 := zt_add (a := k2_24) (b := 1) (by omega) (by omega)
            refine zi_iald (pc := 73) (v := (E25 2 (k2_24 + 1).toNatClampNeg)) F 3 0 rfl rfl (zin (a := (k2_24 + 1)) (by omega) (by omega)) rfl dX0_remove_73 ?_
            refine zi_iast (pc := 74) (ws' := zWE G (zsF (zsF (zsF E25 0 (upd (E25 0) k2_24.toNatClampNeg (E25 0 (k2_24 + 1).toNatClampNeg))) 1 (upd (E25 1) k2_24.toNatClampNeg (vp_nar .boolean (E25 1 (k2_24 + 1).toNatClampNeg)))) 2 (upd (E25 2) k2_24.toNatClampNeg (E25 2 (k2_24 + 1).toNatClampNeg)))) F 3 0 rfl rfl (zin (a := k2_24) (by omega) (by omega)) rfl dX0_remove_74 ?_
            refine zi_aload_n (pc := 75) F dX0_remove_75 0 rfl ?_
            refine zi_get (pc := 76) (C := RX0) (T := TX0) (N := 6) (v := .ref (G.2.2 2 4)) F (hw_X0_remove_X0) 0 rfl rfl 3 (by decide) (List.mem_of_getElem? (i := 5) rfl) rfl rfl dX0_remove_76 ?_
            refine zi_iload_n (pc := 79) F dX0_remove_79 2 rfl ?_
            refine zi_aload_n (pc := 80) F dX0_remove_80 0 rfl ?_
            refine zi_get (pc := 81) (C := RX0) (T := TX0) (N := 6) (v := .ref (G.2.2 2 4)) F (hw_X0_remove_X0) 0 rfl rfl 3 (by decide) (List.mem_of_getElem? (i := 5) rfl) rfl rfl dX0_remove_81 ?_
            refine zi_iload_n (pc := 84) F dX0_remove_84 2 rfl ?_
            refine zi_iconst (pc := 85) (v := 1) F dX0_remove_85 rfl ?_
            refine zi_iadd (pc := 86) F dX0_remove_86 ?_
            try have t44 := zt_add (a := k2_24) (b := 1) (by omega) (by omega)
            refine zi_iald (pc := 87) (v := (E25 3 (k2_24 + 1).toNatClampNeg)) F 4 0 rfl rfl (zin (a := (k2_24 + 1)) (by omega) (by omega)) rfl dX0_remove_87 ?_
            refine zi_iast (pc := 88) (ws' := zWE G (zsF (zsF (zsF (zsF E25 0 (upd (E25 0) k2_24.toNatClampNeg (E25 0 (k2_24 + 1).toNatClampNeg))) 1 (upd (E25 1) k2_24.toNatClampNeg (vp_nar .boolean (E25 1 (k2_24 + 1).toNatClampNeg)))) 2 (upd (E25 2) k2_24.toNatClampNeg (E25 2 (k2_24 + 1).toNatClampNeg))) 3 (upd (E25 3) k2_24.toNatClampNeg (E25 3 (k2_24 + 1).toNatClampNeg)))) F 4 0 rfl rfl (zin (a := k2_24) (by omega) (by omega)) rfl dX0_remove_88 ?_
            refine zi_aload_n (pc := 89) F dX0_remove_89 0 rfl ?_
            refine zi_get (pc := 90) (C := RX0) (T := TX0) (N := 6) (v := .ref (G.2.2 2 5)) F (hw_X0_remove_X0) 0 rfl rfl 4 (by decide) (List.mem_of_getElem? (i := 6) rfl) rfl rfl dX0_remove_90 ?_
            refine zi_iload_n (pc := 93) F dX0_remove_93 2 rfl ?_
            refine zi_aload_n (pc := 94) F dX0_remove_94 0 rfl ?_
            refine zi_get (pc := 95) (C := RX0) (T := TX0) (N := 6) (v := .ref (G.2.2 2 5)) F (hw_X0_remove_X0) 0 rfl rfl 4 (by decide) (List.mem_of_getElem? (i := 6) rfl) rfl rfl dX0_remove_95 ?_
            refine zi_iload_n (pc := 98) F dX0_remove_98 2 rfl ?_
            refine zi_iconst (pc := 99) (v := 1) F dX0_remove_99 rfl ?_
            refine zi_iadd (pc := 100) F dX0_remove_100 ?_
            try have t45 := zt_add (a := k2_24) (b := 1) (by omega) (by omega)
            refine zi_iald (pc := 101) (v := (E25 4 (k2_24 + 1).toNatClampNeg)) F 5 0 rfl rfl (zin (a := (k2_24 + 1)) (by omega) (by omega)) rfl dX0_remove_101 ?_
            refine zi_iast (pc := 102) (ws' := zWE G (zsF (zsF (zsF (zsF (zsF E25 0 (upd (E25 0) k2_24.toNatClampNeg (E25 0 (k2_24 + 1).toNatClampNeg))) 1 (upd (E25 1) k2_24.toNatClampNeg (vp_nar .boolean (E25 1 (k2_24 + 1).toNatClampNeg)))) 2 (upd (E25 2) k2_24.toNatClampNeg (E25 2 (k2_24 + 1).toNatClampNeg))) 3 (upd (E25 3) k2_24.toNatClampNeg (E25 3 (k2_24 + 1).toNatClampNeg))) 4 (upd (E25 4) k2_24.toNatClampNeg (E25 4 (k2_24 + 1).toNatClampNeg)))) F 5 0 rfl rfl (zin (a := k2_24) (by omega) (by omega)) rfl dX0_remove_102 ?_
            try have t48 := zt_add (a := k2_24) (b := 1) (by omega) (by omega)
            obtain ⟨y46, e47⟩ : ∃ z : Int32, (k2_24 + 1) = z := ⟨_, rfl⟩
            have hE := zbnd_cut hE e47
            have t49 := congrArg Int32.toInt e47
            refine zi_iinc (pc := 103) (lv' := [(0, .ref (G.2.2 2 0)), (1, .int index), (2, .int y46)]) F dX0_remove_103 2 rfl e47 (by decide) rfl ?_
            refine zi_goto (pc := 106) (tgt := 25) F dX0_remove_106 (by decide) ?_
            refine zi_sub [0, 1, 2] rfl ?_
            exact ih y46 (zsF (zsF (zsF (zsF (zsF E25 0 (upd (E25 0) k2_24.toNatClampNeg (E25 0 (k2_24 + 1).toNatClampNeg))) 1 (upd (E25 1) k2_24.toNatClampNeg (vp_nar .boolean (E25 1 (k2_24 + 1).toNatClampNeg)))) 2 (upd (E25 2) k2_24.toNatClampNeg (E25 2 (k2_24 + 1).toNatClampNeg))) 3 (upd (E25 3) k2_24.toNatClampNeg (E25 3 (k2_24 + 1).toNatClampNeg))) 4 (upd (E25 4) k2_24.toNatClampNeg (E25 4 (k2_24 + 1).toNatClampNeg))) (⟨by (show 0 ≤ Int32.toInt y46; omega), by (show Int32.toInt y46 ≤ 12; omega), by (show Int32.toInt (E25 5 0) ≤ 11; omega), ⟨⟨by (show (0:Int) ≤ Int32.toInt (E25 5 0)); omega, by (show Int32.toInt (E25 5 0) ≤ (12:Int)); omega⟩, (zib_upd hIE25_b1 (znar_idem _))⟩⟩) (by omega) _ hE hK
      obtain ⟨⟨k2_50, E51⟩, e52⟩ : ∃ z, mX0_remove_L25  13 index E6 = z := ⟨_, rfl⟩
      have hE := zbnd2_cut hE e52
      refine hL25 13 index E6 (⟨by (show 0 ≤ Int32.toInt index; omega), by (show Int32.toInt index ≤ 12; omega), by (show Int32.toInt (E6 5 0) ≤ 11; omega), hIE6⟩) (by omega) _ e52 (fun hI53 => ?_)
      have hI53 : (0 ≤ Int32.toInt k2_50) ∧ (Int32.toInt k2_50 ≤ 12) ∧ (Int32.toInt (E51 5 0) ≤ 11) ∧ (zIE E51) := hI53
      obtain ⟨i54, i55, i56, hIE51⟩ := id hI53
      obtain ⟨⟨i57, i58⟩, hIE51_b1⟩ := id hIE51
      show zW p l e rmX0_remove s m args below meth c 0 0 Q G.1 A 3 (zWE G E51) [(0, .ref (G.2.2 2 0)), (1, .int index), (2, .int k2_50)] 109 []
      subst hE
      exact hret _ _ dX0_remove_109
    · have hE := zite_f hE c4
      have t59 := zt_nlt c4
      subst hE
      exact hret _ _ dX0_remove_12
/-! X0_placeOf -/
def mX0_placeOf_L2 (idn : Int32) (E : zS_t) : Nat → Int32 → Int32
  | 0, k2_11 => 0
  | n12 + 1, k2_11 => if (E 5 0) ≤ k2_11 then (-1) else (if (E 4 k2_11.toNatClampNeg) = idn then (((E 5 0) - 1) - k2_11) else (zbnd ((k2_11 + 1)) (fun y23 => mX0_placeOf_L2 idn E n12 y23)))
def mX0_placeOf (idn : Int32) (E : zS_t) : Int32 := mX0_placeOf_L2 idn E 13 0
theorem hw_X0_placeOf_X0 : ∀ w ∈ wsX00, w ∈ wsX0_placeOf := fun w h => List.mem_cons_of_mem _ (List.mem_append_right _ (h))
abbrev rmX0_placeOf : Room := { frames := 0, cells := 0, slots := 0, locals := 0 }
theorem hd_X0_placeOf : yX0_placeOf.cls = RX0 ∧ yX0_placeOf.cls ≠ "java/lang/invoke/MethodHandle" ∧ yX0_placeOf.cls ≠ "java/lang/invoke/VarHandle" ∧ (parseMethodDescriptor yX0_placeOf.desc).map (fun d => d.parameters.length) = some 1 := by decide +kernel
set_option maxHeartbeats 4000000 in
set_option maxRecDepth 100000 in
theorem c_X0_placeOf (l : Launch) (G : zG_t) (idn : Int32) (E : zS_t) (hIE : zIE E) : zCI l G.1 (zty G) yX0_placeOf wsX0_placeOf rmX0_placeOf [.ref (G.2.2 2 0), .int idn] (zWE G E) ((mX0_placeOf idn E)) (zWE G E) := by
  obtain ⟨X, hE⟩ : ∃ z, mX0_placeOf idn E = z := ⟨_, rfl⟩
  rw [hE]
  refine zb_I (cc := cX0_placeOf) (maxL := 3) (by decide) rfl (Nat.le_of_ble_eq_true rfl) ?_
  intro p e s m args below meth c Q A F hret
  show zW p l e rmX0_placeOf s m args below meth c 0 0 Q G.1 A 3 (zWE G E) [(0, .ref (G.2.2 2 0)), (1, .int idn)] 0 []
  have k_m1 : Int32.toInt (-1) = -1 := by decide
  have k_0 : Int32.toInt 0 = 0 := by decide
  have k_1 : Int32.toInt 1 = 1 := by decide
  obtain ⟨⟨i28, i29⟩, hIE_b1⟩ := id hIE
  unfold mX0_placeOf at hE
  refine zi_iconst (pc := 0) (v := 0) F dX0_placeOf_0 rfl ?_
  refine zi_istore_n (pc := 1) (lv' := [(0, .ref (G.2.2 2 0)), (1, .int idn), (2, .int 0)]) F dX0_placeOf_1 (by decide) rfl ?_
  have hL2 : ∀ (n12 : Nat) (k2_11 : Int32), (0 ≤ Int32.toInt k2_11) ∧ (Int32.toInt k2_11 ≤ 12) → 13 - Int32.toInt k2_11 ≤ (n12 : Int) → mX0_placeOf_L2 idn E n12 k2_11 = X → zW p l e rmX0_placeOf s m args below meth c 0 0 Q G.1 A 3 (zWE G E) [(0, .ref (G.2.2 2 0)), (1, .int idn), (2, .int k2_11)] 2 [] := by
    intro n12
    induction n12 with
    | zero =>
      intro k2_11 hI hM9
      obtain ⟨i14, i15⟩ := id hI
      exact absurd hM9 (by omega)
    | succ n12 ih =>
      intro k2_11 hI hM9 hE
      obtain ⟨i16, i17⟩ := id hI
      rw [mX0_placeOf_L2.eq_2] at hE
      refine zi_iload_n (pc := 2) F dX0_placeOf_2 2 rfl ?_
      refine zi_aload_n (pc := 3) F dX0_placeOf_3 0 rfl ?_
      refine zi_get (pc := 4) (C := RX0) (T := TX0) (N := 6) (v := .int (E 5 0)) F (hw_X0_placeOf_X0) 0 rfl rfl 5 (by decide) (List.mem_of_getElem? (i := 1) rfl) rfl rfl dX0_placeOf_4 ?_
      refine zi_icmp_ge (pc := 7) (tgt := 35) F dX0_placeOf_7 (by decide) (fun c18 => ?_) (fun c18 => ?_)
      · have hE := zite_t hE c18
        have t19 := zt_le c18
        refine zi_iconst (pc := 35) (v := (-1)) F dX0_placeOf_35 rfl ?_
        subst hE
        exact hret _ _ dX0_placeOf_36
      · have hE := zite_f hE c18
        have t20 := zt_nle c18
        refine zi_aload_n (pc := 10) F dX0_placeOf_10 0 rfl ?_
        refine zi_get (pc := 11) (C := RX0) (T := TX0) (N := 6) (v := .ref (G.2.2 2 5)) F (hw_X0_placeOf_X0) 0 rfl rfl 4 (by decide) (List.mem_of_getElem? (i := 2) rfl) rfl rfl dX0_placeOf_11 ?_
        refine zi_iload_n (pc := 14) F dX0_placeOf_14 2 rfl ?_
        refine zi_iald (pc := 15) (v := (E 4 k2_11.toNatClampNeg)) F 5 0 rfl rfl (zin (a := k2_11) (by omega) (by omega)) rfl dX0_placeOf_15 ?_
        refine zi_iload_n (pc := 16) F dX0_placeOf_16 1 rfl ?_
        refine zi_icmp_ne (pc := 17) (tgt := 29) F dX0_placeOf_17 (by decide) (fun c21 => ?_) (fun c21 => ?_)
        · have hE := zite_f hE c21
          have t22 := zt_ne c21
          try have t25 := zt_add (a := k2_11) (b := 1) (by omega) (by omega)
          obtain ⟨y23, e24⟩ : ∃ z : Int32, (k2_11 + 1) = z := ⟨_, rfl⟩
          have hE := zbnd_cut hE e24
          have t26 := congrArg Int32.toInt e24
          refine zi_iinc (pc := 29) (lv' := [(0, .ref (G.2.2 2 0)), (1, .int idn), (2, .int y23)]) F dX0_placeOf_29 2 rfl e24 (by decide) rfl ?_
          refine zi_goto (pc := 32) (tgt := 2) F dX0_placeOf_32 (by decide) ?_
          refine zi_sub [0, 1, 2] rfl ?_
          exact ih y23 (⟨by (show 0 ≤ Int32.toInt y23; omega), by (show Int32.toInt y23 ≤ 12; omega)⟩) (by omega) hE
        · have hE := zite_t hE c21
          have t27 := congrArg Int32.toInt c21
          refine zi_aload_n (pc := 20) F dX0_placeOf_20 0 rfl ?_
          refine zi_get (pc := 21) (C := RX0) (T := TX0) (N := 6) (v := .int (E 5 0)) F (hw_X0_placeOf_X0) 0 rfl rfl 5 (by decide) (List.mem_of_getElem? (i := 1) rfl) rfl rfl dX0_placeOf_21 ?_
          refine zi_iconst (pc := 24) (v := 1) F dX0_placeOf_24 rfl ?_
          refine zi_isub (pc := 25) F dX0_placeOf_25 ?_
          refine zi_iload_n (pc := 26) F dX0_placeOf_26 2 rfl ?_
          refine zi_isub (pc := 27) F dX0_placeOf_27 ?_
          subst hE
          exact hret _ _ dX0_placeOf_28
  exact hL2 13 0 (⟨by (show 0 ≤ Int32.toInt 0; omega), by (show Int32.toInt 0 ≤ 12; omega)⟩) (by omega) hE
