/-! X2_has -/
def mX2_has (place : Int32) (T : zS_t) : Int32 := if place < 0 then 0 else (if (T 4 0) ≤ place then 0 else 1)
set_option maxHeartbeats 4000000 in
set_option maxRecDepth 100000 in
theorem pp_X2_has (place : Int32) (T : zS_t)  : ((mX2_has place T) = 0 ∨ (mX2_has place T) = 1) ∧ (Int32.toInt (mX2_has place T) = 0 ∨ (0 ≤ Int32.toInt place ∧ Int32.toInt place < Int32.toInt (T 4 0))) ∧ (¬ Int32.toInt (mX2_has place T) = 0 ∨ Int32.toInt place < 0 ∨ Int32.toInt (T 4 0) ≤ Int32.toInt place) := by
  obtain ⟨X, hE⟩ : ∃ z, mX2_has place T = z := ⟨_, rfl⟩
  rw [hE]
  have k_0 : Int32.toInt 0 = 0 := by decide
  have k_1 : Int32.toInt 1 = 1 := by decide
  unfold mX2_has at hE
  by_cases c1 : place < 0
  · have hE := zite_t hE c1
    have t2 := zt_lt c1
    subst hE
    exact ⟨Or.inl rfl, (by first | omega | (show Int32.toInt 0 = 0 ∨ (0 ≤ Int32.toInt place ∧ Int32.toInt place < Int32.toInt (T 4 0)); omega) | (show Int32.toInt 0 = 0 ∨ (0 ≤ Int32.toInt place ∧ Int32.toInt place < Int32.toInt (T 4 0)); simp)), (by first | omega | (show ¬ Int32.toInt 0 = 0 ∨ Int32.toInt place < 0 ∨ Int32.toInt (T 4 0) ≤ Int32.toInt place; omega) | (show ¬ Int32.toInt 0 = 0 ∨ Int32.toInt place < 0 ∨ Int32.toInt (T 4 0) ≤ Int32.toInt place; simp))⟩
  · have hE := zite_f hE c1
    have t3 := zt_nlt c1
    by_cases c4 : (T 4 0) ≤ place
    · have hE := zite_t hE c4
      have t5 := zt_le c4
      subst hE
      exact ⟨Or.inl rfl, (by first | omega | (show Int32.toInt 0 = 0 ∨ (0 ≤ Int32.toInt place ∧ Int32.toInt place < Int32.toInt (T 4 0)); omega) | (show Int32.toInt 0 = 0 ∨ (0 ≤ Int32.toInt place ∧ Int32.toInt place < Int32.toInt (T 4 0)); simp)), (by first | omega | (show ¬ Int32.toInt 0 = 0 ∨ Int32.toInt place < 0 ∨ Int32.toInt (T 4 0) ≤ Int32.toInt place; omega) | (show ¬ Int32.toInt 0 = 0 ∨ Int32.toInt place < 0 ∨ Int32.toInt (T 4 0) ≤ Int32.toInt place; simp))⟩
    · have hE := zite_f hE c4
      have t6 := zt_nle c4
      subst hE
      exact ⟨Or.inr rfl, (by first | omega | (show Int32.toInt 1 = 0 ∨ (0 ≤ Int32.toInt place ∧ Int32.toInt place < Int32.toInt (T 4 0)); omega) | (show Int32.toInt 1 = 0 ∨ (0 ≤ Int32.toInt place ∧ Int32.toInt place < Int32.toInt (T 4 0)); simp)), (by first | omega | (show ¬ Int32.toInt 1 = 0 ∨ Int32.toInt place < 0 ∨ Int32.toInt (T 4 0) ≤ Int32.toInt place; omega) | (show ¬ Int32.toInt 1 = 0 ∨ Int32.toInt place < 0 ∨ Int32.toInt (T 4 0) ≤ Int32.toInt place; simp))⟩
theorem hw_X2_has_X2 : ∀ w ∈ wsX20, w ∈ wsX2_has := fun w h => List.mem_cons_of_mem _ (List.mem_append_right _ (h))
abbrev rmX2_has : Room := { frames := 0, cells := 0, slots := 0, locals := 0 }
theorem hd_X2_has : yX2_has.cls = RX2 ∧ yX2_has.cls ≠ "java/lang/invoke/MethodHandle" ∧ yX2_has.cls ≠ "java/lang/invoke/VarHandle" ∧ (parseMethodDescriptor yX2_has.desc).map (fun d => d.parameters.length) = some 1 := by decide +kernel
set_option maxHeartbeats 4000000 in
set_option maxRecDepth 100000 in
theorem c_X2_has (l : Launch) (G : zG_t) (place : Int32) (T : zS_t)  : zCI l G.1 (zty G) yX2_has wsX2_has rmX2_has [.ref (G.2.2 1 0), .int place] (zWT G T) ((mX2_has place T)) (zWT G T) := by
  obtain ⟨X, hE⟩ : ∃ z, mX2_has place T = z := ⟨_, rfl⟩
  rw [hE]
  refine zb_Z (cc := cX2_has) (maxL := 2) (by decide) rfl (Nat.le_of_ble_eq_true rfl) ?_
  intro p e s m args below meth c Q A F hret
  show zW p l e rmX2_has s m args below meth c 0 0 Q G.1 A 2 (zWT G T) [(0, .ref (G.2.2 1 0)), (1, .int place)] 0 []
  have k_0 : Int32.toInt 0 = 0 := by decide
  have k_1 : Int32.toInt 1 = 1 := by decide
  unfold mX2_has at hE
  refine zi_iload_n (pc := 0) F dX2_has_0 1 rfl ?_
  refine zi_if_lt (pc := 1) (tgt := 16) F dX2_has_1 (by decide) (fun c1 => ?_) (fun c1 => ?_)
  · have hE := zite_t hE c1
    have t2 := zt_lt c1
    refine zi_iconst (pc := 16) (v := 0) F dX2_has_16 rfl ?_
    subst hE
    exact hret _ _ dX2_has_17 (znb (Or.inl rfl))
  · have hE := zite_f hE c1
    have t3 := zt_nlt c1
    refine zi_iload_n (pc := 4) F dX2_has_4 1 rfl ?_
    refine zi_aload_n (pc := 5) F dX2_has_5 0 rfl ?_
    refine zi_get (pc := 6) (C := RX2) (T := TX2) (N := 5) (v := .int (T 4 0)) F (hw_X2_has_X2) 0 rfl rfl 4 (by decide) (List.mem_of_getElem? (i := 1) rfl) rfl rfl dX2_has_6 ?_
    refine zi_icmp_ge (pc := 9) (tgt := 16) F dX2_has_9 (by decide) (fun c4 => ?_) (fun c4 => ?_)
    · have hE := zite_t hE c4
      have t5 := zt_le c4
      refine zi_iconst (pc := 16) (v := 0) F dX2_has_16 rfl ?_
      subst hE
      exact hret _ _ dX2_has_17 (znb (Or.inl rfl))
    · have hE := zite_f hE c4
      have t6 := zt_nle c4
      refine zi_iconst (pc := 12) (v := 1) F dX2_has_12 rfl ?_
      refine zi_goto (pc := 13) (tgt := 17) F dX2_has_13 (by decide) ?_
      subst hE
      exact hret _ _ dX2_has_17 (znb (Or.inr rfl))
/-! X2_add -/
def mX2_add (card : Int32) (player : Int32) (target : Int32) (idn : Int32) (T : zS_t) : Int32 × zS_t := if (T 4 0) < 10 then (1, (zsI (zsF (zsF (zsF (zsF T 0 (upd (T 0) (T 4 0).toNatClampNeg card)) 1 (upd (T 1) (T 4 0).toNatClampNeg player)) 2 (upd (T 2) (T 4 0).toNatClampNeg target)) 3 (upd (T 3) (T 4 0).toNatClampNeg idn)) 4 ((T 4 0) + 1))) else (0, T)
set_option maxHeartbeats 4000000 in
set_option maxRecDepth 100000 in
theorem pp_X2_add (card : Int32) (player : Int32) (target : Int32) (idn : Int32) (T : zS_t) (hIT : zIT T) : ((mX2_add card player target idn T).1 = 0 ∨ (mX2_add card player target idn T).1 = 1) ∧ (zIT ((mX2_add card player target idn T).2)) := by
  obtain ⟨X, hE⟩ : ∃ z, mX2_add card player target idn T = z := ⟨_, rfl⟩
  rw [hE]
  have k_0 : Int32.toInt 0 = 0 := by decide
  have k_1 : Int32.toInt 1 = 1 := by decide
  have k_10 : Int32.toInt 10 = 10 := by decide
  obtain ⟨i5, i6⟩ := id hIT
  unfold mX2_add at hE
  by_cases c1 : (T 4 0) < 10
  · have hE := zite_t hE c1
    have t2 := zt_lt c1
    subst hE
    try have t3 := zt_add (a := (T 4 0)) (b := 1) (by omega) (by omega)
    exact ⟨Or.inr rfl, ⟨by (show (0:Int) ≤ Int32.toInt ((T 4 0) + 1)); omega, by (show Int32.toInt ((T 4 0) + 1) ≤ (10:Int)); omega⟩⟩
  · have hE := zite_f hE c1
    have t4 := zt_nlt c1
    subst hE
    exact ⟨Or.inl rfl, hIT⟩
theorem hw_X2_add_X2 : ∀ w ∈ wsX20, w ∈ wsX2_add := fun w h => List.mem_cons_of_mem _ (List.mem_append_right _ (h))
abbrev rmX2_add : Room := { frames := 0, cells := 0, slots := 0, locals := 0 }
theorem hd_X2_add : yX2_add.cls = RX2 ∧ yX2_add.cls ≠ "java/lang/invoke/MethodHandle" ∧ yX2_add.cls ≠ "java/lang/invoke/VarHandle" ∧ (parseMethodDescriptor yX2_add.desc).map (fun d => d.parameters.length) = some 4 := by decide +kernel
set_option maxHeartbeats 4000000 in
set_option maxRecDepth 100000 in
theorem c_X2_add (l : Launch) (G : zG_t) (card : Int32) (player : Int32) (target : Int32) (idn : Int32) (T : zS_t) (hIT : zIT T) : zCI l G.1 (zty G) yX2_add wsX2_add rmX2_add [.ref (G.2.2 1 0), .int card, .int player, .int target, .int idn] (zWT G T) ((mX2_add card player target idn T).1) (zWT G ((mX2_add card player target idn T).2)) := by
  obtain ⟨X, hE⟩ : ∃ z, mX2_add card player target idn T = z := ⟨_, rfl⟩
  rw [hE]
  refine zb_Z (cc := cX2_add) (maxL := 5) (by decide) rfl (Nat.le_of_ble_eq_true rfl) ?_
  intro p e s m args below meth c Q A F hret
  show zW p l e rmX2_add s m args below meth c 0 0 Q G.1 A 5 (zWT G T) [(0, .ref (G.2.2 1 0)), (1, .int card), (2, .int player), (3, .int target), (4, .int idn)] 0 []
  have k_0 : Int32.toInt 0 = 0 := by decide
  have k_1 : Int32.toInt 1 = 1 := by decide
  have k_10 : Int32.toInt 10 = 10 := by decide
  obtain ⟨i7, i8⟩ := id hIT
  unfold mX2_add at hE
  refine zi_aload_n (pc := 0) F dX2_add_0 0 rfl ?_
  refine zi_get (pc := 1) (C := RX2) (T := TX2) (N := 5) (v := .int (T 4 0)) F (hw_X2_add_X2) 0 rfl rfl 4 (by decide) (List.mem_of_getElem? (i := 1) rfl) rfl rfl dX2_add_1 ?_
  refine zi_bipush (pc := 4) (v := 10) F dX2_add_4 rfl ?_
  refine zi_icmp_lt (pc := 6) (tgt := 11) F dX2_add_6 (by decide) (fun c1 => ?_) (fun c1 => ?_)
  · have hE := zite_t hE c1
    have t2 := zt_lt c1
    refine zi_aload_n (pc := 11) F dX2_add_11 0 rfl ?_
    refine zi_get (pc := 12) (C := RX2) (T := TX2) (N := 5) (v := .ref (G.2.2 1 1)) F (hw_X2_add_X2) 0 rfl rfl 0 (by decide) (List.mem_of_getElem? (i := 2) rfl) rfl rfl dX2_add_12 ?_
    refine zi_aload_n (pc := 15) F dX2_add_15 0 rfl ?_
    refine zi_get (pc := 16) (C := RX2) (T := TX2) (N := 5) (v := .int (T 4 0)) F (hw_X2_add_X2) 0 rfl rfl 4 (by decide) (List.mem_of_getElem? (i := 1) rfl) rfl rfl dX2_add_16 ?_
    refine zi_iload_n (pc := 19) F dX2_add_19 1 rfl ?_
    refine zi_iast (pc := 20) (ws' := zWT G (zsF T 0 (upd (T 0) (T 4 0).toNatClampNeg card))) F 1 0 rfl rfl (zin (a := (T 4 0)) (by omega) (by omega)) rfl dX2_add_20 ?_
    refine zi_aload_n (pc := 21) F dX2_add_21 0 rfl ?_
    refine zi_get (pc := 22) (C := RX2) (T := TX2) (N := 5) (v := .ref (G.2.2 1 2)) F (hw_X2_add_X2) 0 rfl rfl 1 (by decide) (List.mem_of_getElem? (i := 3) rfl) rfl rfl dX2_add_22 ?_
    refine zi_aload_n (pc := 25) F dX2_add_25 0 rfl ?_
    refine zi_get (pc := 26) (C := RX2) (T := TX2) (N := 5) (v := .int (T 4 0)) F (hw_X2_add_X2) 0 rfl rfl 4 (by decide) (List.mem_of_getElem? (i := 1) rfl) rfl rfl dX2_add_26 ?_
    refine zi_iload_n (pc := 29) F dX2_add_29 2 rfl ?_
    refine zi_iast (pc := 30) (ws' := zWT G (zsF (zsF T 0 (upd (T 0) (T 4 0).toNatClampNeg card)) 1 (upd (T 1) (T 4 0).toNatClampNeg player))) F 2 0 rfl rfl (zin (a := (T 4 0)) (by omega) (by omega)) rfl dX2_add_30 ?_
    refine zi_aload_n (pc := 31) F dX2_add_31 0 rfl ?_
    refine zi_get (pc := 32) (C := RX2) (T := TX2) (N := 5) (v := .ref (G.2.2 1 3)) F (hw_X2_add_X2) 0 rfl rfl 2 (by decide) (List.mem_of_getElem? (i := 4) rfl) rfl rfl dX2_add_32 ?_
    refine zi_aload_n (pc := 35) F dX2_add_35 0 rfl ?_
    refine zi_get (pc := 36) (C := RX2) (T := TX2) (N := 5) (v := .int (T 4 0)) F (hw_X2_add_X2) 0 rfl rfl 4 (by decide) (List.mem_of_getElem? (i := 1) rfl) rfl rfl dX2_add_36 ?_
    refine zi_iload_n (pc := 39) F dX2_add_39 3 rfl ?_
    refine zi_iast (pc := 40) (ws' := zWT G (zsF (zsF (zsF T 0 (upd (T 0) (T 4 0).toNatClampNeg card)) 1 (upd (T 1) (T 4 0).toNatClampNeg player)) 2 (upd (T 2) (T 4 0).toNatClampNeg target))) F 3 0 rfl rfl (zin (a := (T 4 0)) (by omega) (by omega)) rfl dX2_add_40 ?_
    refine zi_aload_n (pc := 41) F dX2_add_41 0 rfl ?_
    refine zi_get (pc := 42) (C := RX2) (T := TX2) (N := 5) (v := .ref (G.2.2 1 4)) F (hw_X2_add_X2) 0 rfl rfl 3 (by decide) (List.mem_of_getElem? (i := 5) rfl) rfl rfl dX2_add_42 ?_
    refine zi_aload_n (pc := 45) F dX2_add_45 0 rfl ?_
    refine zi_get (pc := 46) (C := RX2) (T := TX2) (N := 5) (v := .int (T 4 0)) F (hw_X2_add_X2) 0 rfl rfl 4 (by decide) (List.mem_of_getElem? (i := 1) rfl) rfl rfl dX2_add_46 ?_
    refine zi_iload (pc := 49) F dX2_add_49 4 rfl ?_
    refine zi_iast (pc := 51) (ws' := zWT G (zsF (zsF (zsF (zsF T 0 (upd (T 0) (T 4 0).toNatClampNeg card)) 1 (upd (T 1) (T 4 0).toNatClampNeg player)) 2 (upd (T 2) (T 4 0).toNatClampNeg target)) 3 (upd (T 3) (T 4 0).toNatClampNeg idn))) F 4 0 rfl rfl (zin (a := (T 4 0)) (by omega) (by omega)) rfl dX2_add_51 ?_
    refine zi_aload_n (pc := 52) F dX2_add_52 0 rfl ?_
    refine zi_dup (pc := 53) F dX2_add_53 rfl ?_
    refine zi_get (pc := 54) (C := RX2) (T := TX2) (N := 5) (v := .int (T 4 0)) F (hw_X2_add_X2) 0 rfl rfl 4 (by decide) (List.mem_of_getElem? (i := 1) rfl) rfl rfl dX2_add_54 ?_
    refine zi_iconst (pc := 57) (v := 1) F dX2_add_57 rfl ?_
    refine zi_iadd (pc := 58) F dX2_add_58 ?_
    refine zi_put (pc := 59) (C := RX2) (T := TX2) (N := 5) (ty := .int) (ws' := zWT G (zsI (zsF (zsF (zsF (zsF T 0 (upd (T 0) (T 4 0).toNatClampNeg card)) 1 (upd (T 1) (T 4 0).toNatClampNeg player)) 2 (upd (T 2) (T 4 0).toNatClampNeg target)) 3 (upd (T 3) (T 4 0).toNatClampNeg idn)) 4 ((T 4 0) + 1))) F (hw_X2_add_X2) tyX2 tyX2_ok nmX2 0 rfl rfl 4 (by decide) (List.mem_of_getElem? (i := 1) rfl) rfl rfl rfl rfl rfl (Nat.le_of_ble_eq_true rfl) rfl dX2_add_59 ?_
    refine zi_iconst (pc := 62) (v := 1) F dX2_add_62 rfl ?_
    subst hE
    exact hret _ _ dX2_add_63 (znb (Or.inr rfl))
  · have hE := zite_f hE c1
    have t3 := zt_nlt c1
    refine zi_iconst (pc := 9) (v := 0) F dX2_add_9 rfl ?_
    subst hE
    exact hret _ _ dX2_add_10 (znb (Or.inl rfl))
/-! X2_remove -/
def mX2_remove_L22  : Nat → Int32 → zS_t → Int32 × zS_t
  | 0, k2_26, T27 => (k2_26, T27)
  | n28 + 1, k2_26, T27 => if (T27 4 0) ≤ k2_26 then (k2_26, T27) else (zbnd ((k2_26 + 1)) (fun y47 => mX2_remove_L22  n28 y47 (zsF (zsF (zsF (zsF T27 0 (upd (T27 0) k2_26.toNatClampNeg (T27 0 (k2_26 + 1).toNatClampNeg))) 1 (upd (T27 1) k2_26.toNatClampNeg (T27 1 (k2_26 + 1).toNatClampNeg))) 2 (upd (T27 2) k2_26.toNatClampNeg (T27 2 (k2_26 + 1).toNatClampNeg))) 3 (upd (T27 3) k2_26.toNatClampNeg (T27 3 (k2_26 + 1).toNatClampNeg)))))
def mX2_remove (place : Int32) (T : zS_t) : Int32 × zS_t := zbnd (mX2_has place T) (fun r1 => if r1 = 0 then (0, T) else (zbnd ((zsI T 4 ((T 4 0) - 1))) (fun T9 => zbnd2 (mX2_remove_L22  11 place T9) (fun k2_51 T52 => (1, T52)))))
set_option maxHeartbeats 4000000 in
set_option maxRecDepth 100000 in
theorem pp_X2_remove (place : Int32) (T : zS_t) (hIT : zIT T) : ((mX2_remove place T).1 = 0 ∨ (mX2_remove place T).1 = 1) ∧ (zIT ((mX2_remove place T).2)) := by
  obtain ⟨X, hE⟩ : ∃ z, mX2_remove place T = z := ⟨_, rfl⟩
  rw [hE]
  have k_0 : Int32.toInt 0 = 0 := by decide
  have k_1 : Int32.toInt 1 = 1 := by decide
  obtain ⟨i61, i62⟩ := id hIT
  unfold mX2_remove at hE
  have pp4 := pp_X2_has place T 
  obtain ⟨r1, e2⟩ : ∃ z, mX2_has place T = z := ⟨_, rfl⟩
  have hE := zbnd_cut hE e2
  rw [e2] at pp4
  obtain ⟨hbr1, q5, q6⟩ := pp4
  by_cases c7 : r1 = 0
  · have hE := zite_t hE c7
    have t8 := congrArg Int32.toInt c7
    subst hE
    exact ⟨Or.inl rfl, hIT⟩
  · have hE := zite_f hE c7
    have t9 := zt_ne c7
    try have t12 := zt_sub (a := (T 4 0)) (b := 1) (by omega) (by omega)
    have hIT10 : zIT (zsI T 4 ((T 4 0) - 1)) := ⟨by (show (0:Int) ≤ Int32.toInt ((T 4 0) - 1)); omega, by (show Int32.toInt ((T 4 0) - 1) ≤ (10:Int)); omega⟩
    obtain ⟨T10, e11⟩ : ∃ z, (zsI T 4 ((T 4 0) - 1)) = z := ⟨_, rfl⟩
    have hE := zbnd_cut hE e11
    have t13 : Int32.toInt (T10 4 0) = Int32.toInt ((T 4 0) - 1) := by rw [← e11]; rfl
    rw [e11] at hIT10
    obtain ⟨i14, i15⟩ := id hIT10
    have hL22 : ∀ (n29 : Nat) (k2_27 : Int32) (T28 : zS_t), (0 ≤ Int32.toInt k2_27) ∧ (Int32.toInt k2_27 ≤ 10) ∧ (Int32.toInt (T28 4 0) ≤ 9) ∧ (zIT T28) → 11 - Int32.toInt k2_27 ≤ (n29 : Int) → ∀ Y30, mX2_remove_L22  n29 k2_27 T28 = Y30 → (0 ≤ Int32.toInt Y30.1) ∧ (Int32.toInt Y30.1 ≤ 10) ∧ (Int32.toInt ((Y30.2) 4 0) ≤ 9) ∧ (zIT (Y30.2)) := by
      intro n29
      induction n29 with
      | zero =>
        intro k2_27 T28 hI hM9
        obtain ⟨i31, i32, i33, hIT28⟩ := id hI
        obtain ⟨i34, i35⟩ := id hIT28
        exact absurd hM9 (by omega)
      | succ n29 ih =>
        intro k2_27 T28 hI hM9 Y30 hE
        obtain ⟨i36, i37, i38, hIT28⟩ := id hI
        obtain ⟨i39, i40⟩ := id hIT28
        rw [mX2_remove_L22.eq_2] at hE
        by_cases c41 : (T28 4 0) ≤ k2_27
        · have hE := zite_t hE c41
          have t42 := zt_le c41
          subst hE
          exact ⟨by (show 0 ≤ Int32.toInt k2_27; omega), by (show Int32.toInt k2_27 ≤ 10; omega), by (show Int32.toInt (T28 4 0) ≤ 9; omega), hIT28⟩
        · have hE := zite_f hE c41
          have t43 := zt_nle c41
          try have t44 := zt_add (a := k2_27) (b := 1) (by omega) (by omega)
          try have t45 := zt_add (a := k2_27) (b := 1) (by omega) (by omega)
          try have t46 := zt_add (a := k2_27) (b := 1) (by omega) (by omega)
          try have t47 := zt_add (a := k2_27) (b := 1) (by omega) (by omega)
          try have t50 := zt_add (a := k2_27) (b := 1) (by omega) (by omega)
          obtain ⟨y48, e49⟩ : ∃ z : Int32, (k2_27 + 1) = z := ⟨_, rfl⟩
          have hE := zbnd_cut hE e49
          have t51 := congrArg Int32.toInt e49
          exact ih y48 (zsF (zsF (zsF (zsF T28 0 (upd (T28 0) k2_27.toNatClampNeg (T28 0 (k2_27 + 1).toNatClampNeg))) 1 (upd (T28 1) k2_27.toNatClampNeg (T28 1 (k2_27 + 1).toNatClampNeg))) 2 (upd (T28 2) k2_27.toNatClampNeg (T28 2 (k2_27 + 1).toNatClampNeg))) 3 (upd (T28 3) k2_27.toNatClampNeg (T28 3 (k2_27 + 1).toNatClampNeg))) (⟨by (show 0 ≤ Int32.toInt y48; omega), by (show Int32.toInt y48 ≤ 10; omega), by (show Int32.toInt (T28 4 0) ≤ 9; omega), hIT28⟩) (by omega) _ hE
    obtain ⟨⟨k2_52, T53⟩, e54⟩ : ∃ z, mX2_remove_L22  11 place T10 = z := ⟨_, rfl⟩
    have hE := zbnd2_cut hE e54
    have hI55 := hL22 11 place T10 (⟨by (show 0 ≤ Int32.toInt place; omega), by (show Int32.toInt place ≤ 10; omega), by (show Int32.toInt (T10 4 0) ≤ 9; omega), hIT10⟩) (by omega) _ e54
    have hI55 : (0 ≤ Int32.toInt k2_52) ∧ (Int32.toInt k2_52 ≤ 10) ∧ (Int32.toInt (T53 4 0) ≤ 9) ∧ (zIT T53) := hI55
    obtain ⟨i56, i57, i58, hIT53⟩ := id hI55
    obtain ⟨i59, i60⟩ := id hIT53
    subst hE
    exact ⟨Or.inr rfl, hIT53⟩
theorem hw_X2_remove_X2 : ∀ w ∈ wsX20, w ∈ wsX2_remove := fun w h => List.mem_cons_of_mem _ (List.mem_append_right _ (h))
abbrev rmX2_remove : Room := { frames := 1, cells := 0, slots := 0, locals := 21 }
theorem hd_X2_remove : yX2_remove.cls = RX2 ∧ yX2_remove.cls ≠ "java/lang/invoke/MethodHandle" ∧ yX2_remove.cls ≠ "java/lang/invoke/VarHandle" ∧ (parseMethodDescriptor yX2_remove.desc).map (fun d => d.parameters.length) = some 1 := by decide +kernel
set_option maxHeartbeats 4000000 in
set_option maxRecDepth 100000 in
theorem c_X2_remove (l : Launch) (G : zG_t) (place : Int32) (T : zS_t) (hIT : zIT T) : zCI l G.1 (zty G) yX2_remove wsX2_remove rmX2_remove [.ref (G.2.2 1 0), .int place] (zWT G T) ((mX2_remove place T).1) (zWT G ((mX2_remove place T).2)) := by
  obtain ⟨X, hE⟩ : ∃ z, mX2_remove place T = z := ⟨_, rfl⟩
  rw [hE]
  refine zb_Z (cc := cX2_remove) (maxL := 3) (by decide) rfl (Nat.le_of_ble_eq_true rfl) ?_
  intro p e s m args below meth c Q A F hret
  show zW p l e rmX2_remove s m args below meth c 0 0 Q G.1 A 3 (zWT G T) [(0, .ref (G.2.2 1 0)), (1, .int place)] 0 []
  have k_0 : Int32.toInt 0 = 0 := by decide
  have k_1 : Int32.toInt 1 = 1 := by decide
  obtain ⟨i63, i64⟩ := id hIT
  unfold mX2_remove at hE
  refine zi_aload_n (pc := 0) F dX2_remove_0 0 rfl ?_
  refine zi_iload_n (pc := 1) F dX2_remove_1 1 rfl ?_
  have hM3 := c_X2_has l G place T 
  have pp4 := pp_X2_has place T 
  obtain ⟨r1, e2⟩ : ∃ z, mX2_has place T = z := ⟨_, rfl⟩
  have hE := zbnd_cut hE e2
  rw [e2] at hM3
  rw [e2] at pp4
  obtain ⟨hbr1, q5, q6⟩ := pp4
  refine zi_callVI (pc := 2) (rest := []) (ws' := zWT G T) F hM3 (cwV 1 F.1.2.2.2.2 gX2_remove_X2_has rfl rfl rfl hd_X2_has ⟨Nat.le_of_ble_eq_true rfl, Nat.le_of_ble_eq_true rfl⟩) 0 rfl rfl _ _ (zw_nil _) (zw_nil _).symm rfl rfl (Nat.le_of_ble_eq_true rfl) dX2_remove_2 ⟨Nat.zero_le _, Nat.zero_le _⟩ ?_
  refine zi_if_ne (pc := 5) (tgt := 10) F dX2_remove_5 (by decide) (fun c7 => ?_) (fun c7 => ?_)
  · have hE := zite_f hE c7
    have t8 := zt_ne c7
    refine zi_aload_n (pc := 10) F dX2_remove_10 0 rfl ?_
    refine zi_dup (pc := 11) F dX2_remove_11 rfl ?_
    refine zi_get (pc := 12) (C := RX2) (T := TX2) (N := 5) (v := .int (T 4 0)) F (hw_X2_remove_X2) 0 rfl rfl 4 (by decide) (List.mem_of_getElem? (i := 1) rfl) rfl rfl dX2_remove_12 ?_
    refine zi_iconst (pc := 15) (v := 1) F dX2_remove_15 rfl ?_
    refine zi_isub (pc := 16) F dX2_remove_16 ?_
    refine zi_put (pc := 17) (C := RX2) (T := TX2) (N := 5) (ty := .int) (ws' := zWT G (zsI T 4 ((T 4 0) - 1))) F (hw_X2_remove_X2) tyX2 tyX2_ok nmX2 0 rfl rfl 4 (by decide) (List.mem_of_getElem? (i := 1) rfl) rfl rfl rfl rfl rfl (Nat.le_of_ble_eq_true rfl) rfl dX2_remove_17 ?_
    refine zi_iload_n (pc := 20) F dX2_remove_20 1 rfl ?_
    refine zi_istore_n (pc := 21) (lv' := [(0, .ref (G.2.2 1 0)), (1, .int place), (2, .int place)]) F dX2_remove_21 (by decide) rfl ?_
    try have t11 := zt_sub (a := (T 4 0)) (b := 1) (by omega) (by omega)
    have hIT9 : zIT (zsI T 4 ((T 4 0) - 1)) := ⟨by (show (0:Int) ≤ Int32.toInt ((T 4 0) - 1)); omega, by (show Int32.toInt ((T 4 0) - 1) ≤ (10:Int)); omega⟩
    refine zi_nameW (w := fun Z9 => zWT G Z9) (S := (zsI T 4 ((T 4 0) - 1))) (fun T9 e10 => ?_)
    have hE := zbnd_cut hE e10
    have t12 : Int32.toInt (T9 4 0) = Int32.toInt ((T 4 0) - 1) := by rw [← e10]; rfl
    rw [e10] at hIT9
    obtain ⟨i13, i14⟩ := id hIT9
    have hL22 : ∀ (n28 : Nat) (k2_26 : Int32) (T27 : zS_t), (0 ≤ Int32.toInt k2_26) ∧ (Int32.toInt k2_26 ≤ 10) ∧ (Int32.toInt (T27 4 0) ≤ 9) ∧ (zIT T27) → 11 - Int32.toInt k2_26 ≤ (n28 : Int) → ∀ Y29, mX2_remove_L22  n28 k2_26 T27 = Y29 → (((0 ≤ Int32.toInt Y29.1) ∧ (Int32.toInt Y29.1 ≤ 10) ∧ (Int32.toInt ((Y29.2) 4 0) ≤ 9) ∧ (zIT (Y29.2))) → zW p l e rmX2_remove s m args below meth c 0 0 Q G.1 A 3 (zWT G (Y29.2)) [(0, .ref (G.2.2 1 0)), (1, .int place), (2, .int Y29.1)] 92 []) → zW p l e rmX2_remove s m args below meth c 0 0 Q G.1 A 3 (zWT G T27) [(0, .ref (G.2.2 1 0)), (1, .int place), (2, .int k2_26)] 22 [] := by
      intro n28
      induction n28 with
      | zero =>
        intro k2_26 T27 hI hM9
        obtain ⟨i30, i31, i32, hIT27⟩ := id hI
        obtain ⟨i33, i34⟩ := id hIT27
        exact absurd hM9 (by omega)
      | succ n28 ih =>
        intro k2_26 T27 hI hM9 Y29 hE hK
        obtain ⟨i35, i36, i37, hIT27⟩ := id hI
        obtain ⟨i38, i39⟩ := id hIT27
        rw [mX2_remove_L22.eq_2] at hE
        refine zi_iload_n (pc := 22) F dX2_remove_22 2 rfl ?_
        refine zi_aload_n (pc := 23) F dX2_remove_23 0 rfl ?_
        refine zi_get (pc := 24) (C := RX2) (T := TX2) (N := 5) (v := .int (T27 4 0)) F (hw_X2_remove_X2) 0 rfl rfl 4 (by decide) (List.mem_of_getElem? (i := 1) rfl) rfl rfl dX2_remove_24 ?_
        refine zi_icmp_ge (pc := 27) (tgt := 92) F dX2_remove_27 (by decide) (fun c40 => ?_) (fun c40 => ?_)
        · have hE := zite_t hE c40
          have t41 := zt_le c40
          subst hE
          refine zi_sub [0, 1, 2] rfl ?_
          exact hK (⟨by (show 0 ≤ Int32.toInt k2_26; omega), by (show Int32.toInt k2_26 ≤ 10; omega), by (show Int32.toInt (T27 4 0) ≤ 9; omega), hIT27⟩)
        · have hE := zite_f hE c40
          have t42 := zt_nle c40
          refine zi_aload_n (pc := 30) F dX2_remove_30 0 rfl ?_
          refine zi_get (pc := 31) (C := RX2) (T := TX2) (N := 5) (v := .ref (G.2.2 1 1)) F (hw_X2_remove_X2) 0 rfl rfl 0 (by decide) (List.mem_of_getElem? (i := 2) rfl) rfl rfl dX2_remove_31 ?_
          refine zi_iload_n (pc := 34) F dX2_remove_34 2 rfl ?_
          refine zi_aload_n (pc := 35) F dX2_remove_35 0 rfl ?_
          refine zi_get (pc := 36) (C := RX2) (T := TX2) (N := 5) (v := .ref (G.2.2 1 1)) F (hw_X2_remove_X2) 0 rfl rfl 0 (by decide) (List.mem_of_getElem? (i := 2) rfl) rfl rfl dX2_remove_36 ?_
          refine zi_iload_n (pc := 39) F dX2_remove_39 2 rfl ?_
          refine zi_iconst (pc := 40) (v := 1) F dX2_remove_40 rfl ?_
          refine zi_iadd (pc := 41) F dX2_remove_41 ?_
          try have t43 := zt_add (a := k2_26) (b := 1) (by omega) (by omega)
          refine zi_iald (pc := 42) (v := (T27 0 (k2_26 + 1).toNatClampNeg)) F 1 0 rfl rfl (zin (a := (k2_26 + 1)) (by omega) (by omega)) rfl dX2_remove_42 ?_
          refine zi_iast (pc := 43) (ws' := zWT G (zsF T27 0 (upd (T27 0) k2_26.toNatClampNeg (T27 0 (k2_26 + 1).toNatClampNeg)))) F 1 0 rfl rfl (zin (a := k2_26) (by omega) (by omega)) rfl dX2_remove_43 ?_
          refine zi_aload_n (pc := 44) F dX2_remove_44 0 rfl ?_
          refine zi_get (pc := 45) (C := RX2) (T := TX2) (N := 5) (v := .ref (G.2.2 1 2)) F (hw_X2_remove_X2) 0 rfl rfl 1 (by decide) (List.mem_of_getElem? (i := 3) rfl) rfl rfl dX2_remove_45 ?_
          refine zi_iload_n (pc := 48) F dX2_remove_48 2 rfl ?_
          refine zi_aload_n (pc := 49) F dX2_remove_49 0 rfl ?_
          refine zi_get (pc := 50) (C := RX2) (T := TX2) (N := 5) (v := .ref (G.2.2 1 2)) F (hw_X2_remove_X2) 0 rfl rfl 1 (by decide) (List.mem_of_getElem? (i := 3) rfl) rfl rfl dX2_remove_50 ?_
          refine zi_iload_n (pc := 53) F dX2_remove_53 2 rfl ?_
          refine zi_iconst (pc := 54) (v := 1) F dX2_remove_54 rfl ?_
          refine zi_iadd (pc := 55) F dX2_remove_55 ?_
          try have t44 := zt_add (a := k2_26) (b := 1) (by omega) (by omega)
          refine zi_iald (pc := 56) (v := (T27 1 (k2_26 + 1).toNatClampNeg)) F 2 0 rfl rfl (zin (a := (k2_26 + 1)) (by omega) (by omega)) rfl dX2_remove_56 ?_
          refine zi_iast (pc := 57) (ws' := zWT G (zsF (zsF T27 0 (upd (T27 0) k2_26.toNatClampNeg (T27 0 (k2_26 + 1).toNatClampNeg))) 1 (upd (T27 1) k2_26.toNatClampNeg (T27 1 (k2_26 + 1).toNatClampNeg)))) F 2 0 rfl rfl (zin (a := k2_26) (by omega) (by omega)) rfl dX2_remove_57 ?_
          refine zi_aload_n (pc := 58) F dX2_remove_58 0 rfl ?_
          refine zi_get (pc := 59) (C := RX2) (T := TX2) (N := 5) (v := .ref (G.2.2 1 3)) F (hw_X2_remove_X2) 0 rfl rfl 2 (by decide) (List.mem_of_getElem? (i := 4) rfl) rfl rfl dX2_remove_59 ?_
          refine zi_iload_n (pc := 62) F dX2_remove_62 2 rfl ?_
          refine zi_aload_n (pc := 63) F dX2_remove_63 0 rfl ?_
          refine zi_get (pc := 64) (C := RX2) (T := TX2) (N := 5) (v := .ref (G.2.2 1 3)) F (hw_X2_remove_X2) 0 rfl rfl 2 (by decide) (List.mem_of_getElem? (i := 4) rfl) rfl rfl dX2_remove_64 ?_
          refine zi_iload_n (pc := 67) F dX2_remove_67 2 rfl ?_
          refine zi_iconst (pc := 68) (v := 1) F dX2_remove_68 rfl ?_
          refine zi_iadd (pc := 69) F dX2_remove_69 ?_
          try have t45 := zt_add (a := k2_26) (b := 1) (by omega) (by omega)
          refine zi_iald (pc := 70) (v := (T27 2 (k2_26 + 1).toNatClampNeg)) F 3 0 rfl rfl (zin (a := (k2_26 + 1)) (by omega) (by omega)) rfl dX2_remove_70 ?_
          refine zi_iast (pc := 71) (ws' := zWT G (zsF (zsF (zsF T27 0 (upd (T27 0) k2_26.toNatClampNeg (T27 0 (k2_26 + 1).toNatClampNeg))) 1 (upd (T27 1) k2_26.toNatClampNeg (T27 1 (k2_26 + 1).toNatClampNeg))) 2 (upd (T27 2) k2_26.toNatClampNeg (T27 2 (k2_26 + 1).toNatClampNeg)))) F 3 0 rfl rfl (zin (a := k2_26) (by omega) (by omega)) rfl dX2_remove_71 ?_
          refine zi_aload_n (pc := 72) F dX2_remove_72 0 rfl ?_
          refine zi_get (pc := 73) (C := RX2) (T := TX2) (N := 5) (v := .ref (G.2.2 1 4)) F (hw_X2_remove_X2) 0 rfl rfl 3 (by decide) (List.mem_of_getElem? (i := 5) rfl) rfl rfl dX2_remove_73 ?_
          refine zi_iload_n (pc := 76) F dX2_remove_76 2 rfl ?_
          refine zi_aload_n (pc := 77) F dX2_remove_77 0 rfl ?_
          refine zi_get (pc := 78) (C := RX2) (T := TX2) (N := 5) (v := .ref (G.2.2 1 4)) F (hw_X2_remove_X2) 0 rfl rfl 3 (by decide) (List.mem_of_getElem? (i := 5) rfl) rfl rfl dX2_remove_78 ?_
          refine zi_iload_n (pc := 81) F dX2_remove_81 2 rfl ?_
          refine zi_iconst (pc := 82) (v := 1) F dX2_remove_82 rfl ?_
          refine zi_iadd (pc := 83) F dX2_remove_83 ?_
          try have t46 := zt_add (a := k2_26) (b := 1) (by omega) (by omega)
          refine zi_iald (pc := 84) (v := (T27 3 (k2_26 + 1).toNatClampNeg)) F 4 0 rfl rfl (zin (a := (k2_26 + 1)) (by omega) (by omega)) rfl dX2_remove_84 ?_
          refine zi_iast (pc := 85) (ws' := zWT G (zsF (zsF (zsF (zsF T27 0 (upd (T27 0) k2_26.toNatClampNeg (T27 0 (k2_26 + 1).toNatClampNeg))) 1 (upd (T27 1) k2_26.toNatClampNeg (T27 1 (k2_26 + 1).toNatClampNeg))) 2 (upd (T27 2) k2_26.toNatClampNeg (T27 2 (k2_26 + 1).toNatClampNeg))) 3 (upd (T27 3) k2_26.toNatClampNeg (T27 3 (k2_26 + 1).toNatClampNeg)))) F 4 0 rfl rfl (zin (a := k2_26) (by omega) (by omega)) rfl dX2_remove_85 ?_
          try have t49 := zt_add (a := k2_26) (b := 1) (by omega) (by omega)
          obtain ⟨y47, e48⟩ : ∃ z : Int32, (k2_26 + 1) = z := ⟨_, rfl⟩
          have hE := zbnd_cut hE e48
          have t50 := congrArg Int32.toInt e48
          refine zi_iinc (pc := 86) (lv' := [(0, .ref (G.2.2 1 0)), (1, .int place), (2, .int y47)]) F dX2_remove_86 2 rfl e48 (by decide) rfl ?_
          refine zi_goto (pc := 89) (tgt := 22) F dX2_remove_89 (by decide) ?_
          refine zi_sub [0, 1, 2] rfl ?_
          exact ih y47 (zsF (zsF (zsF (zsF T27 0 (upd (T27 0) k2_26.toNatClampNeg (T27 0 (k2_26 + 1).toNatClampNeg))) 1 (upd (T27 1) k2_26.toNatClampNeg (T27 1 (k2_26 + 1).toNatClampNeg))) 2 (upd (T27 2) k2_26.toNatClampNeg (T27 2 (k2_26 + 1).toNatClampNeg))) 3 (upd (T27 3) k2_26.toNatClampNeg (T27 3 (k2_26 + 1).toNatClampNeg))) (⟨by (show 0 ≤ Int32.toInt y47; omega), by (show Int32.toInt y47 ≤ 10; omega), by (show Int32.toInt (T27 4 0) ≤ 9; omega), hIT27⟩) (by omega) _ hE hK
    obtain ⟨⟨k2_51, T52⟩, e53⟩ : ∃ z, mX2_remove_L22  11 place T9 = z := ⟨_, rfl⟩
    have hE := zbnd2_cut hE e53
    refine hL22 11 place T9 (⟨by (show 0 ≤ Int32.toInt place; omega), by (show Int32.toInt place ≤ 10; omega), by (show Int32.toInt (T9 4 0) ≤ 9; omega), hIT9⟩) (by omega) _ e53 (fun hI54 => ?_)
    have hI54 : (0 ≤ Int32.toInt k2_51) ∧ (Int32.toInt k2_51 ≤ 10) ∧ (Int32.toInt (T52 4 0) ≤ 9) ∧ (zIT T52) := hI54
    obtain ⟨i55, i56, i57, hIT52⟩ := id hI54
    obtain ⟨i58, i59⟩ := id hIT52
    show zW p l e rmX2_remove s m args below meth c 0 0 Q G.1 A 3 (zWT G T52) [(0, .ref (G.2.2 1 0)), (1, .int place), (2, .int k2_51)] 92 []
    refine zi_iconst (pc := 92) (v := 1) F dX2_remove_92 rfl ?_
    subst hE
    exact hret _ _ dX2_remove_93 (znb (Or.inr rfl))
  · have hE := zite_t hE c7
    have t60 := congrArg Int32.toInt c7
    refine zi_iconst (pc := 8) (v := 0) F dX2_remove_8 rfl ?_
    subst hE
    exact hret _ _ dX2_remove_9 (znb (Or.inl rfl))
/-! X2_placeOf -/
def mX2_placeOf_L2 (idn : Int32) (T : zS_t) : Nat → Int32 → Int32
  | 0, k2_11 => 0
  | n12 + 1, k2_11 => if (T 4 0) ≤ k2_11 then (-1) else (if (T 3 k2_11.toNatClampNeg) = idn then k2_11 else (zbnd ((k2_11 + 1)) (fun y23 => mX2_placeOf_L2 idn T n12 y23)))
def mX2_placeOf (idn : Int32) (T : zS_t) : Int32 := mX2_placeOf_L2 idn T 11 0
theorem hw_X2_placeOf_X2 : ∀ w ∈ wsX20, w ∈ wsX2_placeOf := fun w h => List.mem_cons_of_mem _ (List.mem_append_right _ (h))
abbrev rmX2_placeOf : Room := { frames := 0, cells := 0, slots := 0, locals := 0 }
theorem hd_X2_placeOf : yX2_placeOf.cls = RX2 ∧ yX2_placeOf.cls ≠ "java/lang/invoke/MethodHandle" ∧ yX2_placeOf.cls ≠ "java/lang/invoke/VarHandle" ∧ (parseMethodDescriptor yX2_placeOf.desc).map (fun d => d.parameters.length) = some 1 := by decide +kernel
set_option maxHeartbeats 4000000 in
set_option maxRecDepth 100000 in
theorem c_X2_placeOf (l : Launch) (G : zG_t) (idn : Int32) (T : zS_t) (hIT : zIT T) : zCI l G.1 (zty G) yX2_placeOf wsX2_placeOf rmX2_placeOf [.ref (G.2.2 1 0), .int idn] (zWT G T) ((mX2_placeOf idn T)) (zWT G T) := by
  obtain ⟨X, hE⟩ : ∃ z, mX2_placeOf idn T = z := ⟨_, rfl⟩
  rw [hE]
  refine zb_I (cc := cX2_placeOf) (maxL := 3) (by decide) rfl (Nat.le_of_ble_eq_true rfl) ?_
  intro p e s m args below meth c Q A F hret
  show zW p l e rmX2_placeOf s m args below meth c 0 0 Q G.1 A 3 (zWT G T) [(0, .ref (G.2.2 1 0)), (1, .int idn)] 0 []
  have k_m1 : Int32.toInt (-1) = -1 := by decide
  have k_0 : Int32.toInt 0 = 0 := by decide
  have k_1 : Int32.toInt 1 = 1 := by decide
  obtain ⟨i28, i29⟩ := id hIT
  unfold mX2_placeOf at hE
  refine zi_iconst (pc := 0) (v := 0) F dX2_placeOf_0 rfl ?_
  refine zi_istore_n (pc := 1) (lv' := [(0, .ref (G.2.2 1 0)), (1, .int idn), (2, .int 0)]) F dX2_placeOf_1 (by decide) rfl ?_
  have hL2 : ∀ (n12 : Nat) (k2_11 : Int32), (0 ≤ Int32.toInt k2_11) ∧ (Int32.toInt k2_11 ≤ 10) → 11 - Int32.toInt k2_11 ≤ (n12 : Int) → mX2_placeOf_L2 idn T n12 k2_11 = X → zW p l e rmX2_placeOf s m args below meth c 0 0 Q G.1 A 3 (zWT G T) [(0, .ref (G.2.2 1 0)), (1, .int idn), (2, .int k2_11)] 2 [] := by
    intro n12
    induction n12 with
    | zero =>
      intro k2_11 hI hM9
      obtain ⟨i14, i15⟩ := id hI
      exact absurd hM9 (by omega)
    | succ n12 ih =>
      intro k2_11 hI hM9 hE
      obtain ⟨i16, i17⟩ := id hI
      rw [mX2_placeOf_L2.eq_2] at hE
      refine zi_iload_n (pc := 2) F dX2_placeOf_2 2 rfl ?_
      refine zi_aload_n (pc := 3) F dX2_placeOf_3 0 rfl ?_
      refine zi_get (pc := 4) (C := RX2) (T := TX2) (N := 5) (v := .int (T 4 0)) F (hw_X2_placeOf_X2) 0 rfl rfl 4 (by decide) (List.mem_of_getElem? (i := 1) rfl) rfl rfl dX2_placeOf_4 ?_
      refine zi_icmp_ge (pc := 7) (tgt := 28) F dX2_placeOf_7 (by decide) (fun c18 => ?_) (fun c18 => ?_)
      · have hE := zite_t hE c18
        have t19 := zt_le c18
        refine zi_iconst (pc := 28) (v := (-1)) F dX2_placeOf_28 rfl ?_
        subst hE
        exact hret _ _ dX2_placeOf_29
      · have hE := zite_f hE c18
        have t20 := zt_nle c18
        refine zi_aload_n (pc := 10) F dX2_placeOf_10 0 rfl ?_
        refine zi_get (pc := 11) (C := RX2) (T := TX2) (N := 5) (v := .ref (G.2.2 1 4)) F (hw_X2_placeOf_X2) 0 rfl rfl 3 (by decide) (List.mem_of_getElem? (i := 2) rfl) rfl rfl dX2_placeOf_11 ?_
        refine zi_iload_n (pc := 14) F dX2_placeOf_14 2 rfl ?_
        refine zi_iald (pc := 15) (v := (T 3 k2_11.toNatClampNeg)) F 4 0 rfl rfl (zin (a := k2_11) (by omega) (by omega)) rfl dX2_placeOf_15 ?_
        refine zi_iload_n (pc := 16) F dX2_placeOf_16 1 rfl ?_
        refine zi_icmp_ne (pc := 17) (tgt := 22) F dX2_placeOf_17 (by decide) (fun c21 => ?_) (fun c21 => ?_)
        · have hE := zite_f hE c21
          have t22 := zt_ne c21
          try have t25 := zt_add (a := k2_11) (b := 1) (by omega) (by omega)
          obtain ⟨y23, e24⟩ : ∃ z : Int32, (k2_11 + 1) = z := ⟨_, rfl⟩
          have hE := zbnd_cut hE e24
          have t26 := congrArg Int32.toInt e24
          refine zi_iinc (pc := 22) (lv' := [(0, .ref (G.2.2 1 0)), (1, .int idn), (2, .int y23)]) F dX2_placeOf_22 2 rfl e24 (by decide) rfl ?_
          refine zi_goto (pc := 25) (tgt := 2) F dX2_placeOf_25 (by decide) ?_
          refine zi_sub [0, 1, 2] rfl ?_
          exact ih y23 (⟨by (show 0 ≤ Int32.toInt y23; omega), by (show Int32.toInt y23 ≤ 10; omega)⟩) (by omega) hE
        · have hE := zite_t hE c21
          have t27 := congrArg Int32.toInt c21
          refine zi_iload_n (pc := 20) F dX2_placeOf_20 2 rfl ?_
          subst hE
          exact hret _ _ dX2_placeOf_21
  exact hL2 11 0 (⟨by (show 0 ≤ Int32.toInt 0; omega), by (show Int32.toInt 0 ≤ 10; omega)⟩) (by omega) hE
/-! X2_firstOf -/
def mX2_firstOf_L2 (card : Int32) (T : zS_t) : Nat → Int32 → Int32
  | 0, k2_11 => 0
  | n12 + 1, k2_11 => if (T 4 0) ≤ k2_11 then (-1) else (if (T 0 k2_11.toNatClampNeg) = card then k2_11 else (zbnd ((k2_11 + 1)) (fun y23 => mX2_firstOf_L2 card T n12 y23)))
def mX2_firstOf (card : Int32) (T : zS_t) : Int32 := mX2_firstOf_L2 card T 11 0
theorem hw_X2_firstOf_X2 : ∀ w ∈ wsX20, w ∈ wsX2_firstOf := fun w h => List.mem_cons_of_mem _ (List.mem_append_right _ (h))
abbrev rmX2_firstOf : Room := { frames := 0, cells := 0, slots := 0, locals := 0 }
theorem hd_X2_firstOf : yX2_firstOf.cls = RX2 ∧ yX2_firstOf.cls ≠ "java/lang/invoke/MethodHandle" ∧ yX2_firstOf.cls ≠ "java/lang/invoke/VarHandle" ∧ (parseMethodDescriptor yX2_firstOf.desc).map (fun d => d.parameters.length) = some 1 := by decide +kernel
set_option maxHeartbeats 4000000 in
set_option maxRecDepth 100000 in
theorem c_X2_firstOf (l : Launch) (G : zG_t) (card : Int32) (T : zS_t) (hIT : zIT T) : zCI l G.1 (zty G) yX2_firstOf wsX2_firstOf rmX2_firstOf [.ref (G.2.2 1 0), .int card] (zWT G T) ((mX2_firstOf card T)) (zWT G T) := by
  obtain ⟨X, hE⟩ : ∃ z, mX2_firstOf card T = z := ⟨_, rfl⟩
  rw [hE]
  refine zb_I (cc := cX2_firstOf) (maxL := 3) (by decide) rfl (Nat.le_of_ble_eq_true rfl) ?_
  intro p e s m args below meth c Q A F hret
  show zW p l e rmX2_firstOf s m args below meth c 0 0 Q G.1 A 3 (zWT G T) [(0, .ref (G.2.2 1 0)), (1, .int card)] 0 []
  have k_m1 : Int32.toInt (-1) = -1 := by decide
  have k_0 : Int32.toInt 0 = 0 := by decide
  have k_1 : Int32.toInt 1 = 1 := by decide
  obtain ⟨i28, i29⟩ := id hIT
  unfold mX2_firstOf at hE
  refine zi_iconst (pc := 0) (v := 0) F dX2_firstOf_0 rfl ?_
  refine zi_istore_n (pc := 1) (lv' := [(0, .ref (G.2.2 1 0)), (1, .int card), (2, .int 0)]) F dX2_firstOf_1 (by decide) rfl ?_
  have hL2 : ∀ (n12 : Nat) (k2_11 : Int32), (0 ≤ Int32.toInt k2_11) ∧ (Int32.toInt k2_11 ≤ 10) → 11 - Int32.toInt k2_11 ≤ (n12 : Int) → mX2_firstOf_L2 card T n12 k2_11 = X → zW p l e rmX2_firstOf s m args below meth c 0 0 Q G.1 A 3 (zWT G T) [(0, .ref (G.2.2 1 0)), (1, .int card), (2, .int k2_11)] 2 [] := by
    intro n12
    induction n12 with
    | zero =>
      intro k2_11 hI hM9
      obtain ⟨i14, i15⟩ := id hI
      exact absurd hM9 (by omega)
    | succ n12 ih =>
      intro k2_11 hI hM9 hE
      obtain ⟨i16, i17⟩ := id hI
      rw [mX2_firstOf_L2.eq_2] at hE
      refine zi_iload_n (pc := 2) F dX2_firstOf_2 2 rfl ?_
      refine zi_aload_n (pc := 3) F dX2_firstOf_3 0 rfl ?_
      refine zi_get (pc := 4) (C := RX2) (T := TX2) (N := 5) (v := .int (T 4 0)) F (hw_X2_firstOf_X2) 0 rfl rfl 4 (by decide) (List.mem_of_getElem? (i := 1) rfl) rfl rfl dX2_firstOf_4 ?_
      refine zi_icmp_ge (pc := 7) (tgt := 28) F dX2_firstOf_7 (by decide) (fun c18 => ?_) (fun c18 => ?_)
      · have hE := zite_t hE c18
        have t19 := zt_le c18
        refine zi_iconst (pc := 28) (v := (-1)) F dX2_firstOf_28 rfl ?_
        subst hE
        exact hret _ _ dX2_firstOf_29
      · have hE := zite_f hE c18
        have t20 := zt_nle c18
        refine zi_aload_n (pc := 10) F dX2_firstOf_10 0 rfl ?_
        refine zi_get (pc := 11) (C := RX2) (T := TX2) (N := 5) (v := .ref (G.2.2 1 1)) F (hw_X2_firstOf_X2) 0 rfl rfl 0 (by decide) (List.mem_of_getElem? (i := 2) rfl) rfl rfl dX2_firstOf_11 ?_
        refine zi_iload_n (pc := 14) F dX2_firstOf_14 2 rfl ?_
        refine zi_iald (pc := 15) (v := (T 0 k2_11.toNatClampNeg)) F 1 0 rfl rfl (zin (a := k2_11) (by omega) (by omega)) rfl dX2_firstOf_15 ?_
        refine zi_iload_n (pc := 16) F dX2_firstOf_16 1 rfl ?_
        refine zi_icmp_ne (pc := 17) (tgt := 22) F dX2_firstOf_17 (by decide) (fun c21 => ?_) (fun c21 => ?_)
        · have hE := zite_f hE c21
          have t22 := zt_ne c21
          try have t25 := zt_add (a := k2_11) (b := 1) (by omega) (by omega)
          obtain ⟨y23, e24⟩ : ∃ z : Int32, (k2_11 + 1) = z := ⟨_, rfl⟩
          have hE := zbnd_cut hE e24
          have t26 := congrArg Int32.toInt e24
          refine zi_iinc (pc := 22) (lv' := [(0, .ref (G.2.2 1 0)), (1, .int card), (2, .int y23)]) F dX2_firstOf_22 2 rfl e24 (by decide) rfl ?_
          refine zi_goto (pc := 25) (tgt := 2) F dX2_firstOf_25 (by decide) ?_
          refine zi_sub [0, 1, 2] rfl ?_
          exact ih y23 (⟨by (show 0 ≤ Int32.toInt y23; omega), by (show Int32.toInt y23 ≤ 10; omega)⟩) (by omega) hE
        · have hE := zite_t hE c21
          have t27 := congrArg Int32.toInt c21
          refine zi_iload_n (pc := 20) F dX2_firstOf_20 2 rfl ?_
          subst hE
          exact hret _ _ dX2_firstOf_21
  exact hL2 11 0 (⟨by (show 0 ≤ Int32.toInt 0; omega), by (show Int32.toInt 0 ≤ 10; omega)⟩) (by omega) hE
