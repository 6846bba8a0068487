/-! X4_requireThingAndLayer -/
def mX4_requireThingAndLayer (place : Int32) (layer : Int32) (T : zS_t) : Option String := zbnd (mX2_has place T) (fun r1 => if r1 = 0 then (some "java/lang/IndexOutOfBoundsException") else (if layer < 0 then (some "java/lang/IllegalArgumentException") else (if layer ≤ 5 then none else (some "java/lang/IllegalArgumentException"))))
set_option maxHeartbeats 4000000 in
set_option maxRecDepth 100000 in
theorem pp_X4_requireThingAndLayer (place : Int32) (layer : Int32) (T : zS_t) (hIT : zIT T) : (Int32.toInt layer ≤ 5 ∨ (mX4_requireThingAndLayer place layer T) ≠ none) ∧ ((0 ≤ Int32.toInt place ∧ Int32.toInt place < Int32.toInt (T 4 0)) ∨ (mX4_requireThingAndLayer place layer T) ≠ none) ∧ ((mX4_requireThingAndLayer place layer T) = none ∨ (mX4_requireThingAndLayer place layer T) = some "java/lang/IndexOutOfBoundsException" ∨ (mX4_requireThingAndLayer place layer T) = some "java/lang/IllegalArgumentException") := by
  obtain ⟨X, hE⟩ : ∃ z, mX4_requireThingAndLayer place layer T = z := ⟨_, rfl⟩
  rw [hE]
  have k_0 : Int32.toInt 0 = 0 := by decide
  have k_1 : Int32.toInt 1 = 1 := by decide
  have k_5 : Int32.toInt 5 = 5 := by decide
  obtain ⟨i16, i17⟩ := id hIT
  unfold mX4_requireThingAndLayer at hE
  have pp4 := pp_X2_has place T 
  obtain ⟨r1, e2⟩ : ∃ z, mX2_has place T = z := ⟨_, rfl⟩
  have hE := zbnd_cut hE e2
  rw [e2] at pp4
  obtain ⟨hbr1, q5, q6⟩ := pp4
  by_cases c7 : r1 = 0
  · have hE := zite_t hE c7
    have t8 := congrArg Int32.toInt c7
    subst hE
    exact ⟨(by first | omega | (show Int32.toInt layer ≤ 5 ∨ (some "java/lang/IndexOutOfBoundsException") ≠ none; omega) | (show Int32.toInt layer ≤ 5 ∨ (some "java/lang/IndexOutOfBoundsException") ≠ none; simp)), (by first | omega | (show (0 ≤ Int32.toInt place ∧ Int32.toInt place < Int32.toInt (T 4 0)) ∨ (some "java/lang/IndexOutOfBoundsException") ≠ none; omega) | (show (0 ≤ Int32.toInt place ∧ Int32.toInt place < Int32.toInt (T 4 0)) ∨ (some "java/lang/IndexOutOfBoundsException") ≠ none; simp)), (by first | exact Or.inl rfl | exact Or.inr rfl | exact Or.inr (Or.inl rfl) | exact Or.inr (Or.inr rfl) | assumption)⟩
  · have hE := zite_f hE c7
    have t9 := zt_ne c7
    by_cases c10 : layer < 0
    · have hE := zite_t hE c10
      have t11 := zt_lt c10
      subst hE
      exact ⟨(by first | omega | (show Int32.toInt layer ≤ 5 ∨ (some "java/lang/IllegalArgumentException") ≠ none; omega) | (show Int32.toInt layer ≤ 5 ∨ (some "java/lang/IllegalArgumentException") ≠ none; simp)), (by first | omega | (show (0 ≤ Int32.toInt place ∧ Int32.toInt place < Int32.toInt (T 4 0)) ∨ (some "java/lang/IllegalArgumentException") ≠ none; omega) | (show (0 ≤ Int32.toInt place ∧ Int32.toInt place < Int32.toInt (T 4 0)) ∨ (some "java/lang/IllegalArgumentException") ≠ none; simp)), (by first | exact Or.inl rfl | exact Or.inr rfl | exact Or.inr (Or.inl rfl) | exact Or.inr (Or.inr rfl) | assumption)⟩
    · have hE := zite_f hE c10
      have t12 := zt_nlt c10
      by_cases c13 : layer ≤ 5
      · have hE := zite_t hE c13
        have t14 := zt_le c13
        subst hE
        exact ⟨(by first | omega | (show Int32.toInt layer ≤ 5 ∨ none ≠ none; omega) | (show Int32.toInt layer ≤ 5 ∨ none ≠ none; simp)), (by first | omega | (show (0 ≤ Int32.toInt place ∧ Int32.toInt place < Int32.toInt (T 4 0)) ∨ none ≠ none; omega) | (show (0 ≤ Int32.toInt place ∧ Int32.toInt place < Int32.toInt (T 4 0)) ∨ none ≠ none; simp)), (by first | exact Or.inl rfl | exact Or.inr rfl | exact Or.inr (Or.inl rfl) | exact Or.inr (Or.inr rfl) | assumption)⟩
      · have hE := zite_f hE c13
        have t15 := zt_nle c13
        subst hE
        exact ⟨(by first | omega | (show Int32.toInt layer ≤ 5 ∨ (some "java/lang/IllegalArgumentException") ≠ none; omega) | (show Int32.toInt layer ≤ 5 ∨ (some "java/lang/IllegalArgumentException") ≠ none; simp)), (by first | omega | (show (0 ≤ Int32.toInt place ∧ Int32.toInt place < Int32.toInt (T 4 0)) ∨ (some "java/lang/IllegalArgumentException") ≠ none; omega) | (show (0 ≤ Int32.toInt place ∧ Int32.toInt place < Int32.toInt (T 4 0)) ∨ (some "java/lang/IllegalArgumentException") ≠ none; simp)), (by first | exact Or.inl rfl | exact Or.inr rfl | exact Or.inr (Or.inl rfl) | exact Or.inr (Or.inr rfl) | assumption)⟩
theorem hw_X4_requireThingAndLayer_X4 : ∀ w ∈ wsX40, w ∈ wsX4_requireThingAndLayer := fun w h => List.mem_cons_of_mem _ (List.mem_append_left _ (List.mem_append_left _ (List.mem_append_left _ (List.mem_append_right _ (h)))))
abbrev rmX4_requireThingAndLayer : Room := { frames := 6, cells := 1, slots := 6, locals := 82 }
theorem hd_X4_requireThingAndLayer : yX4_requireThingAndLayer.cls = RX4 ∧ yX4_requireThingAndLayer.cls ≠ "java/lang/invoke/MethodHandle" ∧ yX4_requireThingAndLayer.cls ≠ "java/lang/invoke/VarHandle" ∧ (parseMethodDescriptor yX4_requireThingAndLayer.desc).map (fun d => d.parameters.length) = some 2 := by decide +kernel
set_option maxHeartbeats 4000000 in
set_option maxRecDepth 100000 in
theorem c_X4_requireThingAndLayer (l : Launch) (hfl : l.stackTraces = false) (G : zG_t) (place : Int32) (layer : Int32) (L : zS_t) (T : zS_t) (E : zS_t) (V : zS_t) (M : zS_t) (K : zS_t) (hIT : zIT T) : zXV l G.1 (zty G) yX4_requireThingAndLayer wsX4_requireThingAndLayer rmX4_requireThingAndLayer [.ref (G.2.2 0 0), .int place, .int layer] (zWL G L T E V M K) ((mX4_requireThingAndLayer place layer T)) (zWL G L T E V M K) := by
  obtain ⟨X, hE⟩ : ∃ z, mX4_requireThingAndLayer place layer T = z := ⟨_, rfl⟩
  rw [hE]
  refine zx_V hfl (cc := cX4_requireThingAndLayer) (maxL := 3) (by decide) rfl rfl (Nat.le_of_ble_eq_true rfl) rfl rfl ?_
  intro p e s m args below meth c Q A F hsx hret hthr hout
  show zW p l e rmX4_requireThingAndLayer s m args below meth c 0 0 Q G.1 A 3 (zWL G L T E V M K) [(0, .ref (G.2.2 0 0)), (1, .int place), (2, .int layer)] 0 []
  have k_0 : Int32.toInt 0 = 0 := by decide
  have k_1 : Int32.toInt 1 = 1 := by decide
  have k_5 : Int32.toInt 5 = 5 := by decide
  obtain ⟨i18, i19⟩ := id hIT
  unfold mX4_requireThingAndLayer at hE
  refine zi_aload_n (pc := 0) F dX4_requireThingAndLayer_0 0 rfl ?_
  refine zi_get (pc := 1) (C := RX4) (T := TX4) (N := 11) (v := .ref (G.2.2 1 0)) F (hw_X4_requireThingAndLayer_X4) 0 rfl rfl 1 (by decide) (List.mem_of_getElem? (i := 5) rfl) rfl rfl dX4_requireThingAndLayer_1 ?_
  refine zi_iload_n (pc := 4) F dX4_requireThingAndLayer_4 1 rfl ?_
  have hM3 := c_X2_has l G place T 
  have pp4 := pp_X2_has place T 
  obtain ⟨r1, e2⟩ : ∃ z, mX2_has place T = z := ⟨_, rfl⟩
  have hE := zbnd_cut hE e2
  rw [e2] at hM3
  rw [e2] at pp4
  obtain ⟨hbr1, q5, q6⟩ := pp4
  refine zi_callVI (pc := 5) (rest := []) (ws' := zWL G L T E V M K) F hM3 (cwV 1 F.1.2.2.2.2 gX4_requireThingAndLayer_X2_has rfl rfl rfl hd_X2_has ⟨Nat.le_of_ble_eq_true rfl, Nat.le_of_ble_eq_true rfl⟩) 0 rfl rfl _ _ (zwL_T G L T E V M K) (zwL_T G L T E V M K).symm rfl rfl (Nat.le_of_ble_eq_true rfl) dX4_requireThingAndLayer_5 ⟨Nat.zero_le _, Nat.zero_le _⟩ ?_
  refine zi_if_ne (pc := 8) (tgt := 21) F dX4_requireThingAndLayer_8 (by decide) (fun c7 => ?_) (fun c7 => ?_)
  · have hE := zite_f hE c7
    have t8 := zt_ne c7
    refine zi_iload_n (pc := 21) F dX4_requireThingAndLayer_21 2 rfl ?_
    refine zi_if_lt (pc := 22) (tgt := 30) F dX4_requireThingAndLayer_22 (by decide) (fun c9 => ?_) (fun c9 => ?_)
    · have hE := zite_t hE c9
      have t10 := zt_lt c9
      subst hE
      exact hthr 30 98 157 102 "java/lang/IllegalArgumentException" "layer is out of range" _ rfl ⟨⟨dX4_requireThingAndLayer_30, dX4_requireThingAndLayer_33, dX4_requireThingAndLayer_34, dX4_requireThingAndLayer_36, dX4_requireThingAndLayer_39⟩, (List.mem_of_getElem? (i := 3) rfl), (List.mem_of_getElem? (i := 4) rfl), by decide, by decide, fun w h => List.mem_cons_of_mem _ (List.mem_append_right _ (h)), zng_102, zgd_102, Nat.le_of_ble_eq_true rfl, Nat.le_of_ble_eq_true rfl⟩
    · have hE := zite_f hE c9
      have t11 := zt_nlt c9
      refine zi_iload_n (pc := 25) F dX4_requireThingAndLayer_25 2 rfl ?_
      refine zi_iconst (pc := 26) (v := 5) F dX4_requireThingAndLayer_26 rfl ?_
      refine zi_icmp_le (pc := 27) (tgt := 40) F dX4_requireThingAndLayer_27 (by decide) (fun c12 => ?_) (fun c12 => ?_)
      · have hE := zite_t hE c12
        have t13 := zt_le c12
        subst hE
        exact hret _ _ _ _ (Nat.le_of_ble_eq_true rfl) (Nat.le_of_ble_eq_true rfl) dX4_requireThingAndLayer_40 rfl
      · have hE := zite_f hE c12
        have t14 := zt_nle c12
        subst hE
        exact hthr 30 98 157 102 "java/lang/IllegalArgumentException" "layer is out of range" _ rfl ⟨⟨dX4_requireThingAndLayer_30, dX4_requireThingAndLayer_33, dX4_requireThingAndLayer_34, dX4_requireThingAndLayer_36, dX4_requireThingAndLayer_39⟩, (List.mem_of_getElem? (i := 3) rfl), (List.mem_of_getElem? (i := 4) rfl), by decide, by decide, fun w h => List.mem_cons_of_mem _ (List.mem_append_right _ (h)), zng_102, zgd_102, Nat.le_of_ble_eq_true rfl, Nat.le_of_ble_eq_true rfl⟩
  · have hE := zite_t hE c7
    have t15 := congrArg Int32.toInt c7
    subst hE
    exact hthr 11 41 119 45 "java/lang/IndexOutOfBoundsException" "no such thing" _ rfl ⟨⟨dX4_requireThingAndLayer_11, dX4_requireThingAndLayer_14, dX4_requireThingAndLayer_15, dX4_requireThingAndLayer_17, dX4_requireThingAndLayer_20⟩, (List.mem_of_getElem? (i := 1) rfl), (List.mem_of_getElem? (i := 2) rfl), by decide, by decide, fun w h => List.mem_cons_of_mem _ (List.mem_append_left _ (List.mem_append_right _ (h))), zng_45, zgd_45, Nat.le_of_ble_eq_true rfl, Nat.le_of_ble_eq_true rfl⟩
/-! X4_coins -/
def mX4_coins (player : Int32) (L : zS_t) : Option String × Int32 := if player < 0 then (some "java/lang/IndexOutOfBoundsException", 0) else (if player < 3 then (none, (L 0 player.toNatClampNeg)) else (some "java/lang/IndexOutOfBoundsException", 0))
set_option maxHeartbeats 4000000 in
set_option maxRecDepth 100000 in
theorem pp_X4_coins (player : Int32) (L : zS_t)  : (((mX4_coins player L).1) = none ∨ ((mX4_coins player L).1) = some "java/lang/IndexOutOfBoundsException") := by
  obtain ⟨X, hE⟩ : ∃ z, mX4_coins player L = z := ⟨_, rfl⟩
  rw [hE]
  have k_0 : Int32.toInt 0 = 0 := by decide
  have k_1 : Int32.toInt 1 = 1 := by decide
  have k_3 : Int32.toInt 3 = 3 := by decide
  unfold mX4_coins at hE
  by_cases c1 : player < 0
  · have hE := zite_t hE c1
    have t2 := zt_lt c1
    subst hE
    exact (by first | exact Or.inl rfl | exact Or.inr rfl | exact Or.inr (Or.inl rfl) | exact Or.inr (Or.inr rfl) | assumption)
  · have hE := zite_f hE c1
    have t3 := zt_nlt c1
    by_cases c4 : player < 3
    · have hE := zite_t hE c4
      have t5 := zt_lt c4
      subst hE
      exact (by first | exact Or.inl rfl | exact Or.inr rfl | exact Or.inr (Or.inl rfl) | exact Or.inr (Or.inr rfl) | assumption)
    · have hE := zite_f hE c4
      have t6 := zt_nlt c4
      subst hE
      exact (by first | exact Or.inl rfl | exact Or.inr rfl | exact Or.inr (Or.inl rfl) | exact Or.inr (Or.inr rfl) | assumption)
theorem hw_X4_coins_X4 : ∀ w ∈ wsX40, w ∈ wsX4_coins := fun w h => List.mem_cons_of_mem _ (List.mem_append_left _ (List.mem_append_right _ (h)))
abbrev rmX4_coins : Room := { frames := 6, cells := 1, slots := 6, locals := 82 }
theorem hd_X4_coins : yX4_coins.cls = RX4 ∧ yX4_coins.cls ≠ "java/lang/invoke/MethodHandle" ∧ yX4_coins.cls ≠ "java/lang/invoke/VarHandle" ∧ (parseMethodDescriptor yX4_coins.desc).map (fun d => d.parameters.length) = some 1 := by decide +kernel
set_option maxHeartbeats 4000000 in
set_option maxRecDepth 100000 in
theorem c_X4_coins (l : Launch) (hfl : l.stackTraces = false) (G : zG_t) (player : Int32) (L : zS_t) (T : zS_t) (E : zS_t) (V : zS_t) (M : zS_t) (K : zS_t)  : zXI l G.1 (zty G) yX4_coins wsX4_coins rmX4_coins [.ref (G.2.2 0 0), .int player] (zWL G L T E V M K) ((mX4_coins player L).1) ((mX4_coins player L).2) (zWL G L T E V M K) := by
  obtain ⟨X, hE⟩ : ∃ z, mX4_coins player L = z := ⟨_, rfl⟩
  rw [hE]
  refine zx_I hfl (cc := cX4_coins) (maxL := 2) (by decide) rfl rfl (Nat.le_of_ble_eq_true rfl) rfl rfl ?_
  intro p e s m args below meth c Q A F hsx hret hthr hout
  show zW p l e rmX4_coins s m args below meth c 0 0 Q G.1 A 2 (zWL G L T E V M K) [(0, .ref (G.2.2 0 0)), (1, .int player)] 0 []
  have k_0 : Int32.toInt 0 = 0 := by decide
  have k_1 : Int32.toInt 1 = 1 := by decide
  have k_3 : Int32.toInt 3 = 3 := by decide
  unfold mX4_coins at hE
  refine zi_iload_n (pc := 0) F dX4_coins_0 1 rfl ?_
  refine zi_if_lt (pc := 1) (tgt := 9) F dX4_coins_1 (by decide) (fun c1 => ?_) (fun c1 => ?_)
  · have hE := zite_t hE c1
    have t2 := zt_lt c1
    subst hE
    exact hthr 9 41 112 45 "java/lang/IndexOutOfBoundsException" "no such player" _ rfl ⟨⟨dX4_coins_9, dX4_coins_12, dX4_coins_13, dX4_coins_15, dX4_coins_18⟩, (List.mem_of_getElem? (i := 1) rfl), (List.mem_of_getElem? (i := 2) rfl), by decide, by decide, fun w h => List.mem_cons_of_mem _ (List.mem_append_right _ (h)), zng_45, zgd_45, Nat.le_of_ble_eq_true rfl, Nat.le_of_ble_eq_true rfl⟩
  · have hE := zite_f hE c1
    have t3 := zt_nlt c1
    refine zi_iload_n (pc := 4) F dX4_coins_4 1 rfl ?_
    refine zi_iconst (pc := 5) (v := 3) F dX4_coins_5 rfl ?_
    refine zi_icmp_lt (pc := 6) (tgt := 19) F dX4_coins_6 (by decide) (fun c4 => ?_) (fun c4 => ?_)
    · have hE := zite_t hE c4
      have t5 := zt_lt c4
      refine zi_aload_n (pc := 19) F dX4_coins_19 0 rfl ?_
      refine zi_get (pc := 20) (C := RX4) (T := TX4) (N := 11) (v := .ref (G.2.2 0 1)) F (hw_X4_coins_X4) 0 rfl rfl 0 (by decide) (List.mem_of_getElem? (i := 3) rfl) rfl rfl dX4_coins_20 ?_
      refine zi_iload_n (pc := 23) F dX4_coins_23 1 rfl ?_
      refine zi_iald (pc := 24) (v := (L 0 player.toNatClampNeg)) F 1 0 rfl rfl (zin (a := player) (by omega) (by omega)) rfl dX4_coins_24 ?_
      subst hE
      exact hret _ _ _ _ (Nat.le_of_ble_eq_true rfl) (Nat.le_of_ble_eq_true rfl) dX4_coins_25 rfl
    · have hE := zite_f hE c4
      have t6 := zt_nlt c4
      subst hE
      exact hthr 9 41 112 45 "java/lang/IndexOutOfBoundsException" "no such player" _ rfl ⟨⟨dX4_coins_9, dX4_coins_12, dX4_coins_13, dX4_coins_15, dX4_coins_18⟩, (List.mem_of_getElem? (i := 1) rfl), (List.mem_of_getElem? (i := 2) rfl), by decide, by decide, fun w h => List.mem_cons_of_mem _ (List.mem_append_right _ (h)), zng_45, zgd_45, Nat.le_of_ble_eq_true rfl, Nat.le_of_ble_eq_true rfl⟩
/-! X4_cardOf -/
def mX4_cardOf (place : Int32) (T : zS_t) : Option String × Int32 := zbnd (mX2_has place T) (fun r1 => if r1 = 0 then (some "java/lang/IndexOutOfBoundsException", 0) else (none, (T 0 place.toNatClampNeg)))
set_option maxHeartbeats 4000000 in
set_option maxRecDepth 100000 in
theorem pp_X4_cardOf (place : Int32) (T : zS_t) (hIT : zIT T) : (((mX4_cardOf place T).1) = none ∨ ((mX4_cardOf place T).1) = some "java/lang/IndexOutOfBoundsException") := by
  obtain ⟨X, hE⟩ : ∃ z, mX4_cardOf place T = z := ⟨_, rfl⟩
  rw [hE]
  have k_0 : Int32.toInt 0 = 0 := by decide
  have k_1 : Int32.toInt 1 = 1 := by decide
  obtain ⟨i10, i11⟩ := id hIT
  unfold mX4_cardOf at hE
  have pp4 := pp_X2_has place T 
  obtain ⟨r1, e2⟩ : ∃ z, mX2_has place T = z := ⟨_, rfl⟩
  have hE := zbnd_cut hE e2
  rw [e2] at pp4
  obtain ⟨hbr1, q5, q6⟩ := pp4
  by_cases c7 : r1 = 0
  · have hE := zite_t hE c7
    have t8 := congrArg Int32.toInt c7
    subst hE
    exact (by first | exact Or.inl rfl | exact Or.inr rfl | exact Or.inr (Or.inl rfl) | exact Or.inr (Or.inr rfl) | assumption)
  · have hE := zite_f hE c7
    have t9 := zt_ne c7
    subst hE
    exact (by first | exact Or.inl rfl | exact Or.inr rfl | exact Or.inr (Or.inl rfl) | exact Or.inr (Or.inr rfl) | assumption)
theorem hw_X4_cardOf_X2 : ∀ w ∈ wsX20, w ∈ wsX4_cardOf := fun w h => List.mem_cons_of_mem _ (List.mem_append_left _ (List.mem_append_right _ (h)))
theorem hw_X4_cardOf_X4 : ∀ w ∈ wsX40, w ∈ wsX4_cardOf := fun w h => List.mem_cons_of_mem _ (List.mem_append_left _ (List.mem_append_left _ (List.mem_append_right _ (h))))
abbrev rmX4_cardOf : Room := { frames := 6, cells := 1, slots := 6, locals := 82 }
theorem hd_X4_cardOf : yX4_cardOf.cls = RX4 ∧ yX4_cardOf.cls ≠ "java/lang/invoke/MethodHandle" ∧ yX4_cardOf.cls ≠ "java/lang/invoke/VarHandle" ∧ (parseMethodDescriptor yX4_cardOf.desc).map (fun d => d.parameters.length) = some 1 := by decide +kernel
set_option maxHeartbeats 4000000 in
set_option maxRecDepth 100000 in
theorem c_X4_cardOf (l : Launch) (hfl : l.stackTraces = false) (G : zG_t) (place : Int32) (L : zS_t) (T : zS_t) (E : zS_t) (V : zS_t) (M : zS_t) (K : zS_t) (hIT : zIT T) : zXI l G.1 (zty G) yX4_cardOf wsX4_cardOf rmX4_cardOf [.ref (G.2.2 0 0), .int place] (zWL G L T E V M K) ((mX4_cardOf place T).1) ((mX4_cardOf place T).2) (zWL G L T E V M K) := by
  obtain ⟨X, hE⟩ : ∃ z, mX4_cardOf place T = z := ⟨_, rfl⟩
  rw [hE]
  refine zx_I hfl (cc := cX4_cardOf) (maxL := 2) (by decide) rfl rfl (Nat.le_of_ble_eq_true rfl) rfl rfl ?_
  intro p e s m args below meth c Q A F hsx hret hthr hout
  show zW p l e rmX4_cardOf s m args below meth c 0 0 Q G.1 A 2 (zWL G L T E V M K) [(0, .ref (G.2.2 0 0)), (1, .int place)] 0 []
  have k_0 : Int32.toInt 0 = 0 := by decide
  have k_1 : Int32.toInt 1 = 1 := by decide
  obtain ⟨i12, i13⟩ := id hIT
  unfold mX4_cardOf at hE
  refine zi_aload_n (pc := 0) F dX4_cardOf_0 0 rfl ?_
  refine zi_get (pc := 1) (C := RX4) (T := TX4) (N := 11) (v := .ref (G.2.2 1 0)) F (hw_X4_cardOf_X4) 0 rfl rfl 1 (by decide) (List.mem_of_getElem? (i := 3) rfl) rfl rfl dX4_cardOf_1 ?_
  refine zi_iload_n (pc := 4) F dX4_cardOf_4 1 rfl ?_
  have hM3 := c_X2_has l G place T 
  have pp4 := pp_X2_has place T 
  obtain ⟨r1, e2⟩ : ∃ z, mX2_has place T = z := ⟨_, rfl⟩
  have hE := zbnd_cut hE e2
  rw [e2] at hM3
  rw [e2] at pp4
  obtain ⟨hbr1, q5, q6⟩ := pp4
  refine zi_callVI (pc := 5) (rest := []) (ws' := zWL G L T E V M K) F hM3 (cwV 1 F.1.2.2.2.2 gX4_cardOf_X2_has rfl rfl rfl hd_X2_has ⟨Nat.le_of_ble_eq_true rfl, Nat.le_of_ble_eq_true rfl⟩) 0 rfl rfl _ _ (zwL_T G L T E V M K) (zwL_T G L T E V M K).symm rfl rfl (Nat.le_of_ble_eq_true rfl) dX4_cardOf_5 ⟨Nat.zero_le _, Nat.zero_le _⟩ ?_
  refine zi_if_ne (pc := 8) (tgt := 21) F dX4_cardOf_8 (by decide) (fun c7 => ?_) (fun c7 => ?_)
  · have hE := zite_f hE c7
    have t8 := zt_ne c7
    refine zi_aload_n (pc := 21) F dX4_cardOf_21 0 rfl ?_
    refine zi_get (pc := 22) (C := RX4) (T := TX4) (N := 11) (v := .ref (G.2.2 1 0)) F (hw_X4_cardOf_X4) 0 rfl rfl 1 (by decide) (List.mem_of_getElem? (i := 3) rfl) rfl rfl dX4_cardOf_22 ?_
    refine zi_get (pc := 25) (C := RX2) (T := TX2) (N := 5) (v := .ref (G.2.2 1 1)) F (hw_X4_cardOf_X2) 8 rfl rfl 0 (by decide) (List.mem_of_getElem? (i := 4) rfl) rfl rfl dX4_cardOf_25 ?_
    refine zi_iload_n (pc := 28) F dX4_cardOf_28 1 rfl ?_
    refine zi_iald (pc := 29) (v := (T 0 place.toNatClampNeg)) F 9 0 rfl rfl (zin (a := place) (by omega) (by omega)) rfl dX4_cardOf_29 ?_
    subst hE
    exact hret _ _ _ _ (Nat.le_of_ble_eq_true rfl) (Nat.le_of_ble_eq_true rfl) dX4_cardOf_30 rfl
  · have hE := zite_t hE c7
    have t9 := congrArg Int32.toInt c7
    subst hE
    exact hthr 11 41 119 45 "java/lang/IndexOutOfBoundsException" "no such thing" _ rfl ⟨⟨dX4_cardOf_11, dX4_cardOf_14, dX4_cardOf_15, dX4_cardOf_17, dX4_cardOf_20⟩, (List.mem_of_getElem? (i := 1) rfl), (List.mem_of_getElem? (i := 2) rfl), by decide, by decide, fun w h => List.mem_cons_of_mem _ (List.mem_append_right _ (h)), zng_45, zgd_45, Nat.le_of_ble_eq_true rfl, Nat.le_of_ble_eq_true rfl⟩
/-! X4_obstacle -/
def mX4_obstacle (card : Int32) (target : Int32) (L : zS_t) (T : zS_t) (E : zS_t) : Option String × Int32 := if card < 0 then (some "java/lang/IndexOutOfBoundsException", 0) else (if card < 14 then (zbnd (mX4_findObstacle card target L T E) (fun r6 => (none, r6))) else (some "java/lang/IndexOutOfBoundsException", 0))
set_option maxHeartbeats 4000000 in
set_option maxRecDepth 100000 in
theorem pp_X4_obstacle (card : Int32) (target : Int32) (L : zS_t) (T : zS_t) (E : zS_t) (hIE : zIE E) : (((mX4_obstacle card target L T E).1) = none ∨ ((mX4_obstacle card target L T E).1) = some "java/lang/IndexOutOfBoundsException") := by
  obtain ⟨X, hE⟩ : ∃ z, mX4_obstacle card target L T E = z := ⟨_, rfl⟩
  rw [hE]
  have k_0 : Int32.toInt 0 = 0 := by decide
  have k_1 : Int32.toInt 1 = 1 := by decide
  have k_14 : Int32.toInt 14 = 14 := by decide
  obtain ⟨⟨i10, i11⟩, hIE_b1⟩ := id hIE
  unfold mX4_obstacle at hE
  by_cases c1 : card < 0
  · have hE := zite_t hE c1
    have t2 := zt_lt c1
    subst hE
    exact (by first | exact Or.inl rfl | exact Or.inr rfl | exact Or.inr (Or.inl rfl) | exact Or.inr (Or.inr rfl) | assumption)
  · have hE := zite_f hE c1
    have t3 := zt_nlt c1
    by_cases c4 : card < 14
    · have hE := zite_t hE c4
      have t5 := zt_lt c4
      obtain ⟨r6, e7⟩ : ∃ z, mX4_findObstacle card target L T E = z := ⟨_, rfl⟩
      have hE := zbnd_cut hE e7
      subst hE
      exact (by first | exact Or.inl rfl | exact Or.inr rfl | exact Or.inr (Or.inl rfl) | exact Or.inr (Or.inr rfl) | assumption)
    · have hE := zite_f hE c4
      have t9 := zt_nlt c4
      subst hE
      exact (by first | exact Or.inl rfl | exact Or.inr rfl | exact Or.inr (Or.inl rfl) | exact Or.inr (Or.inr rfl) | assumption)
abbrev rmX4_obstacle : Room := { frames := 6, cells := 1, slots := 6, locals := 86 }
theorem hd_X4_obstacle : yX4_obstacle.cls = RX4 ∧ yX4_obstacle.cls ≠ "java/lang/invoke/MethodHandle" ∧ yX4_obstacle.cls ≠ "java/lang/invoke/VarHandle" ∧ (parseMethodDescriptor yX4_obstacle.desc).map (fun d => d.parameters.length) = some 2 := by decide +kernel
set_option maxHeartbeats 4000000 in
set_option maxRecDepth 100000 in
theorem c_X4_obstacle (l : Launch) (hfl : l.stackTraces = false) (G : zG_t) (card : Int32) (target : Int32) (L : zS_t) (T : zS_t) (E : zS_t) (V : zS_t) (M : zS_t) (K : zS_t) (hIE : zIE E) : zXI l G.1 (zty G) yX4_obstacle wsX4_obstacle rmX4_obstacle [.ref (G.2.2 0 0), .int card, .int target] (zWL G L T E V M K) ((mX4_obstacle card target L T E).1) ((mX4_obstacle card target L T E).2) (zWL G L T E V M K) := by
  obtain ⟨X, hE⟩ : ∃ z, mX4_obstacle card target L T E = z := ⟨_, rfl⟩
  rw [hE]
  refine zx_I hfl (cc := cX4_obstacle) (maxL := 3) (by decide) rfl rfl (Nat.le_of_ble_eq_true rfl) rfl rfl ?_
  intro p e s m args below meth c Q A F hsx hret hthr hout
  show zW p l e rmX4_obstacle s m args below meth c 0 0 Q G.1 A 3 (zWL G L T E V M K) [(0, .ref (G.2.2 0 0)), (1, .int card), (2, .int target)] 0 []
  have k_0 : Int32.toInt 0 = 0 := by decide
  have k_1 : Int32.toInt 1 = 1 := by decide
  have k_14 : Int32.toInt 14 = 14 := by decide
  obtain ⟨⟨i12, i13⟩, hIE_b1⟩ := id hIE
  unfold mX4_obstacle at hE
  refine zi_iload_n (pc := 0) F dX4_obstacle_0 1 rfl ?_
  refine zi_if_lt (pc := 1) (tgt := 10) F dX4_obstacle_1 (by decide) (fun c1 => ?_) (fun c1 => ?_)
  · have hE := zite_t hE c1
    have t2 := zt_lt c1
    subst hE
    exact hthr 10 41 43 45 "java/lang/IndexOutOfBoundsException" "no such card" _ rfl ⟨⟨dX4_obstacle_10, dX4_obstacle_13, dX4_obstacle_14, dX4_obstacle_16, dX4_obstacle_19⟩, (List.mem_of_getElem? (i := 1) rfl), (List.mem_of_getElem? (i := 2) rfl), by decide, by decide, fun w h => List.mem_cons_of_mem _ (List.mem_append_right _ (h)), zng_45, zgd_45, Nat.le_of_ble_eq_true rfl, Nat.le_of_ble_eq_true rfl⟩
  · have hE := zite_f hE c1
    have t3 := zt_nlt c1
    refine zi_iload_n (pc := 4) F dX4_obstacle_4 1 rfl ?_
    refine zi_bipush (pc := 5) (v := 14) F dX4_obstacle_5 rfl ?_
    refine zi_icmp_lt (pc := 7) (tgt := 20) F dX4_obstacle_7 (by decide) (fun c4 => ?_) (fun c4 => ?_)
    · have hE := zite_t hE c4
      have t5 := zt_lt c4
      refine zi_aload_n (pc := 20) F dX4_obstacle_20 0 rfl ?_
      refine zi_iload_n (pc := 21) F dX4_obstacle_21 1 rfl ?_
      refine zi_iload_n (pc := 22) F dX4_obstacle_22 2 rfl ?_
      have hM8 := c_X4_findObstacle l G card target L T E V M K (hIE)
      obtain ⟨r6, e7⟩ : ∃ z, mX4_findObstacle card target L T E = z := ⟨_, rfl⟩
      have hE := zbnd_cut hE e7
      rw [e7] at hM8
      refine zi_callVI (pc := 23) (rest := []) (ws' := zWL G L T E V M K) F hM8 (cwV 2 F.1.2.2.2.2 gX4_obstacle_X4_findObstacle rfl rfl rfl hd_X4_findObstacle ⟨Nat.le_of_ble_eq_true rfl, Nat.le_of_ble_eq_true rfl⟩) 0 rfl rfl _ _ (zw_nil _) (zw_nil _).symm rfl rfl (Nat.le_of_ble_eq_true rfl) dX4_obstacle_23 ⟨Nat.zero_le _, Nat.zero_le _⟩ ?_
      subst hE
      exact hret _ _ _ _ (Nat.le_of_ble_eq_true rfl) (Nat.le_of_ble_eq_true rfl) dX4_obstacle_26 rfl
    · have hE := zite_f hE c4
      have t9 := zt_nlt c4
      subst hE
      exact hthr 10 41 43 45 "java/lang/IndexOutOfBoundsException" "no such card" _ rfl ⟨⟨dX4_obstacle_10, dX4_obstacle_13, dX4_obstacle_14, dX4_obstacle_16, dX4_obstacle_19⟩, (List.mem_of_getElem? (i := 1) rfl), (List.mem_of_getElem? (i := 2) rfl), by decide, by decide, fun w h => List.mem_cons_of_mem _ (List.mem_append_right _ (h)), zng_45, zgd_45, Nat.le_of_ble_eq_true rfl, Nat.le_of_ble_eq_true rfl⟩
/-! X4_entryCard -/
def mX4_entryCard (place : Int32) (E : zS_t) : Option String × Int32 := zbnd (mX0_has place E) (fun r1 => if r1 = 0 then (some "java/lang/IndexOutOfBoundsException", 0) else (zbnd (mX0_indexOf place E) (fun r9 => (none, (E 0 r9.toNatClampNeg)))))
set_option maxHeartbeats 4000000 in
set_option maxRecDepth 100000 in
theorem pp_X4_entryCard (place : Int32) (E : zS_t) (hIE : zIE E) : (((mX4_entryCard place E).1) = none ∨ ((mX4_entryCard place E).1) = some "java/lang/IndexOutOfBoundsException") := by
  obtain ⟨X, hE⟩ : ∃ z, mX4_entryCard place E = z := ⟨_, rfl⟩
  rw [hE]
  have k_0 : Int32.toInt 0 = 0 := by decide
  have k_1 : Int32.toInt 1 = 1 := by decide
  obtain ⟨⟨i15, i16⟩, hIE_b1⟩ := id hIE
  unfold mX4_entryCard at hE
  have pp4 := pp_X0_has place E 
  obtain ⟨r1, e2⟩ : ∃ z, mX0_has place E = z := ⟨_, rfl⟩
  have hE := zbnd_cut hE e2
  rw [e2] at pp4
  obtain ⟨hbr1, q5, q6⟩ := pp4
  by_cases c7 : r1 = 0
  · have hE := zite_t hE c7
    have t8 := congrArg Int32.toInt c7
    subst hE
    exact (by first | exact Or.inl rfl | exact Or.inr rfl | exact Or.inr (Or.inl rfl) | exact Or.inr (Or.inr rfl) | assumption)
  · have hE := zite_f hE c7
    have t9 := zt_ne c7
    have pp13 := pp_X0_indexOf place E (hIE)
    obtain ⟨r10, e11⟩ : ∃ z, mX0_indexOf place E = z := ⟨_, rfl⟩
    have hE := zbnd_cut hE e11
    rw [e11] at pp13
    have q14 := pp13
    subst hE
    exact (by first | exact Or.inl rfl | exact Or.inr rfl | exact Or.inr (Or.inl rfl) | exact Or.inr (Or.inr rfl) | assumption)
theorem hw_X4_entryCard_X0 : ∀ w ∈ wsX00, w ∈ wsX4_entryCard := fun w h => List.mem_cons_of_mem _ (List.mem_append_left _ (List.mem_append_right _ (h)))
theorem hw_X4_entryCard_X4 : ∀ w ∈ wsX40, w ∈ wsX4_entryCard := fun w h => List.mem_cons_of_mem _ (List.mem_append_left _ (List.mem_append_left _ (List.mem_append_right _ (h))))
abbrev rmX4_entryCard : Room := { frames := 6, cells := 1, slots := 6, locals := 82 }
theorem hd_X4_entryCard : yX4_entryCard.cls = RX4 ∧ yX4_entryCard.cls ≠ "java/lang/invoke/MethodHandle" ∧ yX4_entryCard.cls ≠ "java/lang/invoke/VarHandle" ∧ (parseMethodDescriptor yX4_entryCard.desc).map (fun d => d.parameters.length) = some 1 := by decide +kernel
set_option maxHeartbeats 4000000 in
set_option maxRecDepth 100000 in
theorem c_X4_entryCard (l : Launch) (hfl : l.stackTraces = false) (G : zG_t) (place : Int32) (L : zS_t) (T : zS_t) (E : zS_t) (V : zS_t) (M : zS_t) (K : zS_t) (hIE : zIE E) : zXI l G.1 (zty G) yX4_entryCard wsX4_entryCard rmX4_entryCard [.ref (G.2.2 0 0), .int place] (zWL G L T E V M K) ((mX4_entryCard place E).1) ((mX4_entryCard place E).2) (zWL G L T E V M K) := by
  obtain ⟨X, hE⟩ : ∃ z, mX4_entryCard place E = z := ⟨_, rfl⟩
  rw [hE]
  refine zx_I hfl (cc := cX4_entryCard) (maxL := 2) (by decide) rfl rfl (Nat.le_of_ble_eq_true rfl) rfl rfl ?_
  intro p e s m args below meth c Q A F hsx hret hthr hout
  show zW p l e rmX4_entryCard s m args below meth c 0 0 Q G.1 A 2 (zWL G L T E V M K) [(0, .ref (G.2.2 0 0)), (1, .int place)] 0 []
  have k_0 : Int32.toInt 0 = 0 := by decide
  have k_1 : Int32.toInt 1 = 1 := by decide
  obtain ⟨⟨i17, i18⟩, hIE_b1⟩ := id hIE
  unfold mX4_entryCard at hE
  refine zi_aload_n (pc := 0) F dX4_entryCard_0 0 rfl ?_
  refine zi_get (pc := 1) (C := RX4) (T := TX4) (N := 11) (v := .ref (G.2.2 2 0)) F (hw_X4_entryCard_X4) 0 rfl rfl 2 (by decide) (List.mem_of_getElem? (i := 3) rfl) rfl rfl dX4_entryCard_1 ?_
  refine zi_iload_n (pc := 4) F dX4_entryCard_4 1 rfl ?_
  have hM3 := c_X0_has l G place E 
  have pp4 := pp_X0_has place E 
  obtain ⟨r1, e2⟩ : ∃ z, mX0_has place E = z := ⟨_, rfl⟩
  have hE := zbnd_cut hE e2
  rw [e2] at hM3
  rw [e2] at pp4
  obtain ⟨hbr1, q5, q6⟩ := pp4
  refine zi_callVI (pc := 5) (rest := []) (ws' := zWL G L T E V M K) F hM3 (cwV 1 F.1.2.2.2.2 gX4_entryCard_X0_has rfl rfl rfl hd_X0_has ⟨Nat.le_of_ble_eq_true rfl, Nat.le_of_ble_eq_true rfl⟩) 0 rfl rfl _ _ (zwL_E G L T E V M K) (zwL_E G L T E V M K).symm rfl rfl (Nat.le_of_ble_eq_true rfl) dX4_entryCard_5 ⟨Nat.zero_le _, Nat.zero_le _⟩ ?_
  refine zi_if_ne (pc := 8) (tgt := 21) F dX4_entryCard_8 (by decide) (fun c7 => ?_) (fun c7 => ?_)
  · have hE := zite_f hE c7
    have t8 := zt_ne c7
    refine zi_aload_n (pc := 21) F dX4_entryCard_21 0 rfl ?_
    refine zi_get (pc := 22) (C := RX4) (T := TX4) (N := 11) (v := .ref (G.2.2 2 0)) F (hw_X4_entryCard_X4) 0 rfl rfl 2 (by decide) (List.mem_of_getElem? (i := 3) rfl) rfl rfl dX4_entryCard_22 ?_
    refine zi_get (pc := 25) (C := RX0) (T := TX0) (N := 6) (v := .ref (G.2.2 2 1)) F (hw_X4_entryCard_X0) 2 rfl rfl 0 (by decide) (List.mem_of_getElem? (i := 4) rfl) rfl rfl dX4_entryCard_25 ?_
    refine zi_aload_n (pc := 28) F dX4_entryCard_28 0 rfl ?_
    refine zi_get (pc := 29) (C := RX4) (T := TX4) (N := 11) (v := .ref (G.2.2 2 0)) F (hw_X4_entryCard_X4) 0 rfl rfl 2 (by decide) (List.mem_of_getElem? (i := 3) rfl) rfl rfl dX4_entryCard_29 ?_
    refine zi_iload_n (pc := 32) F dX4_entryCard_32 1 rfl ?_
    have hM11 := c_X0_indexOf l G place E (hIE)
    have pp12 := pp_X0_indexOf place E (hIE)
    obtain ⟨r9, e10⟩ : ∃ z, mX0_indexOf place E = z := ⟨_, rfl⟩
    have hE := zbnd_cut hE e10
    rw [e10] at hM11
    rw [e10] at pp12
    have q13 := pp12
    refine zi_callVI (pc := 33) (rest := [.ref (G.2.2 2 1)]) (ws' := zWL G L T E V M K) F hM11 (cwV 1 F.1.2.2.2.2 gX4_entryCard_X0_indexOf rfl rfl rfl hd_X0_indexOf ⟨Nat.le_of_ble_eq_true rfl, Nat.le_of_ble_eq_true rfl⟩) 0 rfl rfl _ _ (zwL_E G L T E V M K) (zwL_E G L T E V M K).symm rfl rfl (Nat.le_of_ble_eq_true rfl) dX4_entryCard_33 ⟨Nat.zero_le _, Nat.zero_le _⟩ ?_
    refine zi_iald (pc := 36) (v := (E 0 r9.toNatClampNeg)) F 3 0 rfl rfl (zin (a := r9) (by omega) (by omega)) rfl dX4_entryCard_36 ?_
    subst hE
    exact hret _ _ _ _ (Nat.le_of_ble_eq_true rfl) (Nat.le_of_ble_eq_true rfl) dX4_entryCard_37 rfl
  · have hE := zite_t hE c7
    have t14 := congrArg Int32.toInt c7
    subst hE
    exact hthr 11 41 141 45 "java/lang/IndexOutOfBoundsException" "no such entry" _ rfl ⟨⟨dX4_entryCard_11, dX4_entryCard_14, dX4_entryCard_15, dX4_entryCard_17, dX4_entryCard_20⟩, (List.mem_of_getElem? (i := 1) rfl), (List.mem_of_getElem? (i := 2) rfl), by decide, by decide, fun w h => List.mem_cons_of_mem _ (List.mem_append_right _ (h)), zng_45, zgd_45, Nat.le_of_ble_eq_true rfl, Nat.le_of_ble_eq_true rfl⟩
/-! X4_isTrigger -/
def mX4_isTrigger (place : Int32) (E : zS_t) : Option String × Int32 := zbnd (mX0_has place E) (fun r1 => if r1 = 0 then (some "java/lang/IndexOutOfBoundsException", 0) else (zbnd (mX0_indexOf place E) (fun r9 => (none, (E 1 r9.toNatClampNeg)))))
set_option maxHeartbeats 4000000 in
set_option maxRecDepth 100000 in
theorem pp_X4_isTrigger (place : Int32) (E : zS_t) (hIE : zIE E) : ((mX4_isTrigger place E).2 = 0 ∨ (mX4_isTrigger place E).2 = 1) ∧ (((mX4_isTrigger place E).1) = none ∨ ((mX4_isTrigger place E).1) = some "java/lang/IndexOutOfBoundsException") := by
  obtain ⟨X, hE⟩ : ∃ z, mX4_isTrigger place E = z := ⟨_, rfl⟩
  rw [hE]
  have k_0 : Int32.toInt 0 = 0 := by decide
  have k_1 : Int32.toInt 1 = 1 := by decide
  obtain ⟨⟨i15, i16⟩, hIE_b1⟩ := id hIE
  unfold mX4_isTrigger at hE
  have pp4 := pp_X0_has place E 
  obtain ⟨r1, e2⟩ : ∃ z, mX0_has place E = z := ⟨_, rfl⟩
  have hE := zbnd_cut hE e2
  rw [e2] at pp4
  obtain ⟨hbr1, q5, q6⟩ := pp4
  by_cases c7 : r1 = 0
  · have hE := zite_t hE c7
    have t8 := congrArg Int32.toInt c7
    subst hE
    exact ⟨Or.inl rfl, (by first | exact Or.inl rfl | exact Or.inr rfl | exact Or.inr (Or.inl rfl) | exact Or.inr (Or.inr rfl) | assumption)⟩
  · have hE := zite_f hE c7
    have t9 := zt_ne c7
    have pp13 := pp_X0_indexOf place E (hIE)
    obtain ⟨r10, e11⟩ : ∃ z, mX0_indexOf place E = z := ⟨_, rfl⟩
    have hE := zbnd_cut hE e11
    rw [e11] at pp13
    have q14 := pp13
    subst hE
    exact ⟨(zbz (hIE_b1 r10.toNatClampNeg)), (by first | exact Or.inl rfl | exact Or.inr rfl | exact Or.inr (Or.inl rfl) | exact Or.inr (Or.inr rfl) | assumption)⟩
theorem hw_X4_isTrigger_X0 : ∀ w ∈ wsX00, w ∈ wsX4_isTrigger := fun w h => List.mem_cons_of_mem _ (List.mem_append_left _ (List.mem_append_right _ (h)))
theorem hw_X4_isTrigger_X4 : ∀ w ∈ wsX40, w ∈ wsX4_isTrigger := fun w h => List.mem_cons_of_mem _ (List.mem_append_left _ (List.mem_append_left _ (List.mem_append_right _ (h))))
abbrev rmX4_isTrigger : Room := { frames := 6, cells := 1, slots := 6, locals := 82 }
theorem hd_X4_isTrigger : yX4_isTrigger.cls = RX4 ∧ yX4_isTrigger.cls ≠ "java/lang/invoke/MethodHandle" ∧ yX4_isTrigger.cls ≠ "java/lang/invoke/VarHandle" ∧ (parseMethodDescriptor yX4_isTrigger.desc).map (fun d => d.parameters.length) = some 1 := by decide +kernel
set_option maxHeartbeats 4000000 in
set_option maxRecDepth 100000 in
theorem c_X4_isTrigger (l : Launch) (hfl : l.stackTraces = false) (G : zG_t) (place : Int32) (L : zS_t) (T : zS_t) (E : zS_t) (V : zS_t) (M : zS_t) (K : zS_t) (hIE : zIE E) : zXI l G.1 (zty G) yX4_isTrigger wsX4_isTrigger rmX4_isTrigger [.ref (G.2.2 0 0), .int place] (zWL G L T E V M K) ((mX4_isTrigger place E).1) ((mX4_isTrigger place E).2) (zWL G L T E V M K) := by
  obtain ⟨X, hE⟩ : ∃ z, mX4_isTrigger place E = z := ⟨_, rfl⟩
  rw [hE]
  refine zx_Z hfl (cc := cX4_isTrigger) (maxL := 2) (by decide) rfl rfl (Nat.le_of_ble_eq_true rfl) rfl rfl ?_
  intro p e s m args below meth c Q A F hsx hret hthr hout
  show zW p l e rmX4_isTrigger s m args below meth c 0 0 Q G.1 A 2 (zWL G L T E V M K) [(0, .ref (G.2.2 0 0)), (1, .int place)] 0 []
  have k_0 : Int32.toInt 0 = 0 := by decide
  have k_1 : Int32.toInt 1 = 1 := by decide
  obtain ⟨⟨i17, i18⟩, hIE_b1⟩ := id hIE
  unfold mX4_isTrigger at hE
  refine zi_aload_n (pc := 0) F dX4_isTrigger_0 0 rfl ?_
  refine zi_get (pc := 1) (C := RX4) (T := TX4) (N := 11) (v := .ref (G.2.2 2 0)) F (hw_X4_isTrigger_X4) 0 rfl rfl 2 (by decide) (List.mem_of_getElem? (i := 3) rfl) rfl rfl dX4_isTrigger_1 ?_
  refine zi_iload_n (pc := 4) F dX4_isTrigger_4 1 rfl ?_
  have hM3 := c_X0_has l G place E 
  have pp4 := pp_X0_has place E 
  obtain ⟨r1, e2⟩ : ∃ z, mX0_has place E = z := ⟨_, rfl⟩
  have hE := zbnd_cut hE e2
  rw [e2] at hM3
  rw [e2] at pp4
  obtain ⟨hbr1, q5, q6⟩ := pp4
  refine zi_callVI (pc := 5) (rest := []) (ws' := zWL G L T E V M K) F hM3 (cwV 1 F.1.2.2.2.2 gX4_isTrigger_X0_has rfl rfl rfl hd_X0_has ⟨Nat.le_of_ble_eq_true rfl, Nat.le_of_ble_eq_true rfl⟩) 0 rfl rfl _ _ (zwL_E G L T E V M K) (zwL_E G L T E V M K).symm rfl rfl (Nat.le_of_ble_eq_true rfl) dX4_isTrigger_5 ⟨Nat.zero_le _, Nat.zero_le _⟩ ?_
  refine zi_if_ne (pc := 8) (tgt := 21) F dX4_isTrigger_8 (by decide) (fun c7 => ?_) (fun c7 => ?_)
  · have hE := zite_f hE c7
    have t8 := zt_ne c7
    refine zi_aload_n (pc := 21) F dX4_isTrigger_21 0 rfl ?_
    refine zi_get (pc := 22) (C := RX4) (T := TX4) (N := 11) (v := .ref (G.2.2 2 0)) F (hw_X4_isTrigger_X4) 0 rfl rfl 2 (by decide) (List.mem_of_getElem? (i := 3) rfl) rfl rfl dX4_isTrigger_22 ?_
    refine zi_get (pc := 25) (C := RX0) (T := TX0) (N := 6) (v := .ref (G.2.2 2 2)) F (hw_X4_isTrigger_X0) 2 rfl rfl 1 (by decide) (List.mem_of_getElem? (i := 4) rfl) rfl rfl dX4_isTrigger_25 ?_
    refine zi_aload_n (pc := 28) F dX4_isTrigger_28 0 rfl ?_
    refine zi_get (pc := 29) (C := RX4) (T := TX4) (N := 11) (v := .ref (G.2.2 2 0)) F (hw_X4_isTrigger_X4) 0 rfl rfl 2 (by decide) (List.mem_of_getElem? (i := 3) rfl) rfl rfl dX4_isTrigger_29 ?_
    refine zi_iload_n (pc := 32) F dX4_isTrigger_32 1 rfl ?_
    have hM11 := c_X0_indexOf l G place E (hIE)
    have pp12 := pp_X0_indexOf place E (hIE)
    obtain ⟨r9, e10⟩ : ∃ z, mX0_indexOf place E = z := ⟨_, rfl⟩
    have hE := zbnd_cut hE e10
    rw [e10] at hM11
    rw [e10] at pp12
    have q13 := pp12
    refine zi_callVI (pc := 33) (rest := [.ref (G.2.2 2 2)]) (ws' := zWL G L T E V M K) F hM11 (cwV 1 F.1.2.2.2.2 gX4_isTrigger_X0_indexOf rfl rfl rfl hd_X0_indexOf ⟨Nat.le_of_ble_eq_true rfl, Nat.le_of_ble_eq_true rfl⟩) 0 rfl rfl _ _ (zwL_E G L T E V M K) (zwL_E G L T E V M K).symm rfl rfl (Nat.le_of_ble_eq_true rfl) dX4_isTrigger_33 ⟨Nat.zero_le _, Nat.zero_le _⟩ ?_
    refine zi_zald (pc := 36) (v := (E 1 r9.toNatClampNeg)) F 4 1 rfl rfl (zin (a := r9) (by omega) (by omega)) rfl dX4_isTrigger_36 ?_
    subst hE
    exact hret _ _ _ _ (Nat.le_of_ble_eq_true rfl) (Nat.le_of_ble_eq_true rfl) dX4_isTrigger_37 rfl (znz (hIE_b1 r9.toNatClampNeg))
  · have hE := zite_t hE c7
    have t14 := congrArg Int32.toInt c7
    subst hE
    exact hthr 11 41 141 45 "java/lang/IndexOutOfBoundsException" "no such entry" _ rfl ⟨⟨dX4_isTrigger_11, dX4_isTrigger_14, dX4_isTrigger_15, dX4_isTrigger_17, dX4_isTrigger_20⟩, (List.mem_of_getElem? (i := 1) rfl), (List.mem_of_getElem? (i := 2) rfl), by decide, by decide, fun w h => List.mem_cons_of_mem _ (List.mem_append_right _ (h)), zng_45, zgd_45, Nat.le_of_ble_eq_true rfl, Nat.le_of_ble_eq_true rfl⟩
/-! X4_entryPlayer -/
def mX4_entryPlayer (place : Int32) (E : zS_t) : Option String × Int32 := zbnd (mX0_has place E) (fun r1 => if r1 = 0 then (some "java/lang/IndexOutOfBoundsException", 0) else (zbnd (mX0_indexOf place E) (fun r9 => (none, (E 2 r9.toNatClampNeg)))))
set_option maxHeartbeats 4000000 in
set_option maxRecDepth 100000 in
theorem pp_X4_entryPlayer (place : Int32) (E : zS_t) (hIE : zIE E) : (((mX4_entryPlayer place E).1) = none ∨ ((mX4_entryPlayer place E).1) = some "java/lang/IndexOutOfBoundsException") := by
  obtain ⟨X, hE⟩ : ∃ z, mX4_entryPlayer place E = z := ⟨_, rfl⟩
  rw [hE]
  have k_0 : Int32.toInt 0 = 0 := by decide
  have k_1 : Int32.toInt 1 = 1 := by decide
  obtain ⟨⟨i15, i16⟩, hIE_b1⟩ := id hIE
  unfold mX4_entryPlayer at hE
  have pp4 := pp_X0_has place E 
  obtain ⟨r1, e2⟩ : ∃ z, mX0_has place E = z := ⟨_, rfl⟩
  have hE := zbnd_cut hE e2
  rw [e2] at pp4
  obtain ⟨hbr1, q5, q6⟩ := pp4
  by_cases c7 : r1 = 0
  · have hE := zite_t hE c7
    have t8 := congrArg Int32.toInt c7
    subst hE
    exact (by first | exact Or.inl rfl | exact Or.inr rfl | exact Or.inr (Or.inl rfl) | exact Or.inr (Or.inr rfl) | assumption)
  · have hE := zite_f hE c7
    have t9 := zt_ne c7
    have pp13 := pp_X0_indexOf place E (hIE)
    obtain ⟨r10, e11⟩ : ∃ z, mX0_indexOf place E = z := ⟨_, rfl⟩
    have hE := zbnd_cut hE e11
    rw [e11] at pp13
    have q14 := pp13
    subst hE
    exact (by first | exact Or.inl rfl | exact Or.inr rfl | exact Or.inr (Or.inl rfl) | exact Or.inr (Or.inr rfl) | assumption)
theorem hw_X4_entryPlayer_X0 : ∀ w ∈ wsX00, w ∈ wsX4_entryPlayer := fun w h => List.mem_cons_of_mem _ (List.mem_append_left _ (List.mem_append_right _ (h)))
theorem hw_X4_entryPlayer_X4 : ∀ w ∈ wsX40, w ∈ wsX4_entryPlayer := fun w h => List.mem_cons_of_mem _ (List.mem_append_left _ (List.mem_append_left _ (List.mem_append_right _ (h))))
abbrev rmX4_entryPlayer : Room := { frames := 6, cells := 1, slots := 6, locals := 82 }
theorem hd_X4_entryPlayer : yX4_entryPlayer.cls = RX4 ∧ yX4_entryPlayer.cls ≠ "java/lang/invoke/MethodHandle" ∧ yX4_entryPlayer.cls ≠ "java/lang/invoke/VarHandle" ∧ (parseMethodDescriptor yX4_entryPlayer.desc).map (fun d => d.parameters.length) = some 1 := by decide +kernel
set_option maxHeartbeats 4000000 in
set_option maxRecDepth 100000 in
theorem c_X4_entryPlayer (l : Launch) (hfl : l.stackTraces = false) (G : zG_t) (place : Int32) (L : zS_t) (T : zS_t) (E : zS_t) (V : zS_t) (M : zS_t) (K : zS_t) (hIE : zIE E) : zXI l G.1 (zty G) yX4_entryPlayer wsX4_entryPlayer rmX4_entryPlayer [.ref (G.2.2 0 0), .int place] (zWL G L T E V M K) ((mX4_entryPlayer place E).1) ((mX4_entryPlayer place E).2) (zWL G L T E V M K) := by
  obtain ⟨X, hE⟩ : ∃ z, mX4_entryPlayer place E = z := ⟨_, rfl⟩
  rw [hE]
  refine zx_I hfl (cc := cX4_entryPlayer) (maxL := 2) (by decide) rfl rfl (Nat.le_of_ble_eq_true rfl) rfl rfl ?_
  intro p e s m args below meth c Q A F hsx hret hthr hout
  show zW p l e rmX4_entryPlayer s m args below meth c 0 0 Q G.1 A 2 (zWL G L T E V M K) [(0, .ref (G.2.2 0 0)), (1, .int place)] 0 []
  have k_0 : Int32.toInt 0 = 0 := by decide
  have k_1 : Int32.toInt 1 = 1 := by decide
  obtain ⟨⟨i17, i18⟩, hIE_b1⟩ := id hIE
  unfold mX4_entryPlayer at hE
  refine zi_aload_n (pc := 0) F dX4_entryPlayer_0 0 rfl ?_
  refine zi_get (pc := 1) (C := RX4) (T := TX4) (N := 11) (v := .ref (G.2.2 2 0)) F (hw_X4_entryPlayer_X4) 0 rfl rfl 2 (by decide) (List.mem_of_getElem? (i := 3) rfl) rfl rfl dX4_entryPlayer_1 ?_
  refine zi_iload_n (pc := 4) F dX4_entryPlayer_4 1 rfl ?_
  have hM3 := c_X0_has l G place E 
  have pp4 := pp_X0_has place E 
  obtain ⟨r1, e2⟩ : ∃ z, mX0_has place E = z := ⟨_, rfl⟩
  have hE := zbnd_cut hE e2
  rw [e2] at hM3
  rw [e2] at pp4
  obtain ⟨hbr1, q5, q6⟩ := pp4
  refine zi_callVI (pc := 5) (rest := []) (ws' := zWL G L T E V M K) F hM3 (cwV 1 F.1.2.2.2.2 gX4_entryPlayer_X0_has rfl rfl rfl hd_X0_has ⟨Nat.le_of_ble_eq_true rfl, Nat.le_of_ble_eq_true rfl⟩) 0 rfl rfl _ _ (zwL_E G L T E V M K) (zwL_E G L T E V M K).symm rfl rfl (Nat.le_of_ble_eq_true rfl) dX4_entryPlayer_5 ⟨Nat.zero_le _, Nat.zero_le _⟩ ?_
  refine zi_if_ne (pc := 8) (tgt := 21) F dX4_entryPlayer_8 (by decide) (fun c7 => ?_) (fun c7 => ?_)
  · have hE := zite_f hE c7
    have t8 := zt_ne c7
    refine zi_aload_n (pc := 21) F dX4_entryPlayer_21 0 rfl ?_
    refine zi_get (pc := 22) (C := RX4) (T := TX4) (N := 11) (v := .ref (G.2.2 2 0)) F (hw_X4_entryPlayer_X4) 0 rfl rfl 2 (by decide) (List.mem_of_getElem? (i := 3) rfl) rfl rfl dX4_entryPlayer_22 ?_
    refine zi_get (pc := 25) (C := RX0) (T := TX0) (N := 6) (v := .ref (G.2.2 2 3)) F (hw_X4_entryPlayer_X0) 2 rfl rfl 2 (by decide) (List.mem_of_getElem? (i := 4) rfl) rfl rfl dX4_entryPlayer_25 ?_
    refine zi_aload_n (pc := 28) F dX4_entryPlayer_28 0 rfl ?_
    refine zi_get (pc := 29) (C := RX4) (T := TX4) (N := 11) (v := .ref (G.2.2 2 0)) F (hw_X4_entryPlayer_X4) 0 rfl rfl 2 (by decide) (List.mem_of_getElem? (i := 3) rfl) rfl rfl dX4_entryPlayer_29 ?_
    refine zi_iload_n (pc := 32) F dX4_entryPlayer_32 1 rfl ?_
    have hM11 := c_X0_indexOf l G place E (hIE)
    have pp12 := pp_X0_indexOf place E (hIE)
    obtain ⟨r9, e10⟩ : ∃ z, mX0_indexOf place E = z := ⟨_, rfl⟩
    have hE := zbnd_cut hE e10
    rw [e10] at hM11
    rw [e10] at pp12
    have q13 := pp12
    refine zi_callVI (pc := 33) (rest := [.ref (G.2.2 2 3)]) (ws' := zWL G L T E V M K) F hM11 (cwV 1 F.1.2.2.2.2 gX4_entryPlayer_X0_indexOf rfl rfl rfl hd_X0_indexOf ⟨Nat.le_of_ble_eq_true rfl, Nat.le_of_ble_eq_true rfl⟩) 0 rfl rfl _ _ (zwL_E G L T E V M K) (zwL_E G L T E V M K).symm rfl rfl (Nat.le_of_ble_eq_true rfl) dX4_entryPlayer_33 ⟨Nat.zero_le _, Nat.zero_le _⟩ ?_
    refine zi_iald (pc := 36) (v := (E 2 r9.toNatClampNeg)) F 5 0 rfl rfl (zin (a := r9) (by omega) (by omega)) rfl dX4_entryPlayer_36 ?_
    subst hE
    exact hret _ _ _ _ (Nat.le_of_ble_eq_true rfl) (Nat.le_of_ble_eq_true rfl) dX4_entryPlayer_37 rfl
  · have hE := zite_t hE c7
    have t14 := congrArg Int32.toInt c7
    subst hE
    exact hthr 11 41 141 45 "java/lang/IndexOutOfBoundsException" "no such entry" _ rfl ⟨⟨dX4_entryPlayer_11, dX4_entryPlayer_14, dX4_entryPlayer_15, dX4_entryPlayer_17, dX4_entryPlayer_20⟩, (List.mem_of_getElem? (i := 1) rfl), (List.mem_of_getElem? (i := 2) rfl), by decide, by decide, fun w h => List.mem_cons_of_mem _ (List.mem_append_right _ (h)), zng_45, zgd_45, Nat.le_of_ble_eq_true rfl, Nat.le_of_ble_eq_true rfl⟩
/-! X4_entryTarget -/
def mX4_entryTarget (place : Int32) (T : zS_t) (E : zS_t) : Option String × Int32 := zbnd (mX0_has place E) (fun r1 => if r1 = 0 then (some "java/lang/IndexOutOfBoundsException", 0) else (zbnd (mX0_indexOf place E) (fun r9 => zbnd (mX4_targetPlace r9 T E) (fun r14 => (none, r14)))))
set_option maxHeartbeats 4000000 in
set_option maxRecDepth 100000 in
theorem pp_X4_entryTarget (place : Int32) (T : zS_t) (E : zS_t) (hIT : zIT T) (hIE : zIE E) : (((mX4_entryTarget place T E).1) = none ∨ ((mX4_entryTarget place T E).1) = some "java/lang/IndexOutOfBoundsException") := by
  obtain ⟨X, hE⟩ : ∃ z, mX4_entryTarget place T E = z := ⟨_, rfl⟩
  rw [hE]
  have k_0 : Int32.toInt 0 = 0 := by decide
  have k_1 : Int32.toInt 1 = 1 := by decide
  obtain ⟨i18, i19⟩ := id hIT
  obtain ⟨⟨i20, i21⟩, hIE_b1⟩ := id hIE
  unfold mX4_entryTarget at hE
  have pp4 := pp_X0_has place E 
  obtain ⟨r1, e2⟩ : ∃ z, mX0_has place E = z := ⟨_, rfl⟩
  have hE := zbnd_cut hE e2
  rw [e2] at pp4
  obtain ⟨hbr1, q5, q6⟩ := pp4
  by_cases c7 : r1 = 0
  · have hE := zite_t hE c7
    have t8 := congrArg Int32.toInt c7
    subst hE
    exact (by first | exact Or.inl rfl | exact Or.inr rfl | exact Or.inr (Or.inl rfl) | exact Or.inr (Or.inr rfl) | assumption)
  · have hE := zite_f hE c7
    have t9 := zt_ne c7
    have pp13 := pp_X0_indexOf place E (hIE)
    obtain ⟨r10, e11⟩ : ∃ z, mX0_indexOf place E = z := ⟨_, rfl⟩
    have hE := zbnd_cut hE e11
    rw [e11] at pp13
    have q14 := pp13
    obtain ⟨r15, e16⟩ : ∃ z, mX4_targetPlace r10 T E = z := ⟨_, rfl⟩
    have hE := zbnd_cut hE e16
    subst hE
    exact (by first | exact Or.inl rfl | exact Or.inr rfl | exact Or.inr (Or.inl rfl) | exact Or.inr (Or.inr rfl) | assumption)
theorem hw_X4_entryTarget_X4 : ∀ w ∈ wsX40, w ∈ wsX4_entryTarget := fun w h => List.mem_cons_of_mem _ (List.mem_append_left _ (List.mem_append_left _ (List.mem_append_left _ (List.mem_append_right _ (h)))))
abbrev rmX4_entryTarget : Room := { frames := 6, cells := 1, slots := 6, locals := 82 }
theorem hd_X4_entryTarget : yX4_entryTarget.cls = RX4 ∧ yX4_entryTarget.cls ≠ "java/lang/invoke/MethodHandle" ∧ yX4_entryTarget.cls ≠ "java/lang/invoke/VarHandle" ∧ (parseMethodDescriptor yX4_entryTarget.desc).map (fun d => d.parameters.length) = some 1 := by decide +kernel
set_option maxHeartbeats 4000000 in
set_option maxRecDepth 100000 in
theorem c_X4_entryTarget (l : Launch) (hfl : l.stackTraces = false) (G : zG_t) (place : Int32) (L : zS_t) (T : zS_t) (E : zS_t) (V : zS_t) (M : zS_t) (K : zS_t) (hIT : zIT T) (hIE : zIE E) : zXI l G.1 (zty G) yX4_entryTarget wsX4_entryTarget rmX4_entryTarget [.ref (G.2.2 0 0), .int place] (zWL G L T E V M K) ((mX4_entryTarget place T E).1) ((mX4_entryTarget place T E).2) (zWL G L T E V M K) := by
  obtain ⟨X, hE⟩ : ∃ z, mX4_entryTarget place T E = z := ⟨_, rfl⟩
  rw [hE]
  refine zx_I hfl (cc := cX4_entryTarget) (maxL := 2) (by decide) rfl rfl (Nat.le_of_ble_eq_true rfl) rfl rfl ?_
  intro p e s m args below meth c Q A F hsx hret hthr hout
  show zW p l e rmX4_entryTarget s m args below meth c 0 0 Q G.1 A 2 (zWL G L T E V M K) [(0, .ref (G.2.2 0 0)), (1, .int place)] 0 []
  have k_0 : Int32.toInt 0 = 0 := by decide
  have k_1 : Int32.toInt 1 = 1 := by decide
  obtain ⟨i22, i23⟩ := id hIT
  obtain ⟨⟨i24, i25⟩, hIE_b1⟩ := id hIE
  unfold mX4_entryTarget at hE
  refine zi_aload_n (pc := 0) F dX4_entryTarget_0 0 rfl ?_
  refine zi_get (pc := 1) (C := RX4) (T := TX4) (N := 11) (v := .ref (G.2.2 2 0)) F (hw_X4_entryTarget_X4) 0 rfl rfl 2 (by decide) (List.mem_of_getElem? (i := 3) rfl) rfl rfl dX4_entryTarget_1 ?_
  refine zi_iload_n (pc := 4) F dX4_entryTarget_4 1 rfl ?_
  have hM3 := c_X0_has l G place E 
  have pp4 := pp_X0_has place E 
  obtain ⟨r1, e2⟩ : ∃ z, mX0_has place E = z := ⟨_, rfl⟩
  have hE := zbnd_cut hE e2
  rw [e2] at hM3
  rw [e2] at pp4
  obtain ⟨hbr1, q5, q6⟩ := pp4
  refine zi_callVI (pc := 5) (rest := []) (ws' := zWL G L T E V M K) F hM3 (cwV 1 F.1.2.2.2.2 gX4_entryTarget_X0_has rfl rfl rfl hd_X0_has ⟨Nat.le_of_ble_eq_true rfl, Nat.le_of_ble_eq_true rfl⟩) 0 rfl rfl _ _ (zwL_E G L T E V M K) (zwL_E G L T E V M K).symm rfl rfl (Nat.le_of_ble_eq_true rfl) dX4_entryTarget_5 ⟨Nat.zero_le _, Nat.zero_le _⟩ ?_
  refine zi_if_ne (pc := 8) (tgt := 21) F dX4_entryTarget_8 (by decide) (fun c7 => ?_) (fun c7 => ?_)
  · have hE := zite_f hE c7
    have t8 := zt_ne c7
    refine zi_aload_n (pc := 21) F dX4_entryTarget_21 0 rfl ?_
    refine zi_aload_n (pc := 22) F dX4_entryTarget_22 0 rfl ?_
    refine zi_get (pc := 23) (C := RX4) (T := TX4) (N := 11) (v := .ref (G.2.2 2 0)) F (hw_X4_entryTarget_X4) 0 rfl rfl 2 (by decide) (List.mem_of_getElem? (i := 3) rfl) rfl rfl dX4_entryTarget_23 ?_
    refine zi_iload_n (pc := 26) F dX4_entryTarget_26 1 rfl ?_
    have hM11 := c_X0_indexOf l G place E (hIE)
    have pp12 := pp_X0_indexOf place E (hIE)
    obtain ⟨r9, e10⟩ : ∃ z, mX0_indexOf place E = z := ⟨_, rfl⟩
    have hE := zbnd_cut hE e10
    rw [e10] at hM11
    rw [e10] at pp12
    have q13 := pp12
    refine zi_callVI (pc := 27) (rest := [.ref (G.2.2 0 0)]) (ws' := zWL G L T E V M K) F hM11 (cwV 1 F.1.2.2.2.2 gX4_entryTarget_X0_indexOf rfl rfl rfl hd_X0_indexOf ⟨Nat.le_of_ble_eq_true rfl, Nat.le_of_ble_eq_true rfl⟩) 0 rfl rfl _ _ (zwL_E G L T E V M K) (zwL_E G L T E V M K).symm rfl rfl (Nat.le_of_ble_eq_true rfl) dX4_entryTarget_27 ⟨Nat.zero_le _, Nat.zero_le _⟩ ?_
    have hM16 := c_X4_targetPlace l G r9 L T E V M K (hIT) (hIE)
    obtain ⟨r14, e15⟩ : ∃ z, mX4_targetPlace r9 T E = z := ⟨_, rfl⟩
    have hE := zbnd_cut hE e15
    rw [e15] at hM16
    refine zi_callVI (pc := 30) (rest := []) (ws' := zWL G L T E V M K) F hM16 (cwV 1 F.1.2.2.2.2 gX4_entryTarget_X4_targetPlace rfl rfl rfl hd_X4_targetPlace ⟨Nat.le_of_ble_eq_true rfl, Nat.le_of_ble_eq_true rfl⟩) 0 rfl rfl _ _ (zw_nil _) (zw_nil _).symm rfl rfl (Nat.le_of_ble_eq_true rfl) dX4_entryTarget_30 ⟨Nat.zero_le _, Nat.zero_le _⟩ ?_
    subst hE
    exact hret _ _ _ _ (Nat.le_of_ble_eq_true rfl) (Nat.le_of_ble_eq_true rfl) dX4_entryTarget_33 rfl
  · have hE := zite_t hE c7
    have t17 := congrArg Int32.toInt c7
    subst hE
    exact hthr 11 41 141 45 "java/lang/IndexOutOfBoundsException" "no such entry" _ rfl ⟨⟨dX4_entryTarget_11, dX4_entryTarget_14, dX4_entryTarget_15, dX4_entryTarget_17, dX4_entryTarget_20⟩, (List.mem_of_getElem? (i := 1) rfl), (List.mem_of_getElem? (i := 2) rfl), by decide, by decide, fun w h => List.mem_cons_of_mem _ (List.mem_append_right _ (h)), zng_45, zgd_45, Nat.le_of_ble_eq_true rfl, Nat.le_of_ble_eq_true rfl⟩
