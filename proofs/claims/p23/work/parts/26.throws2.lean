/-! X4_play -/
def mX4_play (card : Int32) (target : Int32) (L : zS_t) (T : zS_t) (E : zS_t) (M : zS_t) : Option String × Int32 × zS_t × zS_t × zS_t := if card < 0 then (some "java/lang/IndexOutOfBoundsException", 0, L, E, M) else (if card < 14 then (zbnd (mX4_findObstacle card target L T E) (fun r6 => if r6 = 0 then (zbnd (mX4_costOf card) (fun r11 => zbnd (mX4_pay (L 6 0) (-r11) L) (fun L14 => zbnd (mX4_targetId card target T E) (fun r17 => zbnd2 (mX4_newId L14) (fun r20 L21 => zbnd (mX0_push card 0 (L14 6 0) r17 r20 E) (fun E24 => zbnd (mX1_forget M) (fun M30 => zbnd (mX4_nextPlayer (L21 6 0)) (fun r40 => (none, (E24 5 0), (zsI (zsI L21 6 r40) 7 0), E24, M30))))))))) else (some "java/lang/IllegalStateException", 0, L, E, M))) else (some "java/lang/IndexOutOfBoundsException", 0, L, E, M))
set_option maxHeartbeats 4000000 in
set_option maxRecDepth 100000 in
theorem pp_X4_play (card : Int32) (target : Int32) (L : zS_t) (T : zS_t) (E : zS_t) (M : zS_t) (hIT : zIT T) (hIE : zIE E) (hIM : zIM M) : (zIE ((mX4_play card target L T E M).2.2.2.1)) ∧ (zIM ((mX4_play card target L T E M).2.2.2.2)) ∧ (((mX4_play card target L T E M).1) = none ∨ ((mX4_play card target L T E M).1) = some "java/lang/IndexOutOfBoundsException" ∨ ((mX4_play card target L T E M).1) = some "java/lang/IllegalStateException") := by
  obtain ⟨X, hE⟩ : ∃ z, mX4_play card target L T E M = z := ⟨_, rfl⟩
  rw [hE]
  have k_0 : Int32.toInt 0 = 0 := by decide
  have k_1 : Int32.toInt 1 = 1 := by decide
  have k_14 : Int32.toInt 14 = 14 := by decide
  obtain ⟨i45, i46⟩ := id hIT
  obtain ⟨⟨i47, i48⟩, hIE_b1⟩ := id hIE
  obtain ⟨⟨i49, i50⟩, ⟨i51, i52⟩, ⟨i53, i54⟩⟩ := id hIM
  unfold mX4_play at hE
  by_cases c1 : card < 0
  · have hE := zite_t hE c1
    have t2 := zt_lt c1
    subst hE
    exact ⟨hIE, hIM, (by first | exact Or.inl rfl | exact Or.inr rfl | exact Or.inr (Or.inl rfl) | exact Or.inr (Or.inr rfl) | assumption)⟩
  · have hE := zite_f hE c1
    have t3 := zt_nlt c1
    by_cases c4 : card < 14
    · have hE := zite_t hE c4
      have t5 := zt_lt c4
      obtain ⟨r6, e7⟩ : ∃ z, mX4_findObstacle card target L T E = z := ⟨_, rfl⟩
      have hE := zbnd_cut hE e7
      by_cases c9 : r6 = 0
      · have hE := zite_t hE c9
        have t10 := congrArg Int32.toInt c9
        obtain ⟨r11, e12⟩ : ∃ z, mX4_costOf card = z := ⟨_, rfl⟩
        have hE := zbnd_cut hE e12
        obtain ⟨L14, e15⟩ : ∃ z, mX4_pay (L 6 0) (-r11) L = z := ⟨_, rfl⟩
        have hE := zbnd_cut hE e15
        obtain ⟨r17, e18⟩ : ∃ z, mX4_targetId card target T E = z := ⟨_, rfl⟩
        have hE := zbnd_cut hE e18
        obtain ⟨⟨r20, L21⟩, e22⟩ : ∃ z, mX4_newId L14 = z := ⟨_, rfl⟩
        have hE := zbnd2_cut hE e22
        have pp27 := pp_X0_push card 0 (L14 6 0) r17 r20 E (hIE)
        obtain ⟨E24, e25⟩ : ∃ z, mX0_push card 0 (L14 6 0) r17 r20 E = z := ⟨_, rfl⟩
        have hE := zbnd_cut hE e25
        rw [e25] at pp27
        have hIE24 := pp27
        obtain ⟨⟨i28, i29⟩, hIE24_b1⟩ := id hIE24
        have pp33 := pp_X1_forget  M (hIM)
        obtain ⟨M30, e31⟩ : ∃ z, mX1_forget M = z := ⟨_, rfl⟩
        have hE := zbnd_cut hE e31
        rw [e31] at pp33
        have hIM30 := pp33
        obtain ⟨⟨i34, i35⟩, ⟨i36, i37⟩, ⟨i38, i39⟩⟩ := id hIM30
        obtain ⟨r40, e41⟩ : ∃ z, mX4_nextPlayer (L21 6 0) = z := ⟨_, rfl⟩
        have hE := zbnd_cut hE e41
        subst hE
        exact ⟨hIE24, hIM30, (by first | exact Or.inl rfl | exact Or.inr rfl | exact Or.inr (Or.inl rfl) | exact Or.inr (Or.inr rfl) | assumption)⟩
      · have hE := zite_f hE c9
        have t43 := zt_ne c9
        subst hE
        exact ⟨hIE, hIM, (by first | exact Or.inl rfl | exact Or.inr rfl | exact Or.inr (Or.inl rfl) | exact Or.inr (Or.inr rfl) | assumption)⟩
    · have hE := zite_f hE c4
      have t44 := zt_nlt c4
      subst hE
      exact ⟨hIE, hIM, (by first | exact Or.inl rfl | exact Or.inr rfl | exact Or.inr (Or.inl rfl) | exact Or.inr (Or.inr rfl) | assumption)⟩
theorem hw_X4_play_X0 : ∀ w ∈ wsX00, w ∈ wsX4_play := fun w h => List.mem_cons_of_mem _ (List.mem_append_left _ (List.mem_append_left _ (List.mem_append_left _ (List.mem_append_left _ (List.mem_append_right _ (h))))))
theorem hw_X4_play_X4 : ∀ w ∈ wsX40, w ∈ wsX4_play := fun w h => List.mem_cons_of_mem _ (List.mem_append_left _ (List.mem_append_left _ (List.mem_append_left _ (List.mem_append_left _ (List.mem_append_left _ (List.mem_append_right _ (h)))))))
abbrev rmX4_play : Room := { frames := 6, cells := 1, slots := 6, locals := 86 }
theorem hd_X4_play : yX4_play.cls = RX4 ∧ yX4_play.cls ≠ "java/lang/invoke/MethodHandle" ∧ yX4_play.cls ≠ "java/lang/invoke/VarHandle" ∧ (parseMethodDescriptor yX4_play.desc).map (fun d => d.parameters.length) = some 2 := by decide +kernel
set_option maxHeartbeats 4000000 in
set_option maxRecDepth 100000 in
theorem c_X4_play (l : Launch) (hfl : l.stackTraces = false) (G : zG_t) (card : Int32) (target : Int32) (L : zS_t) (T : zS_t) (E : zS_t) (V : zS_t) (M : zS_t) (K : zS_t) (hIT : zIT T) (hIE : zIE E) (hIM : zIM M) : zXI l G.1 (zty G) yX4_play wsX4_play rmX4_play [.ref (G.2.2 0 0), .int card, .int target] (zWL G L T E V M K) ((mX4_play card target L T E M).1) ((mX4_play card target L T E M).2.1) (zWL G ((mX4_play card target L T E M).2.2.1) T ((mX4_play card target L T E M).2.2.2.1) V ((mX4_play card target L T E M).2.2.2.2) K) := by
  obtain ⟨X, hE⟩ : ∃ z, mX4_play card target L T E M = z := ⟨_, rfl⟩
  rw [hE]
  refine zx_I hfl (cc := cX4_play) (maxL := 3) (by decide) rfl rfl (Nat.le_of_ble_eq_true rfl) rfl rfl ?_
  intro p e s m args below meth c Q A F hsx hret hthr hout
  show zW p l e rmX4_play s m args below meth c 0 0 Q G.1 A 3 (zWL G L T E V M K) [(0, .ref (G.2.2 0 0)), (1, .int card), (2, .int target)] 0 []
  have k_0 : Int32.toInt 0 = 0 := by decide
  have k_1 : Int32.toInt 1 = 1 := by decide
  have k_14 : Int32.toInt 14 = 14 := by decide
  obtain ⟨i55, i56⟩ := id hIT
  obtain ⟨⟨i57, i58⟩, hIE_b1⟩ := id hIE
  obtain ⟨⟨i59, i60⟩, ⟨i61, i62⟩, ⟨i63, i64⟩⟩ := id hIM
  unfold mX4_play at hE
  refine zi_iload_n (pc := 0) F dX4_play_0 1 rfl ?_
  refine zi_if_lt (pc := 1) (tgt := 10) F dX4_play_1 (by decide) (fun c1 => ?_) (fun c1 => ?_)
  · have hE := zite_t hE c1
    have t2 := zt_lt c1
    subst hE
    exact hthr 10 41 43 45 "java/lang/IndexOutOfBoundsException" "no such card" _ rfl ⟨⟨dX4_play_10, dX4_play_13, dX4_play_14, dX4_play_16, dX4_play_19⟩, (List.mem_of_getElem? (i := 1) rfl), (List.mem_of_getElem? (i := 2) rfl), by decide, by decide, fun w h => List.mem_cons_of_mem _ (List.mem_append_left _ (List.mem_append_right _ (h))), zng_45, zgd_45, Nat.le_of_ble_eq_true rfl, Nat.le_of_ble_eq_true rfl⟩
  · have hE := zite_f hE c1
    have t3 := zt_nlt c1
    refine zi_iload_n (pc := 4) F dX4_play_4 1 rfl ?_
    refine zi_bipush (pc := 5) (v := 14) F dX4_play_5 rfl ?_
    refine zi_icmp_lt (pc := 7) (tgt := 20) F dX4_play_7 (by decide) (fun c4 => ?_) (fun c4 => ?_)
    · have hE := zite_t hE c4
      have t5 := zt_lt c4
      refine zi_aload_n (pc := 20) F dX4_play_20 0 rfl ?_
      refine zi_iload_n (pc := 21) F dX4_play_21 1 rfl ?_
      refine zi_iload_n (pc := 22) F dX4_play_22 2 rfl ?_
      have hM8 := c_X4_findObstacle l G card target L T E V M K (hIE)
      obtain ⟨r6, e7⟩ : ∃ z, mX4_findObstacle card target L T E = z := ⟨_, rfl⟩
      have hE := zbnd_cut hE e7
      rw [e7] at hM8
      refine zi_callVI (pc := 23) (rest := []) (ws' := zWL G L T E V M K) F hM8 (cwV 2 F.1.2.2.2.2 gX4_play_X4_findObstacle rfl rfl rfl hd_X4_findObstacle ⟨Nat.le_of_ble_eq_true rfl, Nat.le_of_ble_eq_true rfl⟩) 0 rfl rfl _ _ (zw_nil _) (zw_nil _).symm rfl rfl (Nat.le_of_ble_eq_true rfl) dX4_play_23 ⟨Nat.zero_le _, Nat.zero_le _⟩ ?_
      refine zi_if_eq (pc := 26) (tgt := 39) F dX4_play_26 (by decide) (fun c9 => ?_) (fun c9 => ?_)
      · have hE := zite_t hE c9
        have t10 := congrArg Int32.toInt c9
        refine zi_aload_n (pc := 39) F dX4_play_39 0 rfl ?_
        refine zi_aload_n (pc := 40) F dX4_play_40 0 rfl ?_
        refine zi_get (pc := 41) (C := RX4) (T := TX4) (N := 11) (v := .int (L 6 0)) F (hw_X4_play_X4) 0 rfl rfl 6 (by decide) (List.mem_of_getElem? (i := 5) rfl) rfl rfl dX4_play_41 ?_
        refine zi_iload_n (pc := 44) F dX4_play_44 1 rfl ?_
        have hM13 := c_X4_costOf l G card  
        obtain ⟨r11, e12⟩ : ∃ z, mX4_costOf card = z := ⟨_, rfl⟩
        have hE := zbnd_cut hE e12
        rw [e12] at hM13
        refine zi_callSI (pc := 45) (rest := [.int (L 6 0), .ref (G.2.2 0 0)]) (ws' := zWL G L T E V M K) F hM13 (va_cwS 1 F.1.2.2.2.2 gX4_play_X4_costOf rfl rfl rfl hd_X4_costOf.2 ⟨Nat.le_of_ble_eq_true rfl, Nat.le_of_ble_eq_true rfl⟩) _ _ rfl rfl rfl rfl (Nat.le_of_ble_eq_true rfl) dX4_play_45 ⟨Nat.zero_le _, Nat.zero_le _⟩ ?_
        refine zi_ineg (pc := 48) F dX4_play_48 ?_
        have hM16 := c_X4_pay l G (L 6 0) (-r11) L T E V M K 
        obtain ⟨L14, e15⟩ : ∃ z, mX4_pay (L 6 0) (-r11) L = z := ⟨_, rfl⟩
        have hE := zbnd_cut hE e15
        rw [e15] at hM16
        refine zi_callVV (pc := 49) (rest := []) (ws' := zWL G L14 T E V M K) F hM16 (cwV 2 F.1.2.2.2.2 gX4_play_X4_pay rfl rfl rfl hd_X4_pay ⟨Nat.le_of_ble_eq_true rfl, Nat.le_of_ble_eq_true rfl⟩) 0 rfl rfl _ _ (zw_nil _) (zw_nil _).symm rfl rfl (Nat.le_of_ble_eq_true rfl) dX4_play_49 ⟨Nat.zero_le _, Nat.zero_le _⟩ ?_
        refine zi_aload_n (pc := 52) F dX4_play_52 0 rfl ?_
        refine zi_get (pc := 53) (C := RX4) (T := TX4) (N := 11) (v := .ref (G.2.2 2 0)) F (hw_X4_play_X4) 0 rfl rfl 2 (by decide) (List.mem_of_getElem? (i := 6) rfl) rfl rfl dX4_play_53 ?_
        refine zi_iload_n (pc := 56) F dX4_play_56 1 rfl ?_
        refine zi_iconst (pc := 57) (v := 0) F dX4_play_57 rfl ?_
        refine zi_aload_n (pc := 58) F dX4_play_58 0 rfl ?_
        refine zi_get (pc := 59) (C := RX4) (T := TX4) (N := 11) (v := .int (L14 6 0)) F (hw_X4_play_X4) 0 rfl rfl 6 (by decide) (List.mem_of_getElem? (i := 5) rfl) rfl rfl dX4_play_59 ?_
        refine zi_aload_n (pc := 62) F dX4_play_62 0 rfl ?_
        refine zi_iload_n (pc := 63) F dX4_play_63 1 rfl ?_
        refine zi_iload_n (pc := 64) F dX4_play_64 2 rfl ?_
        have hM19 := c_X4_targetId l G card target L14 T E V M K (hIT) (hIE)
        obtain ⟨r17, e18⟩ : ∃ z, mX4_targetId card target T E = z := ⟨_, rfl⟩
        have hE := zbnd_cut hE e18
        rw [e18] at hM19
        refine zi_callVI (pc := 65) (rest := [.int (L14 6 0), .int 0, .int card, .ref (G.2.2 2 0)]) (ws' := zWL G L14 T E V M K) F hM19 (cwV 2 F.1.2.2.2.2 gX4_play_X4_targetId rfl rfl rfl hd_X4_targetId ⟨Nat.le_of_ble_eq_true rfl, Nat.le_of_ble_eq_true rfl⟩) 0 rfl rfl _ _ (zw_nil _) (zw_nil _).symm rfl rfl (Nat.le_of_ble_eq_true rfl) dX4_play_65 ⟨Nat.zero_le _, Nat.zero_le _⟩ ?_
        refine zi_aload_n (pc := 68) F dX4_play_68 0 rfl ?_
        have hM23 := c_X4_newId l G  L14 T E V M K 
        obtain ⟨⟨r20, L21⟩, e22⟩ : ∃ z, mX4_newId L14 = z := ⟨_, rfl⟩
        have hE := zbnd2_cut hE e22
        rw [e22] at hM23
        refine zi_callVI (pc := 69) (rest := [.int r17, .int (L14 6 0), .int 0, .int card, .ref (G.2.2 2 0)]) (ws' := zWL G L21 T E V M K) F hM23 (cwV 0 F.1.2.2.2.2 gX4_play_X4_newId rfl rfl rfl hd_X4_newId ⟨Nat.le_of_ble_eq_true rfl, Nat.le_of_ble_eq_true rfl⟩) 0 rfl rfl _ _ (zw_nil _) (zw_nil _).symm rfl rfl (Nat.le_of_ble_eq_true rfl) dX4_play_69 ⟨Nat.zero_le _, Nat.zero_le _⟩ ?_
        have hM26 := c_X0_push l G card 0 (L14 6 0) r17 r20 E (hIE)
        have pp27 := pp_X0_push card 0 (L14 6 0) r17 r20 E (hIE)
        obtain ⟨E24, e25⟩ : ∃ z, mX0_push card 0 (L14 6 0) r17 r20 E = z := ⟨_, rfl⟩
        have hE := zbnd_cut hE e25
        rw [e25] at hM26
        rw [e25] at pp27
        have hIE24 := pp27
        obtain ⟨⟨i28, i29⟩, hIE24_b1⟩ := id hIE24
        refine zi_callVV (pc := 72) (rest := []) (ws' := zWL G L21 T E24 V M K) F hM26 (cwV 5 F.1.2.2.2.2 gX4_play_X0_push rfl rfl rfl hd_X0_push ⟨Nat.le_of_ble_eq_true rfl, Nat.le_of_ble_eq_true rfl⟩) 0 rfl rfl _ _ (zwL_E G L21 T E V M K) (zwL_E G L21 T E24 V M K).symm rfl rfl (Nat.le_of_ble_eq_true rfl) dX4_play_72 ⟨Nat.zero_le _, Nat.zero_le _⟩ ?_
        refine zi_aload_n (pc := 75) F dX4_play_75 0 rfl ?_
        refine zi_get (pc := 76) (C := RX4) (T := TX4) (N := 11) (v := .ref (G.2.2 4 0)) F (hw_X4_play_X4) 0 rfl rfl 4 (by decide) (List.mem_of_getElem? (i := 7) rfl) rfl rfl dX4_play_76 ?_
        have hM32 := c_X1_forget l G  M K (hIM)
        have pp33 := pp_X1_forget  M (hIM)
        obtain ⟨M30, e31⟩ : ∃ z, mX1_forget M = z := ⟨_, rfl⟩
        have hE := zbnd_cut hE e31
        rw [e31] at hM32
        rw [e31] at pp33
        have hIM30 := pp33
        obtain ⟨⟨i34, i35⟩, ⟨i36, i37⟩, ⟨i38, i39⟩⟩ := id hIM30
        refine zi_callVV (pc := 79) (rest := []) (ws' := zWL G L21 T E24 V M30 K) F hM32 (cwV 0 F.1.2.2.2.2 gX4_play_X1_forget rfl rfl rfl hd_X1_forget ⟨Nat.le_of_ble_eq_true rfl, Nat.le_of_ble_eq_true rfl⟩) 0 rfl rfl _ _ (zwL_M G L21 T E24 V M K) (zwL_M G L21 T E24 V M30 K).symm rfl rfl (Nat.le_of_ble_eq_true rfl) dX4_play_79 ⟨Nat.zero_le _, Nat.zero_le _⟩ ?_
        refine zi_aload_n (pc := 82) F dX4_play_82 0 rfl ?_
        refine zi_iconst (pc := 83) (v := 0) F dX4_play_83 rfl ?_
        refine zi_put (pc := 84) (C := RX4) (T := TX4) (N := 11) (ty := .int) (ws' := zWL G (zsI L21 7 0) T E24 V M30 K) F (hw_X4_play_X4) tyX4 tyX4_ok nmX4 0 rfl rfl 7 (by decide) (List.mem_of_getElem? (i := 8) rfl) rfl rfl rfl rfl rfl (Nat.le_of_ble_eq_true rfl) rfl dX4_play_84 ?_
        refine zi_aload_n (pc := 87) F dX4_play_87 0 rfl ?_
        refine zi_aload_n (pc := 88) F dX4_play_88 0 rfl ?_
        refine zi_get (pc := 89) (C := RX4) (T := TX4) (N := 11) (v := .int (L21 6 0)) F (hw_X4_play_X4) 0 rfl rfl 6 (by decide) (List.mem_of_getElem? (i := 5) rfl) rfl rfl dX4_play_89 ?_
        have hM42 := c_X4_nextPlayer l G (L21 6 0)  
        obtain ⟨r40, e41⟩ : ∃ z, mX4_nextPlayer (L21 6 0) = z := ⟨_, rfl⟩
        have hE := zbnd_cut hE e41
        rw [e41] at hM42
        refine zi_callSI (pc := 92) (rest := [.ref (G.2.2 0 0)]) (ws' := zWL G (zsI L21 7 0) T E24 V M30 K) F hM42 (va_cwS 1 F.1.2.2.2.2 gX4_play_X4_nextPlayer rfl rfl rfl hd_X4_nextPlayer.2 ⟨Nat.le_of_ble_eq_true rfl, Nat.le_of_ble_eq_true rfl⟩) _ _ rfl rfl rfl rfl (Nat.le_of_ble_eq_true rfl) dX4_play_92 ⟨Nat.zero_le _, Nat.zero_le _⟩ ?_
        refine zi_put (pc := 95) (C := RX4) (T := TX4) (N := 11) (ty := .int) (ws' := zWL G (zsI (zsI L21 6 r40) 7 0) T E24 V M30 K) F (hw_X4_play_X4) tyX4 tyX4_ok nmX4 0 rfl rfl 6 (by decide) (List.mem_of_getElem? (i := 5) rfl) rfl rfl rfl rfl rfl (Nat.le_of_ble_eq_true rfl) rfl dX4_play_95 ?_
        refine zi_aload_n (pc := 98) F dX4_play_98 0 rfl ?_
        refine zi_get (pc := 99) (C := RX4) (T := TX4) (N := 11) (v := .ref (G.2.2 2 0)) F (hw_X4_play_X4) 0 rfl rfl 2 (by decide) (List.mem_of_getElem? (i := 6) rfl) rfl rfl dX4_play_99 ?_
        refine zi_get (pc := 102) (C := RX0) (T := TX0) (N := 6) (v := .int (E24 5 0)) F (hw_X4_play_X0) 2 rfl rfl 5 (by decide) (List.mem_of_getElem? (i := 9) rfl) rfl rfl dX4_play_102 ?_
        subst hE
        exact hret _ _ _ _ (Nat.le_of_ble_eq_true rfl) (Nat.le_of_ble_eq_true rfl) dX4_play_105 rfl
      · have hE := zite_f hE c9
        have t43 := zt_ne c9
        subst hE
        exact hthr 29 52 54 56 "java/lang/IllegalStateException" "the card cannot be played" _ rfl ⟨⟨dX4_play_29, dX4_play_32, dX4_play_33, dX4_play_35, dX4_play_38⟩, (List.mem_of_getElem? (i := 3) rfl), (List.mem_of_getElem? (i := 4) rfl), by decide, by decide, fun w h => List.mem_cons_of_mem _ (List.mem_append_right _ (h)), zng_56, zgd_56, Nat.le_of_ble_eq_true rfl, Nat.le_of_ble_eq_true rfl⟩
    · have hE := zite_f hE c4
      have t44 := zt_nlt c4
      subst hE
      exact hthr 10 41 43 45 "java/lang/IndexOutOfBoundsException" "no such card" _ rfl ⟨⟨dX4_play_10, dX4_play_13, dX4_play_14, dX4_play_16, dX4_play_19⟩, (List.mem_of_getElem? (i := 1) rfl), (List.mem_of_getElem? (i := 2) rfl), by decide, by decide, fun w h => List.mem_cons_of_mem _ (List.mem_append_left _ (List.mem_append_right _ (h))), zng_45, zgd_45, Nat.le_of_ble_eq_true rfl, Nat.le_of_ble_eq_true rfl⟩
/-! X4_settle -/
def mX4_settle_L23 (entries : Int32) : Nat → Int32 → zS_t → zS_t → zS_t → zS_t → zS_t → zS_t → Int32 × zS_t × zS_t × zS_t × zS_t × zS_t × zS_t
  | 0, k2_35, L36, T37, E38, V39, M40, K41 => (k2_35, L36, T37, E38, V39, M40, K41)
  | n42 + 1, k2_35, L36, T37, E38, V39, M40, K41 => if entries ≤ k2_35 then (k2_35, L36, T37, E38, V39, M40, K41) else (if (E38 5 0) ≤ 0 then (k2_35, L36, T37, E38, V39, M40, K41) else (zbnd6 (mX4_resolveTop L36 T37 E38 V39 M40 K41) (fun L74 T75 E76 V77 M78 K79 => zbnd ((k2_35 + 1)) (fun y93 => mX4_settle_L23 entries n42 y93 L74 T75 E76 V77 M78 K79))))
def mX4_settle (entries : Int32) (L : zS_t) (T : zS_t) (E : zS_t) (V : zS_t) (M : zS_t) (K : zS_t) : Option String × Int32 × zS_t × zS_t × zS_t × zS_t × zS_t × zS_t := if entries < 1 then (some "java/lang/IllegalArgumentException", 0, L, T, E, V, M, K) else (if entries ≤ 60 then (zbnd7 (mX4_settle_L23 entries 61 0 L T E V M K) (fun k2_97 L98 T99 E100 V101 M102 K103 => (none, k2_97, L98, T99, E100, V101, M102, K103))) else (some "java/lang/IllegalArgumentException", 0, L, T, E, V, M, K))
set_option maxHeartbeats 4000000 in
set_option maxRecDepth 100000 in
theorem pp_X4_settle (entries : Int32) (L : zS_t) (T : zS_t) (E : zS_t) (V : zS_t) (M : zS_t) (K : zS_t) (hIT : zIT T) (hIE : zIE E) (hIM : zIM M) : (zIT ((mX4_settle entries L T E V M K).2.2.2.1)) ∧ (zIE ((mX4_settle entries L T E V M K).2.2.2.2.1)) ∧ (zIM ((mX4_settle entries L T E V M K).2.2.2.2.2.2.1)) ∧ (((mX4_settle entries L T E V M K).1) = none ∨ ((mX4_settle entries L T E V M K).1) = some "java/lang/IllegalArgumentException") := by
  obtain ⟨X, hE⟩ : ∃ z, mX4_settle entries L T E V M K = z := ⟨_, rfl⟩
  rw [hE]
  have k_0 : Int32.toInt 0 = 0 := by decide
  have k_1 : Int32.toInt 1 = 1 := by decide
  have k_60 : Int32.toInt 60 = 60 := by decide
  obtain ⟨i119, i120⟩ := id hIT
  obtain ⟨⟨i121, i122⟩, hIE_b1⟩ := id hIE
  obtain ⟨⟨i123, i124⟩, ⟨i125, i126⟩, ⟨i127, i128⟩⟩ := id hIM
  unfold mX4_settle at hE
  by_cases c1 : entries < 1
  · have hE := zite_t hE c1
    have t2 := zt_lt c1
    subst hE
    exact ⟨hIT, hIE, hIM, (by first | exact Or.inl rfl | exact Or.inr rfl | exact Or.inr (Or.inl rfl) | exact Or.inr (Or.inr rfl) | assumption)⟩
  · have hE := zite_f hE c1
    have t3 := zt_nlt c1
    by_cases c4 : entries ≤ 60
    · have hE := zite_t hE c4
      have t5 := zt_le c4
      have hL23 : ∀ (n42 : Nat) (k2_35 : Int32) (L36 : zS_t) (T37 : zS_t) (E38 : zS_t) (V39 : zS_t) (M40 : zS_t) (K41 : zS_t), (0 ≤ Int32.toInt k2_35) ∧ (Int32.toInt k2_35 ≤ Int32.toInt entries) ∧ (zIT T37) ∧ (zIE E38) ∧ (zIM M40) → 61 - Int32.toInt k2_35 ≤ (n42 : Int) → ∀ Y43, mX4_settle_L23 entries n42 k2_35 L36 T37 E38 V39 M40 K41 = Y43 → (0 ≤ Int32.toInt Y43.1) ∧ (Int32.toInt Y43.1 ≤ Int32.toInt entries) ∧ (zIT (Y43.2.2.1)) ∧ (zIE (Y43.2.2.2.1)) ∧ (zIM (Y43.2.2.2.2.2.1)) := by
        intro n42
        induction n42 with
        | zero =>
          intro k2_35 L36 T37 E38 V39 M40 K41 hI hM9
          obtain ⟨i44, i45, hIT37, hIE38, hIM40⟩ := id hI
          obtain ⟨i46, i47⟩ := id hIT37
          obtain ⟨⟨i48, i49⟩, hIE38_b1⟩ := id hIE38
          obtain ⟨⟨i50, i51⟩, ⟨i52, i53⟩, ⟨i54, i55⟩⟩ := id hIM40
          exact absurd hM9 (by omega)
        | succ n42 ih =>
          intro k2_35 L36 T37 E38 V39 M40 K41 hI hM9 Y43 hE
          obtain ⟨i56, i57, hIT37, hIE38, hIM40⟩ := id hI
          obtain ⟨i58, i59⟩ := id hIT37
          obtain ⟨⟨i60, i61⟩, hIE38_b1⟩ := id hIE38
          obtain ⟨⟨i62, i63⟩, ⟨i64, i65⟩, ⟨i66, i67⟩⟩ := id hIM40
          rw [mX4_settle_L23.eq_2] at hE
          by_cases c68 : entries ≤ k2_35
          · have hE := zite_t hE c68
            have t69 := zt_le c68
            subst hE
            exact ⟨by (show 0 ≤ Int32.toInt k2_35; omega), by (show Int32.toInt k2_35 ≤ Int32.toInt entries; omega), hIT37, hIE38, hIM40⟩
          · have hE := zite_f hE c68
            have t70 := zt_nle c68
            by_cases c71 : (E38 5 0) ≤ 0
            · have hE := zite_t hE c71
              have t72 := zt_le c71
              subst hE
              exact ⟨by (show 0 ≤ Int32.toInt k2_35; omega), by (show Int32.toInt k2_35 ≤ Int32.toInt entries; omega), hIT37, hIE38, hIM40⟩
            · have hE := zite_f hE c71
              have t73 := zt_nle c71
              have pp82 := pp_X4_resolveTop  L36 T37 E38 V39 M40 K41 (hIT37) (hIE38) (hIM40)
              obtain ⟨⟨L74, T75, E76, V77, M78, K79⟩, e80⟩ : ∃ z, mX4_resolveTop L36 T37 E38 V39 M40 K41 = z := ⟨_, rfl⟩
              have hE := zbnd6_cut hE e80
              rw [e80] at pp82
              obtain ⟨hIT75, hIE76, hIM78⟩ := pp82
              have hIT75 : zIT T75 := hIT75
              have hIE76 : zIE E76 := hIE76
              have hIM78 : zIM M78 := hIM78
              obtain ⟨i83, i84⟩ := id hIT75
              obtain ⟨⟨i85, i86⟩, hIE76_b1⟩ := id hIE76
              obtain ⟨⟨i87, i88⟩, ⟨i89, i90⟩, ⟨i91, i92⟩⟩ := id hIM78
              try have t95 := zt_add (a := k2_35) (b := 1) (by omega) (by omega)
              obtain ⟨y93, e94⟩ : ∃ z : Int32, (k2_35 + 1) = z := ⟨_, rfl⟩
              have hE := zbnd_cut hE e94
              have t96 := congrArg Int32.toInt e94
              exact ih y93 L74 T75 E76 V77 M78 K79 (⟨by (show 0 ≤ Int32.toInt y93; omega), by (show Int32.toInt y93 ≤ Int32.toInt entries; omega), hIT75, hIE76, hIM78⟩) (by omega) _ hE
      obtain ⟨⟨k2_97, L98, T99, E100, V101, M102, K103⟩, e104⟩ : ∃ z, mX4_settle_L23 entries 61 0 L T E V M K = z := ⟨_, rfl⟩
      have hE := zbnd7_cut hE e104
      have hI105 := hL23 61 0 L T E V M K (⟨by (show 0 ≤ Int32.toInt 0; omega), by (show Int32.toInt 0 ≤ Int32.toInt entries; omega), hIT, hIE, hIM⟩) (by omega) _ e104
      have hI105 : (0 ≤ Int32.toInt k2_97) ∧ (Int32.toInt k2_97 ≤ Int32.toInt entries) ∧ (zIT T99) ∧ (zIE E100) ∧ (zIM M102) := hI105
      obtain ⟨i106, i107, hIT99, hIE100, hIM102⟩ := id hI105
      obtain ⟨i108, i109⟩ := id hIT99
      obtain ⟨⟨i110, i111⟩, hIE100_b1⟩ := id hIE100
      obtain ⟨⟨i112, i113⟩, ⟨i114, i115⟩, ⟨i116, i117⟩⟩ := id hIM102
      subst hE
      exact ⟨hIT99, hIE100, hIM102, (by first | exact Or.inl rfl | exact Or.inr rfl | exact Or.inr (Or.inl rfl) | exact Or.inr (Or.inr rfl) | assumption)⟩
    · have hE := zite_f hE c4
      have t118 := zt_nle c4
      subst hE
      exact ⟨hIT, hIE, hIM, (by first | exact Or.inl rfl | exact Or.inr rfl | exact Or.inr (Or.inl rfl) | exact Or.inr (Or.inr rfl) | assumption)⟩
theorem hw_X4_settle_X0 : ∀ w ∈ wsX00, w ∈ wsX4_settle := fun w h => List.mem_cons_of_mem _ (List.mem_append_left _ (List.mem_append_left _ (List.mem_append_left _ (List.mem_append_left _ (List.mem_append_right _ (h))))))
theorem hw_X4_settle_X4 : ∀ w ∈ wsX40, w ∈ wsX4_settle := fun w h => List.mem_cons_of_mem _ (List.mem_append_left _ (List.mem_append_left _ (List.mem_append_left _ (List.mem_append_left _ (List.mem_append_left _ (List.mem_append_right _ (h)))))))
abbrev rmX4_settle : Room := { frames := 6, cells := 1, slots := 6, locals := 142 }
theorem hd_X4_settle : yX4_settle.cls = RX4 ∧ yX4_settle.cls ≠ "java/lang/invoke/MethodHandle" ∧ yX4_settle.cls ≠ "java/lang/invoke/VarHandle" ∧ (parseMethodDescriptor yX4_settle.desc).map (fun d => d.parameters.length) = some 1 := by decide +kernel
set_option maxHeartbeats 4000000 in
set_option maxRecDepth 100000 in
theorem c_X4_settle (l : Launch) (hfl : l.stackTraces = false) (G : zG_t) (entries : Int32) (L : zS_t) (T : zS_t) (E : zS_t) (V : zS_t) (M : zS_t) (K : zS_t) (hIT : zIT T) (hIE : zIE E) (hIM : zIM M) : zXI l G.1 (zty G) yX4_settle wsX4_settle rmX4_settle [.ref (G.2.2 0 0), .int entries] (zWL G L T E V M K) ((mX4_settle entries L T E V M K).1) ((mX4_settle entries L T E V M K).2.1) (zWL G ((mX4_settle entries L T E V M K).2.2.1) ((mX4_settle entries L T E V M K).2.2.2.1) ((mX4_settle entries L T E V M K).2.2.2.2.1) ((mX4_settle entries L T E V M K).2.2.2.2.2.1) ((mX4_settle entries L T E V M K).2.2.2.2.2.2.1) ((mX4_settle entries L T E V M K).2.2.2.2.2.2.2)) := by
  obtain ⟨X, hE⟩ : ∃ z, mX4_settle entries L T E V M K = z := ⟨_, rfl⟩
  rw [hE]
  refine zx_I hfl (cc := cX4_settle) (maxL := 3) (by decide) rfl rfl (Nat.le_of_ble_eq_true rfl) rfl rfl ?_
  intro p e s m args below meth c Q A F hsx hret hthr hout
  show zW p l e rmX4_settle s m args below meth c 0 0 Q G.1 A 3 (zWL G L T E V M K) [(0, .ref (G.2.2 0 0)), (1, .int entries)] 0 []
  have k_0 : Int32.toInt 0 = 0 := by decide
  have k_1 : Int32.toInt 1 = 1 := by decide
  have k_60 : Int32.toInt 60 = 60 := by decide
  obtain ⟨i129, i130⟩ := id hIT
  obtain ⟨⟨i131, i132⟩, hIE_b1⟩ := id hIE
  obtain ⟨⟨i133, i134⟩, ⟨i135, i136⟩, ⟨i137, i138⟩⟩ := id hIM
  unfold mX4_settle at hE
  refine zi_iload_n (pc := 0) F dX4_settle_0 1 rfl ?_
  refine zi_iconst (pc := 1) (v := 1) F dX4_settle_1 rfl ?_
  refine zi_icmp_lt (pc := 2) (tgt := 11) F dX4_settle_2 (by decide) (fun c1 => ?_) (fun c1 => ?_)
  · have hE := zite_t hE c1
    have t2 := zt_lt c1
    subst hE
    exact hthr 11 98 100 102 "java/lang/IllegalArgumentException" "entries is out of range" _ rfl ⟨⟨dX4_settle_11, dX4_settle_14, dX4_settle_15, dX4_settle_17, dX4_settle_20⟩, (List.mem_of_getElem? (i := 1) rfl), (List.mem_of_getElem? (i := 2) rfl), by decide, by decide, fun w h => List.mem_cons_of_mem _ (List.mem_append_right _ (h)), zng_102, zgd_102, Nat.le_of_ble_eq_true rfl, Nat.le_of_ble_eq_true rfl⟩
  · have hE := zite_f hE c1
    have t3 := zt_nlt c1
    refine zi_iload_n (pc := 5) F dX4_settle_5 1 rfl ?_
    refine zi_bipush (pc := 6) (v := 60) F dX4_settle_6 rfl ?_
    refine zi_icmp_le (pc := 8) (tgt := 21) F dX4_settle_8 (by decide) (fun c4 => ?_) (fun c4 => ?_)
    · have hE := zite_t hE c4
      have t5 := zt_le c4
      refine zi_iconst (pc := 21) (v := 0) F dX4_settle_21 rfl ?_
      refine zi_istore_n (pc := 22) (lv' := [(0, .ref (G.2.2 0 0)), (1, .int entries), (2, .int 0)]) F dX4_settle_22 (by decide) rfl ?_
      have hL23 : ∀ (n42 : Nat) (k2_35 : Int32) (L36 : zS_t) (T37 : zS_t) (E38 : zS_t) (V39 : zS_t) (M40 : zS_t) (K41 : zS_t), (0 ≤ Int32.toInt k2_35) ∧ (Int32.toInt k2_35 ≤ Int32.toInt entries) ∧ (zIT T37) ∧ (zIE E38) ∧ (zIM M40) → 61 - Int32.toInt k2_35 ≤ (n42 : Int) → ∀ Y43, mX4_settle_L23 entries n42 k2_35 L36 T37 E38 V39 M40 K41 = Y43 → (((0 ≤ Int32.toInt Y43.1) ∧ (Int32.toInt Y43.1 ≤ Int32.toInt entries) ∧ (zIT (Y43.2.2.1)) ∧ (zIE (Y43.2.2.2.1)) ∧ (zIM (Y43.2.2.2.2.2.1))) → zW p l e rmX4_settle s m args below meth c 0 0 Q G.1 A 3 (zWL G (Y43.2.1) (Y43.2.2.1) (Y43.2.2.2.1) (Y43.2.2.2.2.1) (Y43.2.2.2.2.2.1) (Y43.2.2.2.2.2.2)) [(0, .ref (G.2.2 0 0)), (1, .int entries), (2, .int Y43.1)] 48 []) → zW p l e rmX4_settle s m args below meth c 0 0 Q G.1 A 3 (zWL G L36 T37 E38 V39 M40 K41) [(0, .ref (G.2.2 0 0)), (1, .int entries), (2, .int k2_35)] 23 [] := by
        intro n42
        induction n42 with
        | zero =>
          intro k2_35 L36 T37 E38 V39 M40 K41 hI hM9
          obtain ⟨i44, i45, hIT37, hIE38, hIM40⟩ := id hI
          obtain ⟨i46, i47⟩ := id hIT37
          obtain ⟨⟨i48, i49⟩, hIE38_b1⟩ := id hIE38
          obtain ⟨⟨i50, i51⟩, ⟨i52, i53⟩, ⟨i54, i55⟩⟩ := id hIM40
          exact absurd hM9 (by omega)
        | succ n42 ih =>
          intro k2_35 L36 T37 E38 V39 M40 K41 hI hM9 Y43 hE hK
          obtain ⟨i56, i57, hIT37, hIE38, hIM40⟩ := id hI
          obtain ⟨i58, i59⟩ := id hIT37
          obtain ⟨⟨i60, i61⟩, hIE38_b1⟩ := id hIE38
          obtain ⟨⟨i62, i63⟩, ⟨i64, i65⟩, ⟨i66, i67⟩⟩ := id hIM40
          rw [mX4_settle_L23.eq_2] at hE
          refine zi_iload_n (pc := 23) F dX4_settle_23 2 rfl ?_
          refine zi_iload_n (pc := 24) F dX4_settle_24 1 rfl ?_
          refine zi_icmp_ge (pc := 25) (tgt := 48) F dX4_settle_25 (by decide) (fun c68 => ?_) (fun c68 => ?_)
          · have hE := zite_t hE c68
            have t69 := zt_le c68
            subst hE
            refine zi_sub [0, 1, 2] rfl ?_
            exact hK (⟨by (show 0 ≤ Int32.toInt k2_35; omega), by (show Int32.toInt k2_35 ≤ Int32.toInt entries; omega), hIT37, hIE38, hIM40⟩)
          · have hE := zite_f hE c68
            have t70 := zt_nle c68
            refine zi_aload_n (pc := 28) F dX4_settle_28 0 rfl ?_
            refine zi_get (pc := 29) (C := RX4) (T := TX4) (N := 11) (v := .ref (G.2.2 2 0)) F (hw_X4_settle_X4) 0 rfl rfl 2 (by decide) (List.mem_of_getElem? (i := 3) rfl) rfl rfl dX4_settle_29 ?_
            refine zi_get (pc := 32) (C := RX0) (T := TX0) (N := 6) (v := .int (E38 5 0)) F (hw_X4_settle_X0) 2 rfl rfl 5 (by decide) (List.mem_of_getElem? (i := 4) rfl) rfl rfl dX4_settle_32 ?_
            refine zi_if_le (pc := 35) (tgt := 48) F dX4_settle_35 (by decide) (fun c71 => ?_) (fun c71 => ?_)
            · have hE := zite_t hE c71
              have t72 := zt_le c71
              subst hE
              refine zi_sub [0, 1, 2] rfl ?_
              exact hK (⟨by (show 0 ≤ Int32.toInt k2_35; omega), by (show Int32.toInt k2_35 ≤ Int32.toInt entries; omega), hIT37, hIE38, hIM40⟩)
            · have hE := zite_f hE c71
              have t73 := zt_nle c71
              refine zi_aload_n (pc := 38) F dX4_settle_38 0 rfl ?_
              have hM81 := c_X4_resolveTop l G  L36 T37 E38 V39 M40 K41 (hIT37) (hIE38) (hIM40)
              have pp82 := pp_X4_resolveTop  L36 T37 E38 V39 M40 K41 (hIT37) (hIE38) (hIM40)
              obtain ⟨⟨L74, T75, E76, V77, M78, K79⟩, e80⟩ : ∃ z, mX4_resolveTop L36 T37 E38 V39 M40 K41 = z := ⟨_, rfl⟩
              have hE := zbnd6_cut hE e80
              rw [e80] at hM81
              rw [e80] at pp82
              obtain ⟨hIT75, hIE76, hIM78⟩ := pp82
              have hIT75 : zIT T75 := hIT75
              have hIE76 : zIE E76 := hIE76
              have hIM78 : zIM M78 := hIM78
              obtain ⟨i83, i84⟩ := id hIT75
              obtain ⟨⟨i85, i86⟩, hIE76_b1⟩ := id hIE76
              obtain ⟨⟨i87, i88⟩, ⟨i89, i90⟩, ⟨i91, i92⟩⟩ := id hIM78
              refine zi_callVV (pc := 39) (rest := []) (ws' := zWL G L74 T75 E76 V77 M78 K79) F hM81 (cwV 0 F.1.2.2.2.2 gX4_settle_X4_resolveTop rfl rfl rfl hd_X4_resolveTop ⟨Nat.le_of_ble_eq_true rfl, Nat.le_of_ble_eq_true rfl⟩) 0 rfl rfl _ _ (zw_nil _) (zw_nil _).symm rfl rfl (Nat.le_of_ble_eq_true rfl) dX4_settle_39 ⟨Nat.zero_le _, Nat.zero_le _⟩ ?_
              try have t95 := zt_add (a := k2_35) (b := 1) (by omega) (by omega)
              obtain ⟨y93, e94⟩ : ∃ z : Int32, (k2_35 + 1) = z := ⟨_, rfl⟩
              have hE := zbnd_cut hE e94
              have t96 := congrArg Int32.toInt e94
              refine zi_iinc (pc := 42) (lv' := [(0, .ref (G.2.2 0 0)), (1, .int entries), (2, .int y93)]) F dX4_settle_42 2 rfl e94 (by decide) rfl ?_
              refine zi_goto (pc := 45) (tgt := 23) F dX4_settle_45 (by decide) ?_
              refine zi_sub [0, 1, 2] rfl ?_
              exact ih y93 L74 T75 E76 V77 M78 K79 (⟨by (show 0 ≤ Int32.toInt y93; omega), by (show Int32.toInt y93 ≤ Int32.toInt entries; omega), hIT75, hIE76, hIM78⟩) (by omega) _ hE hK
      obtain ⟨⟨k2_97, L98, T99, E100, V101, M102, K103⟩, e104⟩ : ∃ z, mX4_settle_L23 entries 61 0 L T E V M K = z := ⟨_, rfl⟩
      have hE := zbnd7_cut hE e104
      refine hL23 61 0 L T E V M K (⟨by (show 0 ≤ Int32.toInt 0; omega), by (show Int32.toInt 0 ≤ Int32.toInt entries; omega), hIT, hIE, hIM⟩) (by omega) _ e104 (fun hI105 => ?_)
      have hI105 : (0 ≤ Int32.toInt k2_97) ∧ (Int32.toInt k2_97 ≤ Int32.toInt entries) ∧ (zIT T99) ∧ (zIE E100) ∧ (zIM M102) := hI105
      obtain ⟨i106, i107, hIT99, hIE100, hIM102⟩ := id hI105
      obtain ⟨i108, i109⟩ := id hIT99
      obtain ⟨⟨i110, i111⟩, hIE100_b1⟩ := id hIE100
      obtain ⟨⟨i112, i113⟩, ⟨i114, i115⟩, ⟨i116, i117⟩⟩ := id hIM102
      show zW p l e rmX4_settle s m args below meth c 0 0 Q G.1 A 3 (zWL G L98 T99 E100 V101 M102 K103) [(0, .ref (G.2.2 0 0)), (1, .int entries), (2, .int k2_97)] 48 []
      refine zi_iload_n (pc := 48) F dX4_settle_48 2 rfl ?_
      subst hE
      exact hret _ _ _ _ (Nat.le_of_ble_eq_true rfl) (Nat.le_of_ble_eq_true rfl) dX4_settle_49 rfl
    · have hE := zite_f hE c4
      have t118 := zt_nle c4
      subst hE
      exact hthr 11 98 100 102 "java/lang/IllegalArgumentException" "entries is out of range" _ rfl ⟨⟨dX4_settle_11, dX4_settle_14, dX4_settle_15, dX4_settle_17, dX4_settle_20⟩, (List.mem_of_getElem? (i := 1) rfl), (List.mem_of_getElem? (i := 2) rfl), by decide, by decide, fun w h => List.mem_cons_of_mem _ (List.mem_append_right _ (h)), zng_102, zgd_102, Nat.le_of_ble_eq_true rfl, Nat.le_of_ble_eq_true rfl⟩
/-! X4_controllerOf -/
def mX4_controllerOf (place : Int32) (layer : Int32) (T : zS_t) (V : zS_t) : Option String × Int32 × zS_t := zbnd (mX4_requireThingAndLayer place layer T) (fun x1 => if x1 = none then (zbnd (mX3_find layer T V) (fun V11 => (none, (V11 0 place.toNatClampNeg), V11))) else (x1, 0, V))
set_option maxHeartbeats 4000000 in
set_option maxRecDepth 100000 in
theorem pp_X4_controllerOf (place : Int32) (layer : Int32) (T : zS_t) (V : zS_t) (hIT : zIT T) : (((mX4_controllerOf place layer T V).1) = none ∨ ((mX4_controllerOf place layer T V).1) = some "java/lang/IndexOutOfBoundsException" ∨ ((mX4_controllerOf place layer T V).1) = some "java/lang/IllegalArgumentException") := by
  obtain ⟨X, hE⟩ : ∃ z, mX4_controllerOf place layer T V = z := ⟨_, rfl⟩
  rw [hE]
  have k_0 : Int32.toInt 0 = 0 := by decide
  have k_1 : Int32.toInt 1 = 1 := by decide
  obtain ⟨i14, i15⟩ := id hIT
  unfold mX4_controllerOf at hE
  have pp4 := pp_X4_requireThingAndLayer place layer T (hIT)
  obtain ⟨x1, e2⟩ : ∃ z, mX4_requireThingAndLayer place layer T = z := ⟨_, rfl⟩
  have hE := zbnd_cut hE e2
  rw [e2] at pp4
  obtain ⟨q5, q6, q7⟩ := pp4
  by_cases c8 : x1 = none
  · have hE := zite_t hE c8
    have t9 := q5.resolve_right (fun h9 => h9 c8)
    have t10 := q6.resolve_right (fun h9 => h9 c8)
    obtain ⟨V11, e12⟩ : ∃ z, mX3_find layer T V = z := ⟨_, rfl⟩
    have hE := zbnd_cut hE e12
    subst hE
    exact (by first | exact Or.inl rfl | exact Or.inr rfl | exact Or.inr (Or.inl rfl) | exact Or.inr (Or.inr rfl) | assumption)
  · have hE := zite_f hE c8
    subst hE
    exact (by first | exact Or.inl rfl | exact Or.inr rfl | exact Or.inr (Or.inl rfl) | exact Or.inr (Or.inr rfl) | assumption)
theorem hw_X4_controllerOf_X3 : ∀ w ∈ wsX30, w ∈ wsX4_controllerOf := fun w h => List.mem_cons_of_mem _ (List.mem_append_left _ (List.mem_append_left _ (List.mem_append_left _ (List.mem_append_right _ (h)))))
theorem hw_X4_controllerOf_X4 : ∀ w ∈ wsX40, w ∈ wsX4_controllerOf := fun w h => List.mem_cons_of_mem _ (List.mem_append_left _ (List.mem_append_left _ (List.mem_append_left _ (List.mem_append_left _ (List.mem_append_right _ (h))))))
abbrev rmX4_controllerOf : Room := { frames := 7, cells := 1, slots := 6, locals := 104 }
theorem hd_X4_controllerOf : yX4_controllerOf.cls = RX4 ∧ yX4_controllerOf.cls ≠ "java/lang/invoke/MethodHandle" ∧ yX4_controllerOf.cls ≠ "java/lang/invoke/VarHandle" ∧ (parseMethodDescriptor yX4_controllerOf.desc).map (fun d => d.parameters.length) = some 2 := by decide +kernel
set_option maxHeartbeats 4000000 in
set_option maxRecDepth 100000 in
theorem c_X4_controllerOf (l : Launch) (hfl : l.stackTraces = false) (G : zG_t) (place : Int32) (layer : Int32) (L : zS_t) (T : zS_t) (E : zS_t) (V : zS_t) (M : zS_t) (K : zS_t) (hIT : zIT T) : zXI l G.1 (zty G) yX4_controllerOf wsX4_controllerOf rmX4_controllerOf [.ref (G.2.2 0 0), .int place, .int layer] (zWL G L T E V M K) ((mX4_controllerOf place layer T V).1) ((mX4_controllerOf place layer T V).2.1) (zWL G L T E ((mX4_controllerOf place layer T V).2.2) M K) := by
  obtain ⟨X, hE⟩ : ∃ z, mX4_controllerOf place layer T V = z := ⟨_, rfl⟩
  rw [hE]
  refine zx_I hfl (cc := cX4_controllerOf) (maxL := 3) (by decide) rfl rfl (Nat.le_of_ble_eq_true rfl) rfl rfl ?_
  intro p e s m args below meth c Q A F hsx hret hthr hout
  show zW p l e rmX4_controllerOf s m args below meth c 0 0 Q G.1 A 3 (zWL G L T E V M K) [(0, .ref (G.2.2 0 0)), (1, .int place), (2, .int layer)] 0 []
  have k_0 : Int32.toInt 0 = 0 := by decide
  have k_1 : Int32.toInt 1 = 1 := by decide
  obtain ⟨i16, i17⟩ := id hIT
  unfold mX4_controllerOf at hE
  refine zi_aload_n (pc := 0) F dX4_controllerOf_0 0 rfl ?_
  refine zi_iload_n (pc := 1) F dX4_controllerOf_1 1 rfl ?_
  refine zi_iload_n (pc := 2) F dX4_controllerOf_2 2 rfl ?_
  have hM3 := c_X4_requireThingAndLayer l hfl G place layer L T E V M K (hIT)
  have pp4 := pp_X4_requireThingAndLayer place layer T (hIT)
  obtain ⟨x1, e2⟩ : ∃ z, mX4_requireThingAndLayer place layer T = z := ⟨_, rfl⟩
  have hE := zbnd_cut hE e2
  rw [e2] at hM3
  rw [e2] at pp4
  obtain ⟨q5, q6, q7⟩ := pp4
  refine zi_callXV (pc := 3) (rest := []) (ws' := zWL G L T E V M K) F hsx hM3 (cwV 2 F.1.2.2.2.2 gX4_controllerOf_X4_requireThingAndLayer rfl rfl rfl hd_X4_requireThingAndLayer ⟨Nat.le_of_ble_eq_true rfl, Nat.le_of_ble_eq_true rfl⟩) 0 rfl rfl _ _ (zw_nil _) (zw_nil _).symm rfl rfl (Nat.le_of_ble_eq_true rfl) dX4_controllerOf_3 ⟨Nat.le_of_ble_eq_true rfl, Nat.le_of_ble_eq_true rfl⟩ (fun En c8 => ?_) (fun c8 => ?_)
  · have hE := zite_f hE (fun h9 => by rw [h9] at c8; exact absurd c8 (fun q9 => by cases q9))
    subst hE
    exact hout _ _ En _ _ (Nat.le_of_ble_eq_true rfl) (Nat.le_of_ble_eq_true rfl) c8
  · have hE := zite_t hE c8
    have t9 := q5.resolve_right (fun h9 => h9 c8)
    have t10 := q6.resolve_right (fun h9 => h9 c8)
    refine zi_aload_n (pc := 6) F dX4_controllerOf_6 0 rfl ?_
    refine zi_get (pc := 7) (C := RX4) (T := TX4) (N := 11) (v := .ref (G.2.2 3 0)) F (hw_X4_controllerOf_X4) 0 rfl rfl 3 (by decide) (List.mem_of_getElem? (i := 1) rfl) rfl rfl dX4_controllerOf_7 ?_
    refine zi_aload_n (pc := 10) F dX4_controllerOf_10 0 rfl ?_
    refine zi_get (pc := 11) (C := RX4) (T := TX4) (N := 11) (v := .ref (G.2.2 1 0)) F (hw_X4_controllerOf_X4) 0 rfl rfl 1 (by decide) (List.mem_of_getElem? (i := 2) rfl) rfl rfl dX4_controllerOf_11 ?_
    refine zi_iload_n (pc := 14) F dX4_controllerOf_14 2 rfl ?_
    have hM13 := c_X3_find l G layer T V (hIT) (by first | omega | (show Int32.toInt layer ≤ 5; omega))
    obtain ⟨V11, e12⟩ : ∃ z, mX3_find layer T V = z := ⟨_, rfl⟩
    have hE := zbnd_cut hE e12
    rw [e12] at hM13
    refine zi_callVV (pc := 15) (rest := []) (ws' := zWL G L T E V11 M K) F hM13 (cwV 2 F.1.2.2.2.2 gX4_controllerOf_X3_find rfl rfl rfl hd_X3_find ⟨Nat.le_of_ble_eq_true rfl, Nat.le_of_ble_eq_true rfl⟩) 5 rfl rfl _ _ (zwL_V G L T E V M K) (zwL_V G L T E V11 M K).symm rfl rfl (Nat.le_of_ble_eq_true rfl) dX4_controllerOf_15 ⟨Nat.le_of_ble_eq_true rfl, Nat.le_of_ble_eq_true rfl⟩ ?_
    refine zi_aload_n (pc := 18) F dX4_controllerOf_18 0 rfl ?_
    refine zi_get (pc := 19) (C := RX4) (T := TX4) (N := 11) (v := .ref (G.2.2 3 0)) F (hw_X4_controllerOf_X4) 0 rfl rfl 3 (by decide) (List.mem_of_getElem? (i := 1) rfl) rfl rfl dX4_controllerOf_19 ?_
    refine zi_get (pc := 22) (C := RX3) (T := TX3) (N := 5) (v := .ref (G.2.2 3 1)) F (hw_X4_controllerOf_X3) 13 rfl rfl 0 (by decide) (List.mem_of_getElem? (i := 3) rfl) rfl rfl dX4_controllerOf_22 ?_
    refine zi_iload_n (pc := 25) F dX4_controllerOf_25 1 rfl ?_
    refine zi_iald (pc := 26) (v := (V11 0 place.toNatClampNeg)) F 14 0 rfl rfl (zin (a := place) (by omega) (by omega)) rfl dX4_controllerOf_26 ?_
    subst hE
    exact hret _ _ _ _ (Nat.le_of_ble_eq_true rfl) (Nat.le_of_ble_eq_true rfl) dX4_controllerOf_27 rfl
/-! X4_kindsOf -/
def mX4_kindsOf (place : Int32) (layer : Int32) (T : zS_t) (V : zS_t) : Option String × Int32 × zS_t := zbnd (mX4_requireThingAndLayer place layer T) (fun x1 => if x1 = none then (zbnd (mX3_find layer T V) (fun V11 => (none, (V11 1 place.toNatClampNeg), V11))) else (x1, 0, V))
set_option maxHeartbeats 4000000 in
set_option maxRecDepth 100000 in
theorem pp_X4_kindsOf (place : Int32) (layer : Int32) (T : zS_t) (V : zS_t) (hIT : zIT T) : (((mX4_kindsOf place layer T V).1) = none ∨ ((mX4_kindsOf place layer T V).1) = some "java/lang/IndexOutOfBoundsException" ∨ ((mX4_kindsOf place layer T V).1) = some "java/lang/IllegalArgumentException") := by
  obtain ⟨X, hE⟩ : ∃ z, mX4_kindsOf place layer T V = z := ⟨_, rfl⟩
  rw [hE]
  have k_0 : Int32.toInt 0 = 0 := by decide
  have k_1 : Int32.toInt 1 = 1 := by decide
  obtain ⟨i14, i15⟩ := id hIT
  unfold mX4_kindsOf at hE
  have pp4 := pp_X4_requireThingAndLayer place layer T (hIT)
  obtain ⟨x1, e2⟩ : ∃ z, mX4_requireThingAndLayer place layer T = z := ⟨_, rfl⟩
  have hE := zbnd_cut hE e2
  rw [e2] at pp4
  obtain ⟨q5, q6, q7⟩ := pp4
  by_cases c8 : x1 = none
  · have hE := zite_t hE c8
    have t9 := q5.resolve_right (fun h9 => h9 c8)
    have t10 := q6.resolve_right (fun h9 => h9 c8)
    obtain ⟨V11, e12⟩ : ∃ z, mX3_find layer T V = z := ⟨_, rfl⟩
    have hE := zbnd_cut hE e12
    subst hE
    exact (by first | exact Or.inl rfl | exact Or.inr rfl | exact Or.inr (Or.inl rfl) | exact Or.inr (Or.inr rfl) | assumption)
  · have hE := zite_f hE c8
    subst hE
    exact (by first | exact Or.inl rfl | exact Or.inr rfl | exact Or.inr (Or.inl rfl) | exact Or.inr (Or.inr rfl) | assumption)
theorem hw_X4_kindsOf_X3 : ∀ w ∈ wsX30, w ∈ wsX4_kindsOf := fun w h => List.mem_cons_of_mem _ (List.mem_append_left _ (List.mem_append_left _ (List.mem_append_left _ (List.mem_append_right _ (h)))))
theorem hw_X4_kindsOf_X4 : ∀ w ∈ wsX40, w ∈ wsX4_kindsOf := fun w h => List.mem_cons_of_mem _ (List.mem_append_left _ (List.mem_append_left _ (List.mem_append_left _ (List.mem_append_left _ (List.mem_append_right _ (h))))))
abbrev rmX4_kindsOf : Room := { frames := 7, cells := 1, slots := 6, locals := 104 }
theorem hd_X4_kindsOf : yX4_kindsOf.cls = RX4 ∧ yX4_kindsOf.cls ≠ "java/lang/invoke/MethodHandle" ∧ yX4_kindsOf.cls ≠ "java/lang/invoke/VarHandle" ∧ (parseMethodDescriptor yX4_kindsOf.desc).map (fun d => d.parameters.length) = some 2 := by decide +kernel
set_option maxHeartbeats 4000000 in
set_option maxRecDepth 100000 in
theorem c_X4_kindsOf (l : Launch) (hfl : l.stackTraces = false) (G : zG_t) (place : Int32) (layer : Int32) (L : zS_t) (T : zS_t) (E : zS_t) (V : zS_t) (M : zS_t) (K : zS_t) (hIT : zIT T) : zXI l G.1 (zty G) yX4_kindsOf wsX4_kindsOf rmX4_kindsOf [.ref (G.2.2 0 0), .int place, .int layer] (zWL G L T E V M K) ((mX4_kindsOf place layer T V).1) ((mX4_kindsOf place layer T V).2.1) (zWL G L T E ((mX4_kindsOf place layer T V).2.2) M K) := by
  obtain ⟨X, hE⟩ : ∃ z, mX4_kindsOf place layer T V = z := ⟨_, rfl⟩
  rw [hE]
  refine zx_I hfl (cc := cX4_kindsOf) (maxL := 3) (by decide) rfl rfl (Nat.le_of_ble_eq_true rfl) rfl rfl ?_
  intro p e s m args below meth c Q A F hsx hret hthr hout
  show zW p l e rmX4_kindsOf s m args below meth c 0 0 Q G.1 A 3 (zWL G L T E V M K) [(0, .ref (G.2.2 0 0)), (1, .int place), (2, .int layer)] 0 []
  have k_0 : Int32.toInt 0 = 0 := by decide
  have k_1 : Int32.toInt 1 = 1 := by decide
  obtain ⟨i16, i17⟩ := id hIT
  unfold mX4_kindsOf at hE
  refine zi_aload_n (pc := 0) F dX4_kindsOf_0 0 rfl ?_
  refine zi_iload_n (pc := 1) F dX4_kindsOf_1 1 rfl ?_
  refine zi_iload_n (pc := 2) F dX4_kindsOf_2 2 rfl ?_
  have hM3 := c_X4_requireThingAndLayer l hfl G place layer L T E V M K (hIT)
  have pp4 := pp_X4_requireThingAndLayer place layer T (hIT)
  obtain ⟨x1, e2⟩ : ∃ z, mX4_requireThingAndLayer place layer T = z := ⟨_, rfl⟩
  have hE := zbnd_cut hE e2
  rw [e2] at hM3
  rw [e2] at pp4
  obtain ⟨q5, q6, q7⟩ := pp4
  refine zi_callXV (pc := 3) (rest := []) (ws' := zWL G L T E V M K) F hsx hM3 (cwV 2 F.1.2.2.2.2 gX4_kindsOf_X4_requireThingAndLayer rfl rfl rfl hd_X4_requireThingAndLayer ⟨Nat.le_of_ble_eq_true rfl, Nat.le_of_ble_eq_true rfl⟩) 0 rfl rfl _ _ (zw_nil _) (zw_nil _).symm rfl rfl (Nat.le_of_ble_eq_true rfl) dX4_kindsOf_3 ⟨Nat.le_of_ble_eq_true rfl, Nat.le_of_ble_eq_true rfl⟩ (fun En c8 => ?_) (fun c8 => ?_)
  · have hE := zite_f hE (fun h9 => by rw [h9] at c8; exact absurd c8 (fun q9 => by cases q9))
    subst hE
    exact hout _ _ En _ _ (Nat.le_of_ble_eq_true rfl) (Nat.le_of_ble_eq_true rfl) c8
  · have hE := zite_t hE c8
    have t9 := q5.resolve_right (fun h9 => h9 c8)
    have t10 := q6.resolve_right (fun h9 => h9 c8)
    refine zi_aload_n (pc := 6) F dX4_kindsOf_6 0 rfl ?_
    refine zi_get (pc := 7) (C := RX4) (T := TX4) (N := 11) (v := .ref (G.2.2 3 0)) F (hw_X4_kindsOf_X4) 0 rfl rfl 3 (by decide) (List.mem_of_getElem? (i := 1) rfl) rfl rfl dX4_kindsOf_7 ?_
    refine zi_aload_n (pc := 10) F dX4_kindsOf_10 0 rfl ?_
    refine zi_get (pc := 11) (C := RX4) (T := TX4) (N := 11) (v := .ref (G.2.2 1 0)) F (hw_X4_kindsOf_X4) 0 rfl rfl 1 (by decide) (List.mem_of_getElem? (i := 2) rfl) rfl rfl dX4_kindsOf_11 ?_
    refine zi_iload_n (pc := 14) F dX4_kindsOf_14 2 rfl ?_
    have hM13 := c_X3_find l G layer T V (hIT) (by first | omega | (show Int32.toInt layer ≤ 5; omega))
    obtain ⟨V11, e12⟩ : ∃ z, mX3_find layer T V = z := ⟨_, rfl⟩
    have hE := zbnd_cut hE e12
    rw [e12] at hM13
    refine zi_callVV (pc := 15) (rest := []) (ws' := zWL G L T E V11 M K) F hM13 (cwV 2 F.1.2.2.2.2 gX4_kindsOf_X3_find rfl rfl rfl hd_X3_find ⟨Nat.le_of_ble_eq_true rfl, Nat.le_of_ble_eq_true rfl⟩) 5 rfl rfl _ _ (zwL_V G L T E V M K) (zwL_V G L T E V11 M K).symm rfl rfl (Nat.le_of_ble_eq_true rfl) dX4_kindsOf_15 ⟨Nat.le_of_ble_eq_true rfl, Nat.le_of_ble_eq_true rfl⟩ ?_
    refine zi_aload_n (pc := 18) F dX4_kindsOf_18 0 rfl ?_
    refine zi_get (pc := 19) (C := RX4) (T := TX4) (N := 11) (v := .ref (G.2.2 3 0)) F (hw_X4_kindsOf_X4) 0 rfl rfl 3 (by decide) (List.mem_of_getElem? (i := 1) rfl) rfl rfl dX4_kindsOf_19 ?_
    refine zi_get (pc := 22) (C := RX3) (T := TX3) (N := 5) (v := .ref (G.2.2 3 2)) F (hw_X4_kindsOf_X3) 13 rfl rfl 1 (by decide) (List.mem_of_getElem? (i := 3) rfl) rfl rfl dX4_kindsOf_22 ?_
    refine zi_iload_n (pc := 25) F dX4_kindsOf_25 1 rfl ?_
    refine zi_iald (pc := 26) (v := (V11 1 place.toNatClampNeg)) F 15 0 rfl rfl (zin (a := place) (by omega) (by omega)) rfl dX4_kindsOf_26 ?_
    subst hE
    exact hret _ _ _ _ (Nat.le_of_ble_eq_true rfl) (Nat.le_of_ble_eq_true rfl) dX4_kindsOf_27 rfl
/-! X4_strengthOf -/
def mX4_strengthOf (place : Int32) (layer : Int32) (T : zS_t) (V : zS_t) : Option String × Int32 × zS_t := zbnd (mX4_requireThingAndLayer place layer T) (fun x1 => if x1 = none then (zbnd (mX3_find layer T V) (fun V11 => (none, (V11 2 place.toNatClampNeg), V11))) else (x1, 0, V))
set_option maxHeartbeats 4000000 in
set_option maxRecDepth 100000 in
theorem pp_X4_strengthOf (place : Int32) (layer : Int32) (T : zS_t) (V : zS_t) (hIT : zIT T) : (((mX4_strengthOf place layer T V).1) = none ∨ ((mX4_strengthOf place layer T V).1) = some "java/lang/IndexOutOfBoundsException" ∨ ((mX4_strengthOf place layer T V).1) = some "java/lang/IllegalArgumentException") := by
  obtain ⟨X, hE⟩ : ∃ z, mX4_strengthOf place layer T V = z := ⟨_, rfl⟩
  rw [hE]
  have k_0 : Int32.toInt 0 = 0 := by decide
  have k_1 : Int32.toInt 1 = 1 := by decide
  obtain ⟨i14, i15⟩ := id hIT
  unfold mX4_strengthOf at hE
  have pp4 := pp_X4_requireThingAndLayer place layer T (hIT)
  obtain ⟨x1, e2⟩ : ∃ z, mX4_requireThingAndLayer place layer T = z := ⟨_, rfl⟩
  have hE := zbnd_cut hE e2
  rw [e2] at pp4
  obtain ⟨q5, q6, q7⟩ := pp4
  by_cases c8 : x1 = none
  · have hE := zite_t hE c8
    have t9 := q5.resolve_right (fun h9 => h9 c8)
    have t10 := q6.resolve_right (fun h9 => h9 c8)
    obtain ⟨V11, e12⟩ : ∃ z, mX3_find layer T V = z := ⟨_, rfl⟩
    have hE := zbnd_cut hE e12
    subst hE
    exact (by first | exact Or.inl rfl | exact Or.inr rfl | exact Or.inr (Or.inl rfl) | exact Or.inr (Or.inr rfl) | assumption)
  · have hE := zite_f hE c8
    subst hE
    exact (by first | exact Or.inl rfl | exact Or.inr rfl | exact Or.inr (Or.inl rfl) | exact Or.inr (Or.inr rfl) | assumption)
theorem hw_X4_strengthOf_X3 : ∀ w ∈ wsX30, w ∈ wsX4_strengthOf := fun w h => List.mem_cons_of_mem _ (List.mem_append_left _ (List.mem_append_left _ (List.mem_append_left _ (List.mem_append_right _ (h)))))
theorem hw_X4_strengthOf_X4 : ∀ w ∈ wsX40, w ∈ wsX4_strengthOf := fun w h => List.mem_cons_of_mem _ (List.mem_append_left _ (List.mem_append_left _ (List.mem_append_left _ (List.mem_append_left _ (List.mem_append_right _ (h))))))
abbrev rmX4_strengthOf : Room := { frames := 7, cells := 1, slots := 6, locals := 104 }
theorem hd_X4_strengthOf : yX4_strengthOf.cls = RX4 ∧ yX4_strengthOf.cls ≠ "java/lang/invoke/MethodHandle" ∧ yX4_strengthOf.cls ≠ "java/lang/invoke/VarHandle" ∧ (parseMethodDescriptor yX4_strengthOf.desc).map (fun d => d.parameters.length) = some 2 := by decide +kernel
set_option maxHeartbeats 4000000 in
set_option maxRecDepth 100000 in
theorem c_X4_strengthOf (l : Launch) (hfl : l.stackTraces = false) (G : zG_t) (place : Int32) (layer : Int32) (L : zS_t) (T : zS_t) (E : zS_t) (V : zS_t) (M : zS_t) (K : zS_t) (hIT : zIT T) : zXI l G.1 (zty G) yX4_strengthOf wsX4_strengthOf rmX4_strengthOf [.ref (G.2.2 0 0), .int place, .int layer] (zWL G L T E V M K) ((mX4_strengthOf place layer T V).1) ((mX4_strengthOf place layer T V).2.1) (zWL G L T E ((mX4_strengthOf place layer T V).2.2) M K) := by
  obtain ⟨X, hE⟩ : ∃ z, mX4_strengthOf place layer T V = z := ⟨_, rfl⟩
  rw [hE]
  refine zx_I hfl (cc := cX4_strengthOf) (maxL := 3) (by decide) rfl rfl (Nat.le_of_ble_eq_true rfl) rfl rfl ?_
  intro p e s m args below meth c Q A F hsx hret hthr hout
  show zW p l e rmX4_strengthOf s m args below meth c 0 0 Q G.1 A 3 (zWL G L T E V M K) [(0, .ref (G.2.2 0 0)), (1, .int place), (2, .int layer)] 0 []
  have k_0 : Int32.toInt 0 = 0 := by decide
  have k_1 : Int32.toInt 1 = 1 := by decide
  obtain ⟨i16, i17⟩ := id hIT
  unfold mX4_strengthOf at hE
  refine zi_aload_n (pc := 0) F dX4_strengthOf_0 0 rfl ?_
  refine zi_iload_n (pc := 1) F dX4_strengthOf_1 1 rfl ?_
  refine zi_iload_n (pc := 2) F dX4_strengthOf_2 2 rfl ?_
  have hM3 := c_X4_requireThingAndLayer l hfl G place layer L T E V M K (hIT)
  have pp4 := pp_X4_requireThingAndLayer place layer T (hIT)
  obtain ⟨x1, e2⟩ : ∃ z, mX4_requireThingAndLayer place layer T = z := ⟨_, rfl⟩
  have hE := zbnd_cut hE e2
  rw [e2] at hM3
  rw [e2] at pp4
  obtain ⟨q5, q6, q7⟩ := pp4
  refine zi_callXV (pc := 3) (rest := []) (ws' := zWL G L T E V M K) F hsx hM3 (cwV 2 F.1.2.2.2.2 gX4_strengthOf_X4_requireThingAndLayer rfl rfl rfl hd_X4_requireThingAndLayer ⟨Nat.le_of_ble_eq_true rfl, Nat.le_of_ble_eq_true rfl⟩) 0 rfl rfl _ _ (zw_nil _) (zw_nil _).symm rfl rfl (Nat.le_of_ble_eq_true rfl) dX4_strengthOf_3 ⟨Nat.le_of_ble_eq_true rfl, Nat.le_of_ble_eq_true rfl⟩ (fun En c8 => ?_) (fun c8 => ?_)
  · have hE := zite_f hE (fun h9 => by rw [h9] at c8; exact absurd c8 (fun q9 => by cases q9))
    subst hE
    exact hout _ _ En _ _ (Nat.le_of_ble_eq_true rfl) (Nat.le_of_ble_eq_true rfl) c8
  · have hE := zite_t hE c8
    have t9 := q5.resolve_right (fun h9 => h9 c8)
    have t10 := q6.resolve_right (fun h9 => h9 c8)
    refine zi_aload_n (pc := 6) F dX4_strengthOf_6 0 rfl ?_
    refine zi_get (pc := 7) (C := RX4) (T := TX4) (N := 11) (v := .ref (G.2.2 3 0)) F (hw_X4_strengthOf_X4) 0 rfl rfl 3 (by decide) (List.mem_of_getElem? (i := 1) rfl) rfl rfl dX4_strengthOf_7 ?_
    refine zi_aload_n (pc := 10) F dX4_strengthOf_10 0 rfl ?_
    refine zi_get (pc := 11) (C := RX4) (T := TX4) (N := 11) (v := .ref (G.2.2 1 0)) F (hw_X4_strengthOf_X4) 0 rfl rfl 1 (by decide) (List.mem_of_getElem? (i := 2) rfl) rfl rfl dX4_strengthOf_11 ?_
    refine zi_iload_n (pc := 14) F dX4_strengthOf_14 2 rfl ?_
    have hM13 := c_X3_find l G layer T V (hIT) (by first | omega | (show Int32.toInt layer ≤ 5; omega))
    obtain ⟨V11, e12⟩ : ∃ z, mX3_find layer T V = z := ⟨_, rfl⟩
    have hE := zbnd_cut hE e12
    rw [e12] at hM13
    refine zi_callVV (pc := 15) (rest := []) (ws' := zWL G L T E V11 M K) F hM13 (cwV 2 F.1.2.2.2.2 gX4_strengthOf_X3_find rfl rfl rfl hd_X3_find ⟨Nat.le_of_ble_eq_true rfl, Nat.le_of_ble_eq_true rfl⟩) 5 rfl rfl _ _ (zwL_V G L T E V M K) (zwL_V G L T E V11 M K).symm rfl rfl (Nat.le_of_ble_eq_true rfl) dX4_strengthOf_15 ⟨Nat.le_of_ble_eq_true rfl, Nat.le_of_ble_eq_true rfl⟩ ?_
    refine zi_aload_n (pc := 18) F dX4_strengthOf_18 0 rfl ?_
    refine zi_get (pc := 19) (C := RX4) (T := TX4) (N := 11) (v := .ref (G.2.2 3 0)) F (hw_X4_strengthOf_X4) 0 rfl rfl 3 (by decide) (List.mem_of_getElem? (i := 1) rfl) rfl rfl dX4_strengthOf_19 ?_
    refine zi_get (pc := 22) (C := RX3) (T := TX3) (N := 5) (v := .ref (G.2.2 3 3)) F (hw_X4_strengthOf_X3) 13 rfl rfl 2 (by decide) (List.mem_of_getElem? (i := 3) rfl) rfl rfl dX4_strengthOf_22 ?_
    refine zi_iload_n (pc := 25) F dX4_strengthOf_25 1 rfl ?_
    refine zi_iald (pc := 26) (v := (V11 2 place.toNatClampNeg)) F 16 0 rfl rfl (zin (a := place) (by omega) (by omega)) rfl dX4_strengthOf_26 ?_
    subst hE
    exact hret _ _ _ _ (Nat.le_of_ble_eq_true rfl) (Nat.le_of_ble_eq_true rfl) dX4_strengthOf_27 rfl
/-! X4_power -/
def mX4_power_L35 (player : Int32) (T : zS_t) (V6 : zS_t) : Nat → Int32 → Int32 → Int32 × Int32
  | 0, k2_34, k3_35 => (k2_34, k3_35)
  | n36 + 1, k2_34, k3_35 => if (T 4 0) ≤ k3_35 then (k2_34, k3_35) else (if (V6 0 k3_35.toNatClampNeg) = player then (if ((V6 1 k3_35.toNatClampNeg) &&& 1) = 0 then (zbnd ((k3_35 + 1)) (fun y54 => mX4_power_L35 player T V6 n36 k2_34 y54)) else (zbnd ((k2_34 + (V6 2 k3_35.toNatClampNeg))) (fun y59 => zbnd ((k3_35 + 1)) (fun y63 => mX4_power_L35 player T V6 n36 y59 y63)))) else (zbnd ((k3_35 + 1)) (fun y47 => mX4_power_L35 player T V6 n36 k2_34 y47)))
def mX4_power (player : Int32) (T : zS_t) (V : zS_t) : Option String × Int32 × zS_t := if player < 0 then (some "java/lang/IndexOutOfBoundsException", 0, V) else (if player < 3 then (zbnd (mX3_find 5 T V) (fun V6 => zbnd2 (mX4_power_L35 player T V6 11 0 0) (fun k2_67 k3_68 => (none, k2_67, V6)))) else (some "java/lang/IndexOutOfBoundsException", 0, V))
set_option maxHeartbeats 4000000 in
set_option maxRecDepth 100000 in
theorem pp_X4_power (player : Int32) (T : zS_t) (V : zS_t) (hIT : zIT T) : (((mX4_power player T V).1) = none ∨ ((mX4_power player T V).1) = some "java/lang/IndexOutOfBoundsException") := by
  obtain ⟨X, hE⟩ : ∃ z, mX4_power player T V = z := ⟨_, rfl⟩
  rw [hE]
  have k_0 : Int32.toInt 0 = 0 := by decide
  have k_1 : Int32.toInt 1 = 1 := by decide
  have k_3 : Int32.toInt 3 = 3 := by decide
  have k_5 : Int32.toInt 5 = 5 := by decide
  obtain ⟨i74, i75⟩ := id hIT
  unfold mX4_power at hE
  by_cases c1 : player < 0
  · have hE := zite_t hE c1
    have t2 := zt_lt c1
    subst hE
    exact (by first | exact Or.inl rfl | exact Or.inr rfl | exact Or.inr (Or.inl rfl) | exact Or.inr (Or.inr rfl) | assumption)
  · have hE := zite_f hE c1
    have t3 := zt_nlt c1
    by_cases c4 : player < 3
    · have hE := zite_t hE c4
      have t5 := zt_lt c4
      obtain ⟨V6, e7⟩ : ∃ z, mX3_find 5 T V = z := ⟨_, rfl⟩
      have hE := zbnd_cut hE e7
      have hL35 : ∀ (n36 : Nat) (k2_34 : Int32) (k3_35 : Int32), (0 ≤ Int32.toInt k3_35) ∧ (Int32.toInt k3_35 ≤ 10) → 11 - Int32.toInt k3_35 ≤ (n36 : Int) → ∀ Y37, mX4_power_L35 player T V6 n36 k2_34 k3_35 = Y37 → (0 ≤ Int32.toInt Y37.2) ∧ (Int32.toInt Y37.2 ≤ 10) := by
        intro n36
        induction n36 with
        | zero =>
          intro k2_34 k3_35 hI hM9
          obtain ⟨i38, i39⟩ := id hI
          exact absurd hM9 (by omega)
        | succ n36 ih =>
          intro k2_34 k3_35 hI hM9 Y37 hE
          obtain ⟨i40, i41⟩ := id hI
          rw [mX4_power_L35.eq_2] at hE
          by_cases c42 : (T 4 0) ≤ k3_35
          · have hE := zite_t hE c42
            have t43 := zt_le c42
            subst hE
            exact ⟨by (show 0 ≤ Int32.toInt k3_35; omega), by (show Int32.toInt k3_35 ≤ 10; omega)⟩
          · have hE := zite_f hE c42
            have t44 := zt_nle c42
            by_cases c45 : (V6 0 k3_35.toNatClampNeg) = player
            · have hE := zite_t hE c45
              have t46 := congrArg Int32.toInt c45
              by_cases c47 : ((V6 1 k3_35.toNatClampNeg) &&& 1) = 0
              · have hE := zite_t hE c47
                have t48 := congrArg Int32.toInt c47
                try have t51 := zt_add (a := k3_35) (b := 1) (by omega) (by omega)
                obtain ⟨y49, e50⟩ : ∃ z : Int32, (k3_35 + 1) = z := ⟨_, rfl⟩
                have hE := zbnd_cut hE e50
                have t52 := congrArg Int32.toInt e50
                exact ih k2_34 y49 (⟨by (show 0 ≤ Int32.toInt y49; omega), by (show Int32.toInt y49 ≤ 10; omega)⟩) (by omega) _ hE
              · have hE := zite_f hE c47
                have t53 := zt_ne c47
                try have t56 := zt_add (a := k2_34) (b := (V6 2 k3_35.toNatClampNeg)) (by omega) (by omega)
                obtain ⟨y54, e55⟩ : ∃ z : Int32, (k2_34 + (V6 2 k3_35.toNatClampNeg)) = z := ⟨_, rfl⟩
                have hE := zbnd_cut hE e55
                have t57 := congrArg Int32.toInt e55
                try have t60 := zt_add (a := k3_35) (b := 1) (by omega) (by omega)
                obtain ⟨y58, e59⟩ : ∃ z : Int32, (k3_35 + 1) = z := ⟨_, rfl⟩
                have hE := zbnd_cut hE e59
                have t61 := congrArg Int32.toInt e59
                exact ih y54 y58 (⟨by (show 0 ≤ Int32.toInt y58; omega), by (show Int32.toInt y58 ≤ 10; omega)⟩) (by omega) _ hE
            · have hE := zite_f hE c45
              have t62 := zt_ne c45
              try have t65 := zt_add (a := k3_35) (b := 1) (by omega) (by omega)
              obtain ⟨y63, e64⟩ : ∃ z : Int32, (k3_35 + 1) = z := ⟨_, rfl⟩
              have hE := zbnd_cut hE e64
              have t66 := congrArg Int32.toInt e64
              exact ih k2_34 y63 (⟨by (show 0 ≤ Int32.toInt y63; omega), by (show Int32.toInt y63 ≤ 10; omega)⟩) (by omega) _ hE
      obtain ⟨⟨k2_67, k3_68⟩, e69⟩ : ∃ z, mX4_power_L35 player T V6 11 0 0 = z := ⟨_, rfl⟩
      have hE := zbnd2_cut hE e69
      have hI70 := hL35 11 0 0 (⟨by (show 0 ≤ Int32.toInt 0; omega), by (show Int32.toInt 0 ≤ 10; omega)⟩) (by omega) _ e69
      have hI70 : (0 ≤ Int32.toInt k3_68) ∧ (Int32.toInt k3_68 ≤ 10) := hI70
      obtain ⟨i71, i72⟩ := id hI70
      subst hE
      exact (by first | exact Or.inl rfl | exact Or.inr rfl | exact Or.inr (Or.inl rfl) | exact Or.inr (Or.inr rfl) | assumption)
    · have hE := zite_f hE c4
      have t73 := zt_nlt c4
      subst hE
      exact (by first | exact Or.inl rfl | exact Or.inr rfl | exact Or.inr (Or.inl rfl) | exact Or.inr (Or.inr rfl) | assumption)
theorem hw_X4_power_X2 : ∀ w ∈ wsX20, w ∈ wsX4_power := fun w h => List.mem_cons_of_mem _ (List.mem_append_left _ (List.mem_append_left _ (List.mem_append_right _ (h))))
theorem hw_X4_power_X3 : ∀ w ∈ wsX30, w ∈ wsX4_power := fun w h => List.mem_cons_of_mem _ (List.mem_append_left _ (List.mem_append_right _ (h)))
theorem hw_X4_power_X4 : ∀ w ∈ wsX40, w ∈ wsX4_power := fun w h => List.mem_cons_of_mem _ (List.mem_append_left _ (List.mem_append_left _ (List.mem_append_left _ (List.mem_append_right _ (h)))))
abbrev rmX4_power : Room := { frames := 6, cells := 1, slots := 6, locals := 82 }
theorem hd_X4_power : yX4_power.cls = RX4 ∧ yX4_power.cls ≠ "java/lang/invoke/MethodHandle" ∧ yX4_power.cls ≠ "java/lang/invoke/VarHandle" ∧ (parseMethodDescriptor yX4_power.desc).map (fun d => d.parameters.length) = some 1 := by decide +kernel
set_option maxHeartbeats 4000000 in
set_option maxRecDepth 100000 in
theorem c_X4_power (l : Launch) (hfl : l.stackTraces = false) (G : zG_t) (player : Int32) (L : zS_t) (T : zS_t) (E : zS_t) (V : zS_t) (M : zS_t) (K : zS_t) (hIT : zIT T) : zXI l G.1 (zty G) yX4_power wsX4_power rmX4_power [.ref (G.2.2 0 0), .int player] (zWL G L T E V M K) ((mX4_power player T V).1) ((mX4_power player T V).2.1) (zWL G L T E ((mX4_power player T V).2.2) M K) := by
  obtain ⟨X, hE⟩ : ∃ z, mX4_power player T V = z := ⟨_, rfl⟩
  rw [hE]
  refine zx_I hfl (cc := cX4_power) (maxL := 4) (by decide) rfl rfl (Nat.le_of_ble_eq_true rfl) rfl rfl ?_
  intro p e s m args below meth c Q A F hsx hret hthr hout
  show zW p l e rmX4_power s m args below meth c 0 0 Q G.1 A 4 (zWL G L T E V M K) [(0, .ref (G.2.2 0 0)), (1, .int player)] 0 []
  have k_0 : Int32.toInt 0 = 0 := by decide
  have k_1 : Int32.toInt 1 = 1 := by decide
  have k_3 : Int32.toInt 3 = 3 := by decide
  have k_5 : Int32.toInt 5 = 5 := by decide
  obtain ⟨i76, i77⟩ := id hIT
  unfold mX4_power at hE
  refine zi_iload_n (pc := 0) F dX4_power_0 1 rfl ?_
  refine zi_if_lt (pc := 1) (tgt := 9) F dX4_power_1 (by decide) (fun c1 => ?_) (fun c1 => ?_)
  · have hE := zite_t hE c1
    have t2 := zt_lt c1
    subst hE
    exact hthr 9 41 112 45 "java/lang/IndexOutOfBoundsException" "no such player" _ rfl ⟨⟨dX4_power_9, dX4_power_12, dX4_power_13, dX4_power_15, dX4_power_18⟩, (List.mem_of_getElem? (i := 1) rfl), (List.mem_of_getElem? (i := 2) rfl), by decide, by decide, fun w h => List.mem_cons_of_mem _ (List.mem_append_right _ (h)), zng_45, zgd_45, Nat.le_of_ble_eq_true rfl, Nat.le_of_ble_eq_true rfl⟩
  · have hE := zite_f hE c1
    have t3 := zt_nlt c1
    refine zi_iload_n (pc := 4) F dX4_power_4 1 rfl ?_
    refine zi_iconst (pc := 5) (v := 3) F dX4_power_5 rfl ?_
    refine zi_icmp_lt (pc := 6) (tgt := 19) F dX4_power_6 (by decide) (fun c4 => ?_) (fun c4 => ?_)
    · have hE := zite_t hE c4
      have t5 := zt_lt c4
      refine zi_aload_n (pc := 19) F dX4_power_19 0 rfl ?_
      refine zi_get (pc := 20) (C := RX4) (T := TX4) (N := 11) (v := .ref (G.2.2 3 0)) F (hw_X4_power_X4) 0 rfl rfl 3 (by decide) (List.mem_of_getElem? (i := 3) rfl) rfl rfl dX4_power_20 ?_
      refine zi_aload_n (pc := 23) F dX4_power_23 0 rfl ?_
      refine zi_get (pc := 24) (C := RX4) (T := TX4) (N := 11) (v := .ref (G.2.2 1 0)) F (hw_X4_power_X4) 0 rfl rfl 1 (by decide) (List.mem_of_getElem? (i := 4) rfl) rfl rfl dX4_power_24 ?_
      refine zi_iconst (pc := 27) (v := 5) F dX4_power_27 rfl ?_
      have hM8 := c_X3_find l G 5 T V (hIT) (by first | omega | (show Int32.toInt 5 ≤ 5; omega))
      obtain ⟨V6, e7⟩ : ∃ z, mX3_find 5 T V = z := ⟨_, rfl⟩
      have hE := zbnd_cut hE e7
      rw [e7] at hM8
      refine zi_callVV (pc := 28) (rest := []) (ws' := zWL G L T E V6 M K) F hM8 (cwV 2 F.1.2.2.2.2 gX4_power_X3_find rfl rfl rfl hd_X3_find ⟨Nat.le_of_ble_eq_true rfl, Nat.le_of_ble_eq_true rfl⟩) 5 rfl rfl _ _ (zwL_V G L T E V M K) (zwL_V G L T E V6 M K).symm rfl rfl (Nat.le_of_ble_eq_true rfl) dX4_power_28 ⟨Nat.zero_le _, Nat.zero_le _⟩ ?_
      refine zi_iconst (pc := 31) (v := 0) F dX4_power_31 rfl ?_
      refine zi_istore_n (pc := 32) (lv' := [(0, .ref (G.2.2 0 0)), (1, .int player), (2, .int 0)]) F dX4_power_32 (by decide) rfl ?_
      refine zi_iconst (pc := 33) (v := 0) F dX4_power_33 rfl ?_
      refine zi_istore_n (pc := 34) (lv' := [(0, .ref (G.2.2 0 0)), (1, .int player), (2, .int 0), (3, .int 0)]) F dX4_power_34 (by decide) rfl ?_
      have hL35 : ∀ (n36 : Nat) (k2_34 : Int32) (k3_35 : Int32), (0 ≤ Int32.toInt k3_35) ∧ (Int32.toInt k3_35 ≤ 10) → 11 - Int32.toInt k3_35 ≤ (n36 : Int) → ∀ Y37, mX4_power_L35 player T V6 n36 k2_34 k3_35 = Y37 → (((0 ≤ Int32.toInt Y37.2) ∧ (Int32.toInt Y37.2 ≤ 10)) → zW p l e rmX4_power s m args below meth c 0 0 Q G.1 A 4 (zWL G L T E V6 M K) [(0, .ref (G.2.2 0 0)), (1, .int player), (2, .int Y37.1), (3, .int Y37.2)] 91 []) → zW p l e rmX4_power s m args below meth c 0 0 Q G.1 A 4 (zWL G L T E V6 M K) [(0, .ref (G.2.2 0 0)), (1, .int player), (2, .int k2_34), (3, .int k3_35)] 35 [] := by
        intro n36
        induction n36 with
        | zero =>
          intro k2_34 k3_35 hI hM9
          obtain ⟨i38, i39⟩ := id hI
          exact absurd hM9 (by omega)
        | succ n36 ih =>
          intro k2_34 k3_35 hI hM9 Y37 hE hK
          obtain ⟨i40, i41⟩ := id hI
          rw [mX4_power_L35.eq_2] at hE
          refine zi_iload_n (pc := 35) F dX4_power_35 3 rfl ?_
          refine zi_aload_n (pc := 36) F dX4_power_36 0 rfl ?_
          refine zi_get (pc := 37) (C := RX4) (T := TX4) (N := 11) (v := .ref (G.2.2 1 0)) F (hw_X4_power_X4) 0 rfl rfl 1 (by decide) (List.mem_of_getElem? (i := 4) rfl) rfl rfl dX4_power_37 ?_
          refine zi_get (pc := 40) (C := RX2) (T := TX2) (N := 5) (v := .int (T 4 0)) F (hw_X4_power_X2) 8 rfl rfl 4 (by decide) (List.mem_of_getElem? (i := 5) rfl) rfl rfl dX4_power_40 ?_
          refine zi_icmp_ge (pc := 43) (tgt := 91) F dX4_power_43 (by decide) (fun c42 => ?_) (fun c42 => ?_)
          · have hE := zite_t hE c42
            have t43 := zt_le c42
            subst hE
            refine zi_sub [0, 1, 2, 3] rfl ?_
            exact hK (⟨by (show 0 ≤ Int32.toInt k3_35; omega), by (show Int32.toInt k3_35 ≤ 10; omega)⟩)
          · have hE := zite_f hE c42
            have t44 := zt_nle c42
            refine zi_aload_n (pc := 46) F dX4_power_46 0 rfl ?_
            refine zi_get (pc := 47) (C := RX4) (T := TX4) (N := 11) (v := .ref (G.2.2 3 0)) F (hw_X4_power_X4) 0 rfl rfl 3 (by decide) (List.mem_of_getElem? (i := 3) rfl) rfl rfl dX4_power_47 ?_
            refine zi_get (pc := 50) (C := RX3) (T := TX3) (N := 5) (v := .ref (G.2.2 3 1)) F (hw_X4_power_X3) 13 rfl rfl 0 (by decide) (List.mem_of_getElem? (i := 6) rfl) rfl rfl dX4_power_50 ?_
            refine zi_iload_n (pc := 53) F dX4_power_53 3 rfl ?_
            refine zi_iald (pc := 54) (v := (V6 0 k3_35.toNatClampNeg)) F 14 0 rfl rfl (zin (a := k3_35) (by omega) (by omega)) rfl dX4_power_54 ?_
            refine zi_iload_n (pc := 55) F dX4_power_55 1 rfl ?_
            refine zi_icmp_ne (pc := 56) (tgt := 85) F dX4_power_56 (by decide) (fun c45 => ?_) (fun c45 => ?_)
            · have hE := zite_f hE c45
              have t46 := zt_ne c45
              try have t49 := zt_add (a := k3_35) (b := 1) (by omega) (by omega)
              obtain ⟨y47, e48⟩ : ∃ z : Int32, (k3_35 + 1) = z := ⟨_, rfl⟩
              have hE := zbnd_cut hE e48
              have t50 := congrArg Int32.toInt e48
              refine zi_iinc (pc := 85) (lv' := [(0, .ref (G.2.2 0 0)), (1, .int player), (2, .int k2_34), (3, .int y47)]) F dX4_power_85 3 rfl e48 (by decide) rfl ?_
              refine zi_goto (pc := 88) (tgt := 35) F dX4_power_88 (by decide) ?_
              refine zi_sub [0, 1, 2, 3] rfl ?_
              exact ih k2_34 y47 (⟨by (show 0 ≤ Int32.toInt y47; omega), by (show Int32.toInt y47 ≤ 10; omega)⟩) (by omega) _ hE hK
            · have hE := zite_t hE c45
              have t51 := congrArg Int32.toInt c45
              refine zi_aload_n (pc := 59) F dX4_power_59 0 rfl ?_
              refine zi_get (pc := 60) (C := RX4) (T := TX4) (N := 11) (v := .ref (G.2.2 3 0)) F (hw_X4_power_X4) 0 rfl rfl 3 (by decide) (List.mem_of_getElem? (i := 3) rfl) rfl rfl dX4_power_60 ?_
              refine zi_get (pc := 63) (C := RX3) (T := TX3) (N := 5) (v := .ref (G.2.2 3 2)) F (hw_X4_power_X3) 13 rfl rfl 1 (by decide) (List.mem_of_getElem? (i := 7) rfl) rfl rfl dX4_power_63 ?_
              refine zi_iload_n (pc := 66) F dX4_power_66 3 rfl ?_
              refine zi_iald (pc := 67) (v := (V6 1 k3_35.toNatClampNeg)) F 15 0 rfl rfl (zin (a := k3_35) (by omega) (by omega)) rfl dX4_power_67 ?_
              refine zi_iconst (pc := 68) (v := 1) F dX4_power_68 rfl ?_
              refine zi_iand (pc := 69) F dX4_power_69 ?_
              refine zi_if_eq (pc := 70) (tgt := 85) F dX4_power_70 (by decide) (fun c52 => ?_) (fun c52 => ?_)
              · have hE := zite_t hE c52
                have t53 := congrArg Int32.toInt c52
                try have t56 := zt_add (a := k3_35) (b := 1) (by omega) (by omega)
                obtain ⟨y54, e55⟩ : ∃ z : Int32, (k3_35 + 1) = z := ⟨_, rfl⟩
                have hE := zbnd_cut hE e55
                have t57 := congrArg Int32.toInt e55
                refine zi_iinc (pc := 85) (lv' := [(0, .ref (G.2.2 0 0)), (1, .int player), (2, .int k2_34), (3, .int y54)]) F dX4_power_85 3 rfl e55 (by decide) rfl ?_
                refine zi_goto (pc := 88) (tgt := 35) F dX4_power_88 (by decide) ?_
                refine zi_sub [0, 1, 2, 3] rfl ?_
                exact ih k2_34 y54 (⟨by (show 0 ≤ Int32.toInt y54; omega), by (show Int32.toInt y54 ≤ 10; omega)⟩) (by omega) _ hE hK
              · have hE := zite_f hE c52
                have t58 := zt_ne c52
                refine zi_iload_n (pc := 73) F dX4_power_73 2 rfl ?_
                refine zi_aload_n (pc := 74) F dX4_power_74 0 rfl ?_
                refine zi_get (pc := 75) (C := RX4) (T := TX4) (N := 11) (v := .ref (G.2.2 3 0)) F (hw_X4_power_X4) 0 rfl rfl 3 (by decide) (List.mem_of_getElem? (i := 3) rfl) rfl rfl dX4_power_75 ?_
                refine zi_get (pc := 78) (C := RX3) (T := TX3) (N := 5) (v := .ref (G.2.2 3 3)) F (hw_X4_power_X3) 13 rfl rfl 2 (by decide) (List.mem_of_getElem? (i := 8) rfl) rfl rfl dX4_power_78 ?_
                refine zi_iload_n (pc := 81) F dX4_power_81 3 rfl ?_
                refine zi_iald (pc := 82) (v := (V6 2 k3_35.toNatClampNeg)) F 16 0 rfl rfl (zin (a := k3_35) (by omega) (by omega)) rfl dX4_power_82 ?_
                refine zi_iadd (pc := 83) F dX4_power_83 ?_
                try have t61 := zt_add (a := k2_34) (b := (V6 2 k3_35.toNatClampNeg)) (by omega) (by omega)
                refine zi_topi (fun y59 e60 => ?_)
                have hE := zbnd_cut hE e60
                have t62 := congrArg Int32.toInt e60
                refine zi_istore_n (pc := 84) (lv' := [(0, .ref (G.2.2 0 0)), (1, .int player), (2, .int y59), (3, .int k3_35)]) F dX4_power_84 (by decide) rfl ?_
                try have t65 := zt_add (a := k3_35) (b := 1) (by omega) (by omega)
                obtain ⟨y63, e64⟩ : ∃ z : Int32, (k3_35 + 1) = z := ⟨_, rfl⟩
                have hE := zbnd_cut hE e64
                have t66 := congrArg Int32.toInt e64
                refine zi_iinc (pc := 85) (lv' := [(0, .ref (G.2.2 0 0)), (1, .int player), (2, .int y59), (3, .int y63)]) F dX4_power_85 3 rfl e64 (by decide) rfl ?_
                refine zi_goto (pc := 88) (tgt := 35) F dX4_power_88 (by decide) ?_
                refine zi_sub [0, 1, 2, 3] rfl ?_
                exact ih y59 y63 (⟨by (show 0 ≤ Int32.toInt y63; omega), by (show Int32.toInt y63 ≤ 10; omega)⟩) (by omega) _ hE hK
      obtain ⟨⟨k2_67, k3_68⟩, e69⟩ : ∃ z, mX4_power_L35 player T V6 11 0 0 = z := ⟨_, rfl⟩
      have hE := zbnd2_cut hE e69
      refine hL35 11 0 0 (⟨by (show 0 ≤ Int32.toInt 0; omega), by (show Int32.toInt 0 ≤ 10; omega)⟩) (by omega) _ e69 (fun hI70 => ?_)
      have hI70 : (0 ≤ Int32.toInt k3_68) ∧ (Int32.toInt k3_68 ≤ 10) := hI70
      obtain ⟨i71, i72⟩ := id hI70
      show zW p l e rmX4_power s m args below meth c 0 0 Q G.1 A 4 (zWL G L T E V6 M K) [(0, .ref (G.2.2 0 0)), (1, .int player), (2, .int k2_67), (3, .int k3_68)] 91 []
      refine zi_iload_n (pc := 91) F dX4_power_91 2 rfl ?_
      subst hE
      exact hret _ _ _ _ (Nat.le_of_ble_eq_true rfl) (Nat.le_of_ble_eq_true rfl) dX4_power_92 rfl
    · have hE := zite_f hE c4
      have t73 := zt_nlt c4
      subst hE
      exact hthr 9 41 112 45 "java/lang/IndexOutOfBoundsException" "no such player" _ rfl ⟨⟨dX4_power_9, dX4_power_12, dX4_power_13, dX4_power_15, dX4_power_18⟩, (List.mem_of_getElem? (i := 1) rfl), (List.mem_of_getElem? (i := 2) rfl), by decide, by decide, fun w h => List.mem_cons_of_mem _ (List.mem_append_right _ (h)), zng_45, zgd_45, Nat.le_of_ble_eq_true rfl, Nat.le_of_ble_eq_true rfl⟩
