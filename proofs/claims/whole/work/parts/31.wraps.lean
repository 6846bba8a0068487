/-! L_play -/
abbrev rmL_play : Room := { frames := 7, cells := 1, slots := 6, locals := 108 }
theorem hd_L_play : yL_play.cls ≠ "java/lang/invoke/MethodHandle" ∧ yL_play.cls ≠ "java/lang/invoke/VarHandle" ∧ (parseMethodDescriptor yL_play.desc).map (fun d => d.parameters.length) = some 4 := by decide +kernel
set_option maxHeartbeats 4000000 in
set_option maxRecDepth 100000 in
theorem c_L_play (l : Launch) (hfl : l.stackTraces = false) (G : zG_t) (oa : Nat) (f : Nat → Int64) (card : Int32) (target : Int32) (L T E V M K : zS_t) (hIT : zIT T) (hIE : zIE E) (hIM : zIM M) : zYI l G.1 (zty G) yL_play wsL_play rmL_play [.ref (G.2.2 0 0), .int card, .int target, .ref oa] (zWq G oa f (zWL G L T E V M K)) (zk2 ((mX4_play card target L T E M).1)) (zWq G oa (zot ((mX4_play card target L T E M).1) ((mX4_play card target L T E M).2.1) f) (zWL G ((mX4_play card target L T E M).2.2.1) T ((mX4_play card target L T E M).2.2.2.1) V ((mX4_play card target L T E M).2.2.2.2) K)) := by
  have hM := c_X4_play l hfl G card target L T E V M K hIT hIE hIM
  have hp := pp_X4_play card target L T E M hIT hIE hIM
  obtain ⟨X, hE⟩ : ∃ z, mX4_play card target L T E M = z := ⟨_, rfl⟩
  rw [hE] at hM hp ⊢
  obtain ⟨_, _, hx⟩ := hp
  obtain ⟨x, r, L1, E1, M1⟩ := X
  have hx : x = none ∨ x = some "java/lang/IndexOutOfBoundsException" ∨ x = some "java/lang/IllegalStateException" := hx
  refine zy_I (cc := cL_play) (maxL := 5) (hh := [(0, 10, 13, 13), (0, 10, 17, 15)]) (by decide) rfl (Nat.le_of_ble_eq_true rfl) ?_
  intro p e s m args below meth c Q A F hsx htab hret
  show zW p l e rmL_play s m args below meth c 0 0 Q G.1 A 5 (zWq G oa f (zWL G L T E V M K)) [(0, .ref (G.2.2 0 0)), (1, .int card), (2, .int target), (3, .ref oa)] 0 []
  refine zi_aload_n (pc := 0) F dL_play_0 3 rfl ?_
  refine zi_iconst (pc := 1) (v := 0) F dL_play_1 rfl ?_
  refine zi_aload_n (pc := 2) F dL_play_2 0 rfl ?_
  refine zi_iload_n (pc := 3) F dL_play_3 1 rfl ?_
  refine zi_iload_n (pc := 4) F dL_play_4 2 rfl ?_
  refine zi_callXI (pc := 5) (rest := [.int 0, .ref oa]) (ws' := (zWq G oa f (zWL G (L1) T (E1) V (M1) K))) F hsx hM (cwV 2 F.1.2.2.2.2 gL_play_X4_play rfl rfl rfl hd_X4_play ⟨Nat.le_of_ble_eq_true rfl, Nat.le_of_ble_eq_true rfl⟩) 0 rfl rfl _ _ (zWq_cut _ _ _ _) (zWq_cut _ _ _ _).symm rfl rfl (Nat.le_of_ble_eq_true rfl) dL_play_5 ⟨Nat.le_of_ble_eq_true rfl, Nat.le_of_ble_eq_true rfl⟩ (fun En hEn => ?_) (fun hN => ?_)
  · have hEn : x = some En := hEn
    rcases hx with h | h | h
    · rw [h] at hEn; exact absurd hEn (fun q9 => by cases q9)
    · subst h
      cases Option.some.inj hEn
      refine zi_catch (name := "java/lang/IndexOutOfBoundsException") F [] { startPc := 0, endPc := 10, handlerPc := 13, catchType := 13 } [{ startPc := 0, endPc := 10, handlerPc := 17, catchType := 15 }] htab (fun z hz => absurd hz List.not_mem_nil) (by decide) (by decide) (List.mem_of_getElem? (i := 1) rfl) (zcas hsx (by decide)) (fun q9 => ?_)
      show zW p l e rmL_play s m args below meth c 1 6 Q G.1 A 5 (zWq G oa f (zWL G (L1) T (E1) V (M1) K)) [(0, .ref (G.2.2 0 0)), (1, .int card), (2, .int target), (3, .ref oa)] 13 [.ref q9]
      refine zi_astore (pc := 13) (lv' := [(0, .ref (G.2.2 0 0)), (1, .int card), (2, .int target), (3, .ref oa), (4, .ref q9)]) F dL_play_13 (by decide) rfl ?_
      refine zi_iconst (pc := 15) (v := 1) F dL_play_15 rfl ?_
      exact hret _ _ _ _ (Nat.le_of_ble_eq_true rfl) (Nat.le_of_ble_eq_true rfl) dL_play_16
    · subst h
      cases Option.some.inj hEn
      refine zi_catch (name := "java/lang/IllegalStateException") F [{ startPc := 0, endPc := 10, handlerPc := 13, catchType := 13 }] { startPc := 0, endPc := 10, handlerPc := 17, catchType := 15 } [] htab (fun z hz => by rw [List.mem_singleton.mp hz]; exact Or.inr ⟨by decide, "java/lang/IndexOutOfBoundsException", F.1.2.2.2.2 _ (List.mem_of_getElem? (i := 1) rfl), znoc hsx (by decide)⟩) (by decide) (by decide) (List.mem_of_getElem? (i := 2) rfl) (zcas hsx (by decide)) (fun q9 => ?_)
      show zW p l e rmL_play s m args below meth c 1 6 Q G.1 A 5 (zWq G oa f (zWL G (L1) T (E1) V (M1) K)) [(0, .ref (G.2.2 0 0)), (1, .int card), (2, .int target), (3, .ref oa)] 17 [.ref q9]
      refine zi_astore (pc := 17) (lv' := [(0, .ref (G.2.2 0 0)), (1, .int card), (2, .int target), (3, .ref oa), (4, .ref q9)]) F dL_play_17 (by decide) rfl ?_
      refine zi_iconst (pc := 19) (v := 2) F dL_play_19 rfl ?_
      exact hret _ _ _ _ (Nat.le_of_ble_eq_true rfl) (Nat.le_of_ble_eq_true rfl) dL_play_20
  · have hN : x = none := hN
    subst hN
    refine zi_i2l (pc := 8) F dL_play_8 ?_
    refine zi_last (pc := 9) (ws' := (zWq G oa (vp_updL f (0 : Int32).toNatClampNeg r.toInt64) (zWL G (L1) T (E1) V (M1) K))) F 0 3 rfl rfl (zin (by decide) (by decide)) rfl dL_play_9 ?_
    refine zi_goto (pc := 10) (tgt := 21) F dL_play_10 (by decide) ?_
    refine zi_iconst (pc := 21) (v := 0) F dL_play_21 rfl ?_
    exact hret _ _ _ _ (Nat.le_of_ble_eq_true rfl) (Nat.le_of_ble_eq_true rfl) dL_play_22
/-! L_obstacle -/
abbrev rmL_obstacle : Room := { frames := 7, cells := 1, slots := 6, locals := 108 }
theorem hd_L_obstacle : yL_obstacle.cls ≠ "java/lang/invoke/MethodHandle" ∧ yL_obstacle.cls ≠ "java/lang/invoke/VarHandle" ∧ (parseMethodDescriptor yL_obstacle.desc).map (fun d => d.parameters.length) = some 4 := by decide +kernel
set_option maxHeartbeats 4000000 in
set_option maxRecDepth 100000 in
theorem c_L_obstacle (l : Launch) (hfl : l.stackTraces = false) (G : zG_t) (oa : Nat) (f : Nat → Int64) (card : Int32) (target : Int32) (L T E V M K : zS_t) (hIE : zIE E) : zYI l G.1 (zty G) yL_obstacle wsL_obstacle rmL_obstacle [.ref (G.2.2 0 0), .int card, .int target, .ref oa] (zWq G oa f (zWL G L T E V M K)) (zk1 ((mX4_obstacle card target L T E).1)) (zWq G oa (zot ((mX4_obstacle card target L T E).1) ((mX4_obstacle card target L T E).2) f) (zWL G L T E V M K)) := by
  have hM := c_X4_obstacle l hfl G card target L T E V M K hIE
  have hp := pp_X4_obstacle card target L T E hIE
  obtain ⟨X, hE⟩ : ∃ z, mX4_obstacle card target L T E = z := ⟨_, rfl⟩
  rw [hE] at hM hp ⊢
  have hx := hp
  obtain ⟨x, r⟩ := X
  have hx : x = none ∨ x = some "java/lang/IndexOutOfBoundsException" := hx
  refine zy_I (cc := cL_obstacle) (maxL := 5) (hh := [(0, 10, 13, 13)]) (by decide) rfl (Nat.le_of_ble_eq_true rfl) ?_
  intro p e s m args below meth c Q A F hsx htab hret
  show zW p l e rmL_obstacle s m args below meth c 0 0 Q G.1 A 5 (zWq G oa f (zWL G L T E V M K)) [(0, .ref (G.2.2 0 0)), (1, .int card), (2, .int target), (3, .ref oa)] 0 []
  refine zi_aload_n (pc := 0) F dL_obstacle_0 3 rfl ?_
  refine zi_iconst (pc := 1) (v := 0) F dL_obstacle_1 rfl ?_
  refine zi_aload_n (pc := 2) F dL_obstacle_2 0 rfl ?_
  refine zi_iload_n (pc := 3) F dL_obstacle_3 1 rfl ?_
  refine zi_iload_n (pc := 4) F dL_obstacle_4 2 rfl ?_
  refine zi_callXI (pc := 5) (rest := [.int 0, .ref oa]) (ws' := (zWq G oa f (zWL G L T E V M K))) F hsx hM (cwV 2 F.1.2.2.2.2 gL_obstacle_X4_obstacle rfl rfl rfl hd_X4_obstacle ⟨Nat.le_of_ble_eq_true rfl, Nat.le_of_ble_eq_true rfl⟩) 0 rfl rfl _ _ (zWq_cut _ _ _ _) (zWq_cut _ _ _ _).symm rfl rfl (Nat.le_of_ble_eq_true rfl) dL_obstacle_5 ⟨Nat.le_of_ble_eq_true rfl, Nat.le_of_ble_eq_true rfl⟩ (fun En hEn => ?_) (fun hN => ?_)
  · have hEn : x = some En := hEn
    rcases hx with h | h
    · rw [h] at hEn; exact absurd hEn (fun q9 => by cases q9)
    · subst h
      cases Option.some.inj hEn
      refine zi_catch (name := "java/lang/IndexOutOfBoundsException") F [] { startPc := 0, endPc := 10, handlerPc := 13, catchType := 13 } [] htab (fun z hz => absurd hz List.not_mem_nil) (by decide) (by decide) (List.mem_of_getElem? (i := 1) rfl) (zcas hsx (by decide)) (fun q9 => ?_)
      show zW p l e rmL_obstacle s m args below meth c 1 6 Q G.1 A 5 (zWq G oa f (zWL G L T E V M K)) [(0, .ref (G.2.2 0 0)), (1, .int card), (2, .int target), (3, .ref oa)] 13 [.ref q9]
      refine zi_astore (pc := 13) (lv' := [(0, .ref (G.2.2 0 0)), (1, .int card), (2, .int target), (3, .ref oa), (4, .ref q9)]) F dL_obstacle_13 (by decide) rfl ?_
      refine zi_iconst (pc := 15) (v := 1) F dL_obstacle_15 rfl ?_
      exact hret _ _ _ _ (Nat.le_of_ble_eq_true rfl) (Nat.le_of_ble_eq_true rfl) dL_obstacle_16
  · have hN : x = none := hN
    subst hN
    refine zi_i2l (pc := 8) F dL_obstacle_8 ?_
    refine zi_last (pc := 9) (ws' := (zWq G oa (vp_updL f (0 : Int32).toNatClampNeg r.toInt64) (zWL G L T E V M K))) F 0 3 rfl rfl (zin (by decide) (by decide)) rfl dL_obstacle_9 ?_
    refine zi_goto (pc := 10) (tgt := 17) F dL_obstacle_10 (by decide) ?_
    refine zi_iconst (pc := 17) (v := 0) F dL_obstacle_17 rfl ?_
    exact hret _ _ _ _ (Nat.le_of_ble_eq_true rfl) (Nat.le_of_ble_eq_true rfl) dL_obstacle_18
/-! L_settle -/
abbrev rmL_settle : Room := { frames := 7, cells := 1, slots := 6, locals := 164 }
theorem hd_L_settle : yL_settle.cls ≠ "java/lang/invoke/MethodHandle" ∧ yL_settle.cls ≠ "java/lang/invoke/VarHandle" ∧ (parseMethodDescriptor yL_settle.desc).map (fun d => d.parameters.length) = some 3 := by decide +kernel
set_option maxHeartbeats 4000000 in
set_option maxRecDepth 100000 in
theorem c_L_settle (l : Launch) (hfl : l.stackTraces = false) (G : zG_t) (oa : Nat) (f : Nat → Int64) (entries : Int32) (L T E V M K : zS_t) (hIT : zIT T) (hIE : zIE E) (hIM : zIM M) : zYI l G.1 (zty G) yL_settle wsL_settle rmL_settle [.ref (G.2.2 0 0), .int entries, .ref oa] (zWq G oa f (zWL G L T E V M K)) (zk1 ((mX4_settle entries L T E V M K).1)) (zWq G oa (zot ((mX4_settle entries L T E V M K).1) ((mX4_settle entries L T E V M K).2.1) f) (zWL G ((mX4_settle entries L T E V M K).2.2.1) ((mX4_settle entries L T E V M K).2.2.2.1) ((mX4_settle entries L T E V M K).2.2.2.2.1) ((mX4_settle entries L T E V M K).2.2.2.2.2.1) ((mX4_settle entries L T E V M K).2.2.2.2.2.2.1) ((mX4_settle entries L T E V M K).2.2.2.2.2.2.2))) := by
  have hM := c_X4_settle l hfl G entries L T E V M K hIT hIE hIM
  have hp := pp_X4_settle entries L T E V M K hIT hIE hIM
  obtain ⟨X, hE⟩ : ∃ z, mX4_settle entries L T E V M K = z := ⟨_, rfl⟩
  rw [hE] at hM hp ⊢
  obtain ⟨_, _, _, hx⟩ := hp
  obtain ⟨x, r, L1, T1, E1, V1, M1, K1⟩ := X
  have hx : x = none ∨ x = some "java/lang/IllegalArgumentException" := hx
  refine zy_I (cc := cL_settle) (maxL := 4) (hh := [(0, 9, 12, 24)]) (by decide) rfl (Nat.le_of_ble_eq_true rfl) ?_
  intro p e s m args below meth c Q A F hsx htab hret
  show zW p l e rmL_settle s m args below meth c 0 0 Q G.1 A 4 (zWq G oa f (zWL G L T E V M K)) [(0, .ref (G.2.2 0 0)), (1, .int entries), (2, .ref oa)] 0 []
  refine zi_aload_n (pc := 0) F dL_settle_0 2 rfl ?_
  refine zi_iconst (pc := 1) (v := 0) F dL_settle_1 rfl ?_
  refine zi_aload_n (pc := 2) F dL_settle_2 0 rfl ?_
  refine zi_iload_n (pc := 3) F dL_settle_3 1 rfl ?_
  refine zi_callXI (pc := 4) (rest := [.int 0, .ref oa]) (ws' := (zWq G oa f (zWL G (L1) (T1) (E1) (V1) (M1) (K1)))) F hsx hM (cwV 1 F.1.2.2.2.2 gL_settle_X4_settle rfl rfl rfl hd_X4_settle ⟨Nat.le_of_ble_eq_true rfl, Nat.le_of_ble_eq_true rfl⟩) 0 rfl rfl _ _ (zWq_cut _ _ _ _) (zWq_cut _ _ _ _).symm rfl rfl (Nat.le_of_ble_eq_true rfl) dL_settle_4 ⟨Nat.le_of_ble_eq_true rfl, Nat.le_of_ble_eq_true rfl⟩ (fun En hEn => ?_) (fun hN => ?_)
  · have hEn : x = some En := hEn
    rcases hx with h | h
    · rw [h] at hEn; exact absurd hEn (fun q9 => by cases q9)
    · subst h
      cases Option.some.inj hEn
      refine zi_catch (name := "java/lang/IllegalArgumentException") F [] { startPc := 0, endPc := 9, handlerPc := 12, catchType := 24 } [] htab (fun z hz => absurd hz List.not_mem_nil) (by decide) (by decide) (List.mem_of_getElem? (i := 1) rfl) (zcas hsx (by decide)) (fun q9 => ?_)
      show zW p l e rmL_settle s m args below meth c 1 6 Q G.1 A 4 (zWq G oa f (zWL G (L1) (T1) (E1) (V1) (M1) (K1))) [(0, .ref (G.2.2 0 0)), (1, .int entries), (2, .ref oa)] 12 [.ref q9]
      refine zi_astore_n (pc := 12) (lv' := [(0, .ref (G.2.2 0 0)), (1, .int entries), (2, .ref oa), (3, .ref q9)]) F dL_settle_12 (by decide) rfl ?_
      refine zi_iconst (pc := 13) (v := 1) F dL_settle_13 rfl ?_
      exact hret _ _ _ _ (Nat.le_of_ble_eq_true rfl) (Nat.le_of_ble_eq_true rfl) dL_settle_14
  · have hN : x = none := hN
    subst hN
    refine zi_i2l (pc := 7) F dL_settle_7 ?_
    refine zi_last (pc := 8) (ws' := (zWq G oa (vp_updL f (0 : Int32).toNatClampNeg r.toInt64) (zWL G (L1) (T1) (E1) (V1) (M1) (K1)))) F 0 3 rfl rfl (zin (by decide) (by decide)) rfl dL_settle_8 ?_
    refine zi_goto (pc := 9) (tgt := 15) F dL_settle_9 (by decide) ?_
    refine zi_iconst (pc := 15) (v := 0) F dL_settle_15 rfl ?_
    exact hret _ _ _ _ (Nat.le_of_ble_eq_true rfl) (Nat.le_of_ble_eq_true rfl) dL_settle_16
/-! L_coins -/
abbrev rmL_coins : Room := { frames := 7, cells := 1, slots := 6, locals := 103 }
theorem hd_L_coins : yL_coins.cls ≠ "java/lang/invoke/MethodHandle" ∧ yL_coins.cls ≠ "java/lang/invoke/VarHandle" ∧ (parseMethodDescriptor yL_coins.desc).map (fun d => d.parameters.length) = some 3 := by decide +kernel
set_option maxHeartbeats 4000000 in
set_option maxRecDepth 100000 in
theorem c_L_coins (l : Launch) (hfl : l.stackTraces = false) (G : zG_t) (oa : Nat) (f : Nat → Int64) (player : Int32) (L T E V M K : zS_t)  : zYI l G.1 (zty G) yL_coins wsL_coins rmL_coins [.ref (G.2.2 0 0), .int player, .ref oa] (zWq G oa f (zWL G L T E V M K)) (zk1 ((mX4_coins player L).1)) (zWq G oa (zot ((mX4_coins player L).1) ((mX4_coins player L).2) f) (zWL G L T E V M K)) := by
  have hM := c_X4_coins l hfl G player L T E V M K 
  have hp := pp_X4_coins player L 
  obtain ⟨X, hE⟩ : ∃ z, mX4_coins player L = z := ⟨_, rfl⟩
  rw [hE] at hM hp ⊢
  have hx := hp
  obtain ⟨x, r⟩ := X
  have hx : x = none ∨ x = some "java/lang/IndexOutOfBoundsException" := hx
  refine zy_I (cc := cL_coins) (maxL := 4) (hh := [(0, 9, 12, 13)]) (by decide) rfl (Nat.le_of_ble_eq_true rfl) ?_
  intro p e s m args below meth c Q A F hsx htab hret
  show zW p l e rmL_coins s m args below meth c 0 0 Q G.1 A 4 (zWq G oa f (zWL G L T E V M K)) [(0, .ref (G.2.2 0 0)), (1, .int player), (2, .ref oa)] 0 []
  refine zi_aload_n (pc := 0) F dL_coins_0 2 rfl ?_
  refine zi_iconst (pc := 1) (v := 0) F dL_coins_1 rfl ?_
  refine zi_aload_n (pc := 2) F dL_coins_2 0 rfl ?_
  refine zi_iload_n (pc := 3) F dL_coins_3 1 rfl ?_
  refine zi_callXI (pc := 4) (rest := [.int 0, .ref oa]) (ws' := (zWq G oa f (zWL G L T E V M K))) F hsx hM (cwV 1 F.1.2.2.2.2 gL_coins_X4_coins rfl rfl rfl hd_X4_coins ⟨Nat.le_of_ble_eq_true rfl, Nat.le_of_ble_eq_true rfl⟩) 0 rfl rfl _ _ (zWq_cut _ _ _ _) (zWq_cut _ _ _ _).symm rfl rfl (Nat.le_of_ble_eq_true rfl) dL_coins_4 ⟨Nat.le_of_ble_eq_true rfl, Nat.le_of_ble_eq_true rfl⟩ (fun En hEn => ?_) (fun hN => ?_)
  · have hEn : x = some En := hEn
    rcases hx with h | h
    · rw [h] at hEn; exact absurd hEn (fun q9 => by cases q9)
    · subst h
      cases Option.some.inj hEn
      refine zi_catch (name := "java/lang/IndexOutOfBoundsException") F [] { startPc := 0, endPc := 9, handlerPc := 12, catchType := 13 } [] htab (fun z hz => absurd hz List.not_mem_nil) (by decide) (by decide) (List.mem_of_getElem? (i := 1) rfl) (zcas hsx (by decide)) (fun q9 => ?_)
      show zW p l e rmL_coins s m args below meth c 1 6 Q G.1 A 4 (zWq G oa f (zWL G L T E V M K)) [(0, .ref (G.2.2 0 0)), (1, .int player), (2, .ref oa)] 12 [.ref q9]
      refine zi_astore_n (pc := 12) (lv' := [(0, .ref (G.2.2 0 0)), (1, .int player), (2, .ref oa), (3, .ref q9)]) F dL_coins_12 (by decide) rfl ?_
      refine zi_iconst (pc := 13) (v := 1) F dL_coins_13 rfl ?_
      exact hret _ _ _ _ (Nat.le_of_ble_eq_true rfl) (Nat.le_of_ble_eq_true rfl) dL_coins_14
  · have hN : x = none := hN
    subst hN
    refine zi_i2l (pc := 7) F dL_coins_7 ?_
    refine zi_last (pc := 8) (ws' := (zWq G oa (vp_updL f (0 : Int32).toNatClampNeg r.toInt64) (zWL G L T E V M K))) F 0 3 rfl rfl (zin (by decide) (by decide)) rfl dL_coins_8 ?_
    refine zi_goto (pc := 9) (tgt := 15) F dL_coins_9 (by decide) ?_
    refine zi_iconst (pc := 15) (v := 0) F dL_coins_15 rfl ?_
    exact hret _ _ _ _ (Nat.le_of_ble_eq_true rfl) (Nat.le_of_ble_eq_true rfl) dL_coins_16
/-! L_cardOf -/
abbrev rmL_cardOf : Room := { frames := 7, cells := 1, slots := 6, locals := 103 }
theorem hd_L_cardOf : yL_cardOf.cls ≠ "java/lang/invoke/MethodHandle" ∧ yL_cardOf.cls ≠ "java/lang/invoke/VarHandle" ∧ (parseMethodDescriptor yL_cardOf.desc).map (fun d => d.parameters.length) = some 3 := by decide +kernel
set_option maxHeartbeats 4000000 in
set_option maxRecDepth 100000 in
theorem c_L_cardOf (l : Launch) (hfl : l.stackTraces = false) (G : zG_t) (oa : Nat) (f : Nat → Int64) (place : Int32) (L T E V M K : zS_t) (hIT : zIT T) : zYI l G.1 (zty G) yL_cardOf wsL_cardOf rmL_cardOf [.ref (G.2.2 0 0), .int place, .ref oa] (zWq G oa f (zWL G L T E V M K)) (zk1 ((mX4_cardOf place T).1)) (zWq G oa (zot ((mX4_cardOf place T).1) ((mX4_cardOf place T).2) f) (zWL G L T E V M K)) := by
  have hM := c_X4_cardOf l hfl G place L T E V M K hIT
  have hp := pp_X4_cardOf place T hIT
  obtain ⟨X, hE⟩ : ∃ z, mX4_cardOf place T = z := ⟨_, rfl⟩
  rw [hE] at hM hp ⊢
  have hx := hp
  obtain ⟨x, r⟩ := X
  have hx : x = none ∨ x = some "java/lang/IndexOutOfBoundsException" := hx
  refine zy_I (cc := cL_cardOf) (maxL := 4) (hh := [(0, 9, 12, 13)]) (by decide) rfl (Nat.le_of_ble_eq_true rfl) ?_
  intro p e s m args below meth c Q A F hsx htab hret
  show zW p l e rmL_cardOf s m args below meth c 0 0 Q G.1 A 4 (zWq G oa f (zWL G L T E V M K)) [(0, .ref (G.2.2 0 0)), (1, .int place), (2, .ref oa)] 0 []
  refine zi_aload_n (pc := 0) F dL_cardOf_0 2 rfl ?_
  refine zi_iconst (pc := 1) (v := 0) F dL_cardOf_1 rfl ?_
  refine zi_aload_n (pc := 2) F dL_cardOf_2 0 rfl ?_
  refine zi_iload_n (pc := 3) F dL_cardOf_3 1 rfl ?_
  refine zi_callXI (pc := 4) (rest := [.int 0, .ref oa]) (ws' := (zWq G oa f (zWL G L T E V M K))) F hsx hM (cwV 1 F.1.2.2.2.2 gL_cardOf_X4_cardOf rfl rfl rfl hd_X4_cardOf ⟨Nat.le_of_ble_eq_true rfl, Nat.le_of_ble_eq_true rfl⟩) 0 rfl rfl _ _ (zWq_cut _ _ _ _) (zWq_cut _ _ _ _).symm rfl rfl (Nat.le_of_ble_eq_true rfl) dL_cardOf_4 ⟨Nat.le_of_ble_eq_true rfl, Nat.le_of_ble_eq_true rfl⟩ (fun En hEn => ?_) (fun hN => ?_)
  · have hEn : x = some En := hEn
    rcases hx with h | h
    · rw [h] at hEn; exact absurd hEn (fun q9 => by cases q9)
    · subst h
      cases Option.some.inj hEn
      refine zi_catch (name := "java/lang/IndexOutOfBoundsException") F [] { startPc := 0, endPc := 9, handlerPc := 12, catchType := 13 } [] htab (fun z hz => absurd hz List.not_mem_nil) (by decide) (by decide) (List.mem_of_getElem? (i := 1) rfl) (zcas hsx (by decide)) (fun q9 => ?_)
      show zW p l e rmL_cardOf s m args below meth c 1 6 Q G.1 A 4 (zWq G oa f (zWL G L T E V M K)) [(0, .ref (G.2.2 0 0)), (1, .int place), (2, .ref oa)] 12 [.ref q9]
      refine zi_astore_n (pc := 12) (lv' := [(0, .ref (G.2.2 0 0)), (1, .int place), (2, .ref oa), (3, .ref q9)]) F dL_cardOf_12 (by decide) rfl ?_
      refine zi_iconst (pc := 13) (v := 1) F dL_cardOf_13 rfl ?_
      exact hret _ _ _ _ (Nat.le_of_ble_eq_true rfl) (Nat.le_of_ble_eq_true rfl) dL_cardOf_14
  · have hN : x = none := hN
    subst hN
    refine zi_i2l (pc := 7) F dL_cardOf_7 ?_
    refine zi_last (pc := 8) (ws' := (zWq G oa (vp_updL f (0 : Int32).toNatClampNeg r.toInt64) (zWL G L T E V M K))) F 0 3 rfl rfl (zin (by decide) (by decide)) rfl dL_cardOf_8 ?_
    refine zi_goto (pc := 9) (tgt := 15) F dL_cardOf_9 (by decide) ?_
    refine zi_iconst (pc := 15) (v := 0) F dL_cardOf_15 rfl ?_
    exact hret _ _ _ _ (Nat.le_of_ble_eq_true rfl) (Nat.le_of_ble_eq_true rfl) dL_cardOf_16
/-! L_controllerOf -/
abbrev rmL_controllerOf : Room := { frames := 8, cells := 1, slots := 6, locals := 126 }
theorem hd_L_controllerOf : yL_controllerOf.cls ≠ "java/lang/invoke/MethodHandle" ∧ yL_controllerOf.cls ≠ "java/lang/invoke/VarHandle" ∧ (parseMethodDescriptor yL_controllerOf.desc).map (fun d => d.parameters.length) = some 4 := by decide +kernel
set_option maxHeartbeats 4000000 in
set_option maxRecDepth 100000 in
theorem c_L_controllerOf (l : Launch) (hfl : l.stackTraces = false) (G : zG_t) (oa : Nat) (f : Nat → Int64) (place : Int32) (layer : Int32) (L T E V M K : zS_t) (hIT : zIT T) : zYI l G.1 (zty G) yL_controllerOf wsL_controllerOf rmL_controllerOf [.ref (G.2.2 0 0), .int place, .int layer, .ref oa] (zWq G oa f (zWL G L T E V M K)) (zk2 ((mX4_controllerOf place layer T V).1)) (zWq G oa (zot ((mX4_controllerOf place layer T V).1) ((mX4_controllerOf place layer T V).2.1) f) (zWL G L T E ((mX4_controllerOf place layer T V).2.2) M K)) := by
  have hM := c_X4_controllerOf l hfl G place layer L T E V M K hIT
  have hp := pp_X4_controllerOf place layer T V hIT
  obtain ⟨X, hE⟩ : ∃ z, mX4_controllerOf place layer T V = z := ⟨_, rfl⟩
  rw [hE] at hM hp ⊢
  have hx := hp
  obtain ⟨x, r, V1⟩ := X
  have hx : x = none ∨ x = some "java/lang/IndexOutOfBoundsException" ∨ x = some "java/lang/IllegalArgumentException" := hx
  refine zy_I (cc := cL_controllerOf) (maxL := 5) (hh := [(0, 10, 13, 13), (0, 10, 17, 24)]) (by decide) rfl (Nat.le_of_ble_eq_true rfl) ?_
  intro p e s m args below meth c Q A F hsx htab hret
  show zW p l e rmL_controllerOf s m args below meth c 0 0 Q G.1 A 5 (zWq G oa f (zWL G L T E V M K)) [(0, .ref (G.2.2 0 0)), (1, .int place), (2, .int layer), (3, .ref oa)] 0 []
  refine zi_aload_n (pc := 0) F dL_controllerOf_0 3 rfl ?_
  refine zi_iconst (pc := 1) (v := 0) F dL_controllerOf_1 rfl ?_
  refine zi_aload_n (pc := 2) F dL_controllerOf_2 0 rfl ?_
  refine zi_iload_n (pc := 3) F dL_controllerOf_3 1 rfl ?_
  refine zi_iload_n (pc := 4) F dL_controllerOf_4 2 rfl ?_
  refine zi_callXI (pc := 5) (rest := [.int 0, .ref oa]) (ws' := (zWq G oa f (zWL G L T E (V1) M K))) F hsx hM (cwV 2 F.1.2.2.2.2 gL_controllerOf_X4_controllerOf rfl rfl rfl hd_X4_controllerOf ⟨Nat.le_of_ble_eq_true rfl, Nat.le_of_ble_eq_true rfl⟩) 0 rfl rfl _ _ (zWq_cut _ _ _ _) (zWq_cut _ _ _ _).symm rfl rfl (Nat.le_of_ble_eq_true rfl) dL_controllerOf_5 ⟨Nat.le_of_ble_eq_true rfl, Nat.le_of_ble_eq_true rfl⟩ (fun En hEn => ?_) (fun hN => ?_)
  · have hEn : x = some En := hEn
    rcases hx with h | h | h
    · rw [h] at hEn; exact absurd hEn (fun q9 => by cases q9)
    · subst h
      cases Option.some.inj hEn
      refine zi_catch (name := "java/lang/IndexOutOfBoundsException") F [] { startPc := 0, endPc := 10, handlerPc := 13, catchType := 13 } [{ startPc := 0, endPc := 10, handlerPc := 17, catchType := 24 }] htab (fun z hz => absurd hz List.not_mem_nil) (by decide) (by decide) (List.mem_of_getElem? (i := 1) rfl) (zcas hsx (by decide)) (fun q9 => ?_)
      show zW p l e rmL_controllerOf s m args below meth c 1 6 Q G.1 A 5 (zWq G oa f (zWL G L T E (V1) M K)) [(0, .ref (G.2.2 0 0)), (1, .int place), (2, .int layer), (3, .ref oa)] 13 [.ref q9]
      refine zi_astore (pc := 13) (lv' := [(0, .ref (G.2.2 0 0)), (1, .int place), (2, .int layer), (3, .ref oa), (4, .ref q9)]) F dL_controllerOf_13 (by decide) rfl ?_
      refine zi_iconst (pc := 15) (v := 1) F dL_controllerOf_15 rfl ?_
      exact hret _ _ _ _ (Nat.le_of_ble_eq_true rfl) (Nat.le_of_ble_eq_true rfl) dL_controllerOf_16
    · subst h
      cases Option.some.inj hEn
      refine zi_catch (name := "java/lang/IllegalArgumentException") F [{ startPc := 0, endPc := 10, handlerPc := 13, catchType := 13 }] { startPc := 0, endPc := 10, handlerPc := 17, catchType := 24 } [] htab (fun z hz => by rw [List.mem_singleton.mp hz]; exact Or.inr ⟨by decide, "java/lang/IndexOutOfBoundsException", F.1.2.2.2.2 _ (List.mem_of_getElem? (i := 1) rfl), znoc hsx (by decide)⟩) (by decide) (by decide) (List.mem_of_getElem? (i := 2) rfl) (zcas hsx (by decide)) (fun q9 => ?_)
      show zW p l e rmL_controllerOf s m args below meth c 1 6 Q G.1 A 5 (zWq G oa f (zWL G L T E (V1) M K)) [(0, .ref (G.2.2 0 0)), (1, .int place), (2, .int layer), (3, .ref oa)] 17 [.ref q9]
      refine zi_astore (pc := 17) (lv' := [(0, .ref (G.2.2 0 0)), (1, .int place), (2, .int layer), (3, .ref oa), (4, .ref q9)]) F dL_controllerOf_17 (by decide) rfl ?_
      refine zi_iconst (pc := 19) (v := 2) F dL_controllerOf_19 rfl ?_
      exact hret _ _ _ _ (Nat.le_of_ble_eq_true rfl) (Nat.le_of_ble_eq_true rfl) dL_controllerOf_20
  · have hN : x = none := hN
    subst hN
    refine zi_i2l (pc := 8) F dL_controllerOf_8 ?_
    refine zi_last (pc := 9) (ws' := (zWq G oa (vp_updL f (0 : Int32).toNatClampNeg r.toInt64) (zWL G L T E (V1) M K))) F 0 3 rfl rfl (zin (by decide) (by decide)) rfl dL_controllerOf_9 ?_
    refine zi_goto (pc := 10) (tgt := 21) F dL_controllerOf_10 (by decide) ?_
    refine zi_iconst (pc := 21) (v := 0) F dL_controllerOf_21 rfl ?_
    exact hret _ _ _ _ (Nat.le_of_ble_eq_true rfl) (Nat.le_of_ble_eq_true rfl) dL_controllerOf_22
/-! L_kindsOf -/
abbrev rmL_kindsOf : Room := { frames := 8, cells := 1, slots := 6, locals := 126 }
theorem hd_L_kindsOf : yL_kindsOf.cls ≠ "java/lang/invoke/MethodHandle" ∧ yL_kindsOf.cls ≠ "java/lang/invoke/VarHandle" ∧ (parseMethodDescriptor yL_kindsOf.desc).map (fun d => d.parameters.length) = some 4 := by decide +kernel
set_option maxHeartbeats 4000000 in
set_option maxRecDepth 100000 in
theorem c_L_kindsOf (l : Launch) (hfl : l.stackTraces = false) (G : zG_t) (oa : Nat) (f : Nat → Int64) (place : Int32) (layer : Int32) (L T E V M K : zS_t) (hIT : zIT T) : zYI l G.1 (zty G) yL_kindsOf wsL_kindsOf rmL_kindsOf [.ref (G.2.2 0 0), .int place, .int layer, .ref oa] (zWq G oa f (zWL G L T E V M K)) (zk2 ((mX4_kindsOf place layer T V).1)) (zWq G oa (zot ((mX4_kindsOf place layer T V).1) ((mX4_kindsOf place layer T V).2.1) f) (zWL G L T E ((mX4_kindsOf place layer T V).2.2) M K)) := by
  have hM := c_X4_kindsOf l hfl G place layer L T E V M K hIT
  have hp := pp_X4_kindsOf place layer T V hIT
  obtain ⟨X, hE⟩ : ∃ z, mX4_kindsOf place layer T V = z := ⟨_, rfl⟩
  rw [hE] at hM hp ⊢
  have hx := hp
  obtain ⟨x, r, V1⟩ := X
  have hx : x = none ∨ x = some "java/lang/IndexOutOfBoundsException" ∨ x = some "java/lang/IllegalArgumentException" := hx
  refine zy_I (cc := cL_kindsOf) (maxL := 5) (hh := [(0, 10, 13, 13), (0, 10, 17, 24)]) (by decide) rfl (Nat.le_of_ble_eq_true rfl) ?_
  intro p e s m args below meth c Q A F hsx htab hret
  show zW p l e rmL_kindsOf s m args below meth c 0 0 Q G.1 A 5 (zWq G oa f (zWL G L T E V M K)) [(0, .ref (G.2.2 0 0)), (1, .int place), (2, .int layer), (3, .ref oa)] 0 []
  refine zi_aload_n (pc := 0) F dL_kindsOf_0 3 rfl ?_
  refine zi_iconst (pc := 1) (v := 0) F dL_kindsOf_1 rfl ?_
  refine zi_aload_n (pc := 2) F dL_kindsOf_2 0 rfl ?_
  refine zi_iload_n (pc := 3) F dL_kindsOf_3 1 rfl ?_
  refine zi_iload_n (pc := 4) F dL_kindsOf_4 2 rfl ?_
  refine zi_callXI (pc := 5) (rest := [.int 0, .ref oa]) (ws' := (zWq G oa f (zWL G L T E (V1) M K))) F hsx hM (cwV 2 F.1.2.2.2.2 gL_kindsOf_X4_kindsOf rfl rfl rfl hd_X4_kindsOf ⟨Nat.le_of_ble_eq_true rfl, Nat.le_of_ble_eq_true rfl⟩) 0 rfl rfl _ _ (zWq_cut _ _ _ _) (zWq_cut _ _ _ _).symm rfl rfl (Nat.le_of_ble_eq_true rfl) dL_kindsOf_5 ⟨Nat.le_of_ble_eq_true rfl, Nat.le_of_ble_eq_true rfl⟩ (fun En hEn => ?_) (fun hN => ?_)
  · have hEn : x = some En := hEn
    rcases hx with h | h | h
    · rw [h] at hEn; exact absurd hEn (fun q9 => by cases q9)
    · subst h
      cases Option.some.inj hEn
      refine zi_catch (name := "java/lang/IndexOutOfBoundsException") F [] { startPc := 0, endPc := 10, handlerPc := 13, catchType := 13 } [{ startPc := 0, endPc := 10, handlerPc := 17, catchType := 24 }] htab (fun z hz => absurd hz List.not_mem_nil) (by decide) (by decide) (List.mem_of_getElem? (i := 1) rfl) (zcas hsx (by decide)) (fun q9 => ?_)
      show zW p l e rmL_kindsOf s m args below meth c 1 6 Q G.1 A 5 (zWq G oa f (zWL G L T E (V1) M K)) [(0, .ref (G.2.2 0 0)), (1, .int place), (2, .int layer), (3, .ref oa)] 13 [.ref q9]
      refine zi_astore (pc := 13) (lv' := [(0, .ref (G.2.2 0 0)), (1, .int place), (2, .int layer), (3, .ref oa), (4, .ref q9)]) F dL_kindsOf_13 (by decide) rfl ?_
      refine zi_iconst (pc := 15) (v := 1) F dL_kindsOf_15 rfl ?_
      exact hret _ _ _ _ (Nat.le_of_ble_eq_true rfl) (Nat.le_of_ble_eq_true rfl) dL_kindsOf_16
    · subst h
      cases Option.some.inj hEn
      refine zi_catch (name := "java/lang/IllegalArgumentException") F [{ startPc := 0, endPc := 10, handlerPc := 13, catchType := 13 }] { startPc := 0, endPc := 10, handlerPc := 17, catchType := 24 } [] htab (fun z hz => by rw [List.mem_singleton.mp hz]; exact Or.inr ⟨by decide, "java/lang/IndexOutOfBoundsException", F.1.2.2.2.2 _ (List.mem_of_getElem? (i := 1) rfl), znoc hsx (by decide)⟩) (by decide) (by decide) (List.mem_of_getElem? (i := 2) rfl) (zcas hsx (by decide)) (fun q9 => ?_)
      show zW p l e rmL_kindsOf s m args below meth c 1 6 Q G.1 A 5 (zWq G oa f (zWL G L T E (V1) M K)) [(0, .ref (G.2.2 0 0)), (1, .int place), (2, .int layer), (3, .ref oa)] 17 [.ref q9]
      refine zi_astore (pc := 17) (lv' := [(0, .ref (G.2.2 0 0)), (1, .int place), (2, .int layer), (3, .ref oa), (4, .ref q9)]) F dL_kindsOf_17 (by decide) rfl ?_
      refine zi_iconst (pc := 19) (v := 2) F dL_kindsOf_19 rfl ?_
      exact hret _ _ _ _ (Nat.le_of_ble_eq_true rfl) (Nat.le_of_ble_eq_true rfl) dL_kindsOf_20
  · have hN : x = none := hN
    subst hN
    refine zi_i2l (pc := 8) F dL_kindsOf_8 ?_
    refine zi_last (pc := 9) (ws' := (zWq G oa (vp_updL f (0 : Int32).toNatClampNeg r.toInt64) (zWL G L T E (V1) M K))) F 0 3 rfl rfl (zin (by decide) (by decide)) rfl dL_kindsOf_9 ?_
    refine zi_goto (pc := 10) (tgt := 21) F dL_kindsOf_10 (by decide) ?_
    refine zi_iconst (pc := 21) (v := 0) F dL_kindsOf_21 rfl ?_
    exact hret _ _ _ _ (Nat.le_of_ble_eq_true rfl) (Nat.le_of_ble_eq_true rfl) dL_kindsOf_22
/-! L_strengthOf -/
abbrev rmL_strengthOf : Room := { frames := 8, cells := 1, slots := 6, locals := 126 }
theorem hd_L_strengthOf : yL_strengthOf.cls ≠ "java/lang/invoke/MethodHandle" ∧ yL_strengthOf.cls ≠ "java/lang/invoke/VarHandle" ∧ (parseMethodDescriptor yL_strengthOf.desc).map (fun d => d.parameters.length) = some 4 := by decide +kernel
set_option maxHeartbeats 4000000 in
set_option maxRecDepth 100000 in
theorem c_L_strengthOf (l : Launch) (hfl : l.stackTraces = false) (G : zG_t) (oa : Nat) (f : Nat → Int64) (place : Int32) (layer : Int32) (L T E V M K : zS_t) (hIT : zIT T) : zYI l G.1 (zty G) yL_strengthOf wsL_strengthOf rmL_strengthOf [.ref (G.2.2 0 0), .int place, .int layer, .ref oa] (zWq G oa f (zWL G L T E V M K)) (zk2 ((mX4_strengthOf place layer T V).1)) (zWq G oa (zot ((mX4_strengthOf place layer T V).1) ((mX4_strengthOf place layer T V).2.1) f) (zWL G L T E ((mX4_strengthOf place layer T V).2.2) M K)) := by
  have hM := c_X4_strengthOf l hfl G place layer L T E V M K hIT
  have hp := pp_X4_strengthOf place layer T V hIT
  obtain ⟨X, hE⟩ : ∃ z, mX4_strengthOf place layer T V = z := ⟨_, rfl⟩
  rw [hE] at hM hp ⊢
  have hx := hp
  obtain ⟨x, r, V1⟩ := X
  have hx : x = none ∨ x = some "java/lang/IndexOutOfBoundsException" ∨ x = some "java/lang/IllegalArgumentException" := hx
  refine zy_I (cc := cL_strengthOf) (maxL := 5) (hh := [(0, 10, 13, 13), (0, 10, 17, 24)]) (by decide) rfl (Nat.le_of_ble_eq_true rfl) ?_
  intro p e s m args below meth c Q A F hsx htab hret
  show zW p l e rmL_strengthOf s m args below meth c 0 0 Q G.1 A 5 (zWq G oa f (zWL G L T E V M K)) [(0, .ref (G.2.2 0 0)), (1, .int place), (2, .int layer), (3, .ref oa)] 0 []
  refine zi_aload_n (pc := 0) F dL_strengthOf_0 3 rfl ?_
  refine zi_iconst (pc := 1) (v := 0) F dL_strengthOf_1 rfl ?_
  refine zi_aload_n (pc := 2) F dL_strengthOf_2 0 rfl ?_
  refine zi_iload_n (pc := 3) F dL_strengthOf_3 1 rfl ?_
  refine zi_iload_n (pc := 4) F dL_strengthOf_4 2 rfl ?_
  refine zi_callXI (pc := 5) (rest := [.int 0, .ref oa]) (ws' := (zWq G oa f (zWL G L T E (V1) M K))) F hsx hM (cwV 2 F.1.2.2.2.2 gL_strengthOf_X4_strengthOf rfl rfl rfl hd_X4_strengthOf ⟨Nat.le_of_ble_eq_true rfl, Nat.le_of_ble_eq_true rfl⟩) 0 rfl rfl _ _ (zWq_cut _ _ _ _) (zWq_cut _ _ _ _).symm rfl rfl (Nat.le_of_ble_eq_true rfl) dL_strengthOf_5 ⟨Nat.le_of_ble_eq_true rfl, Nat.le_of_ble_eq_true rfl⟩ (fun En hEn => ?_) (fun hN => ?_)
  · have hEn : x = some En := hEn
    rcases hx with h | h | h
    · rw [h] at hEn; exact absurd hEn (fun q9 => by cases q9)
    · subst h
      cases Option.some.inj hEn
      refine zi_catch (name := "java/lang/IndexOutOfBoundsException") F [] { startPc := 0, endPc := 10, handlerPc := 13, catchType := 13 } [{ startPc := 0, endPc := 10, handlerPc := 17, catchType := 24 }] htab (fun z hz => absurd hz List.not_mem_nil) (by decide) (by decide) (List.mem_of_getElem? (i := 1) rfl) (zcas hsx (by decide)) (fun q9 => ?_)
      show zW p l e rmL_strengthOf s m args below meth c 1 6 Q G.1 A 5 (zWq G oa f (zWL G L T E (V1) M K)) [(0, .ref (G.2.2 0 0)), (1, .int place), (2, .int layer), (3, .ref oa)] 13 [.ref q9]
      refine zi_astore (pc := 13) (lv' := [(0, .ref (G.2.2 0 0)), (1, .int place), (2, .int layer), (3, .ref oa), (4, .ref q9)]) F dL_strengthOf_13 (by decide) rfl ?_
      refine zi_iconst (pc := 15) (v := 1) F dL_strengthOf_15 rfl ?_
      exact hret _ _ _ _ (Nat.le_of_ble_eq_true rfl) (Nat.le_of_ble_eq_true rfl) dL_strengthOf_16
    · subst h
      cases Option.some.inj hEn
      refine zi_catch (name := "java/lang/IllegalArgumentException") F [{ startPc := 0, endPc := 10, handlerPc := 13, catchType := 13 }] { startPc := 0, endPc := 10, handlerPc := 17, catchType := 24 } [] htab (fun z hz => by rw [List.mem_singleton.mp hz]; exact Or.inr ⟨by decide, "java/lang/IndexOutOfBoundsException", F.1.2.2.2.2 _ (List.mem_of_getElem? (i := 1) rfl), znoc hsx (by decide)⟩) (by decide) (by decide) (List.mem_of_getElem? (i := 2) rfl) (zcas hsx (by decide)) (fun q9 => ?_)
      show zW p l e rmL_strengthOf s m args below meth c 1 6 Q G.1 A 5 (zWq G oa f (zWL G L T E (V1) M K)) [(0, .ref (G.2.2 0 0)), (1, .int place), (2, .int layer), (3, .ref oa)] 17 [.ref q9]
      refine zi_astore (pc := 17) (lv' := [(0, .ref (G.2.2 0 0)), (1, .int place), (2, .int layer), (3, .ref oa), (4, .ref q9)]) F dL_strengthOf_17 (by decide) rfl ?_
      refine zi_iconst (pc := 19) (v := 2) F dL_strengthOf_19 rfl ?_
      exact hret _ _ _ _ (Nat.le_of_ble_eq_true rfl) (Nat.le_of_ble_eq_true rfl) dL_strengthOf_20
  · have hN : x = none := hN
    subst hN
    refine zi_i2l (pc := 8) F dL_strengthOf_8 ?_
    refine zi_last (pc := 9) (ws' := (zWq G oa (vp_updL f (0 : Int32).toNatClampNeg r.toInt64) (zWL G L T E (V1) M K))) F 0 3 rfl rfl (zin (by decide) (by decide)) rfl dL_strengthOf_9 ?_
    refine zi_goto (pc := 10) (tgt := 21) F dL_strengthOf_10 (by decide) ?_
    refine zi_iconst (pc := 21) (v := 0) F dL_strengthOf_21 rfl ?_
    exact hret _ _ _ _ (Nat.le_of_ble_eq_true rfl) (Nat.le_of_ble_eq_true rfl) dL_strengthOf_22
/-! L_power -/
abbrev rmL_power : Room := { frames := 7, cells := 1, slots := 6, locals := 105 }
theorem hd_L_power : yL_power.cls ≠ "java/lang/invoke/MethodHandle" ∧ yL_power.cls ≠ "java/lang/invoke/VarHandle" ∧ (parseMethodDescriptor yL_power.desc).map (fun d => d.parameters.length) = some 3 := by decide +kernel
set_option maxHeartbeats 4000000 in
set_option maxRecDepth 100000 in
theorem c_L_power (l : Launch) (hfl : l.stackTraces = false) (G : zG_t) (oa : Nat) (f : Nat → Int64) (player : Int32) (L T E V M K : zS_t) (hIT : zIT T) : zYI l G.1 (zty G) yL_power wsL_power rmL_power [.ref (G.2.2 0 0), .int player, .ref oa] (zWq G oa f (zWL G L T E V M K)) (zk1 ((mX4_power player T V).1)) (zWq G oa (zot ((mX4_power player T V).1) ((mX4_power player T V).2.1) f) (zWL G L T E ((mX4_power player T V).2.2) M K)) := by
  have hM := c_X4_power l hfl G player L T E V M K hIT
  have hp := pp_X4_power player T V hIT
  obtain ⟨X, hE⟩ : ∃ z, mX4_power player T V = z := ⟨_, rfl⟩
  rw [hE] at hM hp ⊢
  have hx := hp
  obtain ⟨x, r, V1⟩ := X
  have hx : x = none ∨ x = some "java/lang/IndexOutOfBoundsException" := hx
  refine zy_I (cc := cL_power) (maxL := 4) (hh := [(0, 9, 12, 13)]) (by decide) rfl (Nat.le_of_ble_eq_true rfl) ?_
  intro p e s m args below meth c Q A F hsx htab hret
  show zW p l e rmL_power s m args below meth c 0 0 Q G.1 A 4 (zWq G oa f (zWL G L T E V M K)) [(0, .ref (G.2.2 0 0)), (1, .int player), (2, .ref oa)] 0 []
  refine zi_aload_n (pc := 0) F dL_power_0 2 rfl ?_
  refine zi_iconst (pc := 1) (v := 0) F dL_power_1 rfl ?_
  refine zi_aload_n (pc := 2) F dL_power_2 0 rfl ?_
  refine zi_iload_n (pc := 3) F dL_power_3 1 rfl ?_
  refine zi_callXI (pc := 4) (rest := [.int 0, .ref oa]) (ws' := (zWq G oa f (zWL G L T E (V1) M K))) F hsx hM (cwV 1 F.1.2.2.2.2 gL_power_X4_power rfl rfl rfl hd_X4_power ⟨Nat.le_of_ble_eq_true rfl, Nat.le_of_ble_eq_true rfl⟩) 0 rfl rfl _ _ (zWq_cut _ _ _ _) (zWq_cut _ _ _ _).symm rfl rfl (Nat.le_of_ble_eq_true rfl) dL_power_4 ⟨Nat.le_of_ble_eq_true rfl, Nat.le_of_ble_eq_true rfl⟩ (fun En hEn => ?_) (fun hN => ?_)
  · have hEn : x = some En := hEn
    rcases hx with h | h
    · rw [h] at hEn; exact absurd hEn (fun q9 => by cases q9)
    · subst h
      cases Option.some.inj hEn
      refine zi_catch (name := "java/lang/IndexOutOfBoundsException") F [] { startPc := 0, endPc := 9, handlerPc := 12, catchType := 13 } [] htab (fun z hz => absurd hz List.not_mem_nil) (by decide) (by decide) (List.mem_of_getElem? (i := 1) rfl) (zcas hsx (by decide)) (fun q9 => ?_)
      show zW p l e rmL_power s m args below meth c 1 6 Q G.1 A 4 (zWq G oa f (zWL G L T E (V1) M K)) [(0, .ref (G.2.2 0 0)), (1, .int player), (2, .ref oa)] 12 [.ref q9]
      refine zi_astore_n (pc := 12) (lv' := [(0, .ref (G.2.2 0 0)), (1, .int player), (2, .ref oa), (3, .ref q9)]) F dL_power_12 (by decide) rfl ?_
      refine zi_iconst (pc := 13) (v := 1) F dL_power_13 rfl ?_
      exact hret _ _ _ _ (Nat.le_of_ble_eq_true rfl) (Nat.le_of_ble_eq_true rfl) dL_power_14
  · have hN : x = none := hN
    subst hN
    refine zi_i2l (pc := 7) F dL_power_7 ?_
    refine zi_last (pc := 8) (ws' := (zWq G oa (vp_updL f (0 : Int32).toNatClampNeg r.toInt64) (zWL G L T E (V1) M K))) F 0 3 rfl rfl (zin (by decide) (by decide)) rfl dL_power_8 ?_
    refine zi_goto (pc := 9) (tgt := 15) F dL_power_9 (by decide) ?_
    refine zi_iconst (pc := 15) (v := 0) F dL_power_15 rfl ?_
    exact hret _ _ _ _ (Nat.le_of_ble_eq_true rfl) (Nat.le_of_ble_eq_true rfl) dL_power_16
/-! L_entryCard -/
abbrev rmL_entryCard : Room := { frames := 7, cells := 1, slots := 6, locals := 103 }
theorem hd_L_entryCard : yL_entryCard.cls ≠ "java/lang/invoke/MethodHandle" ∧ yL_entryCard.cls ≠ "java/lang/invoke/VarHandle" ∧ (parseMethodDescriptor yL_entryCard.desc).map (fun d => d.parameters.length) = some 3 := by decide +kernel
set_option maxHeartbeats 4000000 in
set_option maxRecDepth 100000 in
theorem c_L_entryCard (l : Launch) (hfl : l.stackTraces = false) (G : zG_t) (oa : Nat) (f : Nat → Int64) (place : Int32) (L T E V M K : zS_t) (hIE : zIE E) : zYI l G.1 (zty G) yL_entryCard wsL_entryCard rmL_entryCard [.ref (G.2.2 0 0), .int place, .ref oa] (zWq G oa f (zWL G L T E V M K)) (zk1 ((mX4_entryCard place E).1)) (zWq G oa (zot ((mX4_entryCard place E).1) ((mX4_entryCard place E).2) f) (zWL G L T E V M K)) := by
  have hM := c_X4_entryCard l hfl G place L T E V M K hIE
  have hp := pp_X4_entryCard place E hIE
  obtain ⟨X, hE⟩ : ∃ z, mX4_entryCard place E = z := ⟨_, rfl⟩
  rw [hE] at hM hp ⊢
  have hx := hp
  obtain ⟨x, r⟩ := X
  have hx : x = none ∨ x = some "java/lang/IndexOutOfBoundsException" := hx
  refine zy_I (cc := cL_entryCard) (maxL := 4) (hh := [(0, 9, 12, 13)]) (by decide) rfl (Nat.le_of_ble_eq_true rfl) ?_
  intro p e s m args below meth c Q A F hsx htab hret
  show zW p l e rmL_entryCard s m args below meth c 0 0 Q G.1 A 4 (zWq G oa f (zWL G L T E V M K)) [(0, .ref (G.2.2 0 0)), (1, .int place), (2, .ref oa)] 0 []
  refine zi_aload_n (pc := 0) F dL_entryCard_0 2 rfl ?_
  refine zi_iconst (pc := 1) (v := 0) F dL_entryCard_1 rfl ?_
  refine zi_aload_n (pc := 2) F dL_entryCard_2 0 rfl ?_
  refine zi_iload_n (pc := 3) F dL_entryCard_3 1 rfl ?_
  refine zi_callXI (pc := 4) (rest := [.int 0, .ref oa]) (ws' := (zWq G oa f (zWL G L T E V M K))) F hsx hM (cwV 1 F.1.2.2.2.2 gL_entryCard_X4_entryCard rfl rfl rfl hd_X4_entryCard ⟨Nat.le_of_ble_eq_true rfl, Nat.le_of_ble_eq_true rfl⟩) 0 rfl rfl _ _ (zWq_cut _ _ _ _) (zWq_cut _ _ _ _).symm rfl rfl (Nat.le_of_ble_eq_true rfl) dL_entryCard_4 ⟨Nat.le_of_ble_eq_true rfl, Nat.le_of_ble_eq_true rfl⟩ (fun En hEn => ?_) (fun hN => ?_)
  · have hEn : x = some En := hEn
    rcases hx with h | h
    · rw [h] at hEn; exact absurd hEn (fun q9 => by cases q9)
    · subst h
      cases Option.some.inj hEn
      refine zi_catch (name := "java/lang/IndexOutOfBoundsException") F [] { startPc := 0, endPc := 9, handlerPc := 12, catchType := 13 } [] htab (fun z hz => absurd hz List.not_mem_nil) (by decide) (by decide) (List.mem_of_getElem? (i := 1) rfl) (zcas hsx (by decide)) (fun q9 => ?_)
      show zW p l e rmL_entryCard s m args below meth c 1 6 Q G.1 A 4 (zWq G oa f (zWL G L T E V M K)) [(0, .ref (G.2.2 0 0)), (1, .int place), (2, .ref oa)] 12 [.ref q9]
      refine zi_astore_n (pc := 12) (lv' := [(0, .ref (G.2.2 0 0)), (1, .int place), (2, .ref oa), (3, .ref q9)]) F dL_entryCard_12 (by decide) rfl ?_
      refine zi_iconst (pc := 13) (v := 1) F dL_entryCard_13 rfl ?_
      exact hret _ _ _ _ (Nat.le_of_ble_eq_true rfl) (Nat.le_of_ble_eq_true rfl) dL_entryCard_14
  · have hN : x = none := hN
    subst hN
    refine zi_i2l (pc := 7) F dL_entryCard_7 ?_
    refine zi_last (pc := 8) (ws' := (zWq G oa (vp_updL f (0 : Int32).toNatClampNeg r.toInt64) (zWL G L T E V M K))) F 0 3 rfl rfl (zin (by decide) (by decide)) rfl dL_entryCard_8 ?_
    refine zi_goto (pc := 9) (tgt := 15) F dL_entryCard_9 (by decide) ?_
    refine zi_iconst (pc := 15) (v := 0) F dL_entryCard_15 rfl ?_
    exact hret _ _ _ _ (Nat.le_of_ble_eq_true rfl) (Nat.le_of_ble_eq_true rfl) dL_entryCard_16
/-! L_isTrigger -/
abbrev rmL_isTrigger : Room := { frames := 7, cells := 1, slots := 6, locals := 103 }
theorem hd_L_isTrigger : yL_isTrigger.cls ≠ "java/lang/invoke/MethodHandle" ∧ yL_isTrigger.cls ≠ "java/lang/invoke/VarHandle" ∧ (parseMethodDescriptor yL_isTrigger.desc).map (fun d => d.parameters.length) = some 3 := by decide +kernel
set_option maxHeartbeats 4000000 in
set_option maxRecDepth 100000 in
theorem c_L_isTrigger (l : Launch) (hfl : l.stackTraces = false) (G : zG_t) (oa : Nat) (f : Nat → Int64) (place : Int32) (L T E V M K : zS_t) (hIE : zIE E) : zYI l G.1 (zty G) yL_isTrigger wsL_isTrigger rmL_isTrigger [.ref (G.2.2 0 0), .int place, .ref oa] (zWq G oa f (zWL G L T E V M K)) (zk1 ((mX4_isTrigger place E).1)) (zWq G oa (zot ((mX4_isTrigger place E).1) ((mX4_isTrigger place E).2) f) (zWL G L T E V M K)) := by
  have hM := c_X4_isTrigger l hfl G place L T E V M K hIE
  have hp := pp_X4_isTrigger place E hIE
  obtain ⟨X, hE⟩ : ∃ z, mX4_isTrigger place E = z := ⟨_, rfl⟩
  rw [hE] at hM hp ⊢
  obtain ⟨hb, hx⟩ := hp
  obtain ⟨x, r⟩ := X
  have hx : x = none ∨ x = some "java/lang/IndexOutOfBoundsException" := hx
  have hb : r = 0 ∨ r = 1 := hb
  refine zy_I (cc := cL_isTrigger) (maxL := 4) (hh := [(0, 16, 19, 13)]) (by decide) rfl (Nat.le_of_ble_eq_true rfl) ?_
  intro p e s m args below meth c Q A F hsx htab hret
  show zW p l e rmL_isTrigger s m args below meth c 0 0 Q G.1 A 4 (zWq G oa f (zWL G L T E V M K)) [(0, .ref (G.2.2 0 0)), (1, .int place), (2, .ref oa)] 0 []
  refine zi_aload_n (pc := 0) F dL_isTrigger_0 2 rfl ?_
  refine zi_iconst (pc := 1) (v := 0) F dL_isTrigger_1 rfl ?_
  refine zi_aload_n (pc := 2) F dL_isTrigger_2 0 rfl ?_
  refine zi_iload_n (pc := 3) F dL_isTrigger_3 1 rfl ?_
  refine zi_callXI (pc := 4) (rest := [.int 0, .ref oa]) (ws' := (zWq G oa f (zWL G L T E V M K))) F hsx hM (cwV 1 F.1.2.2.2.2 gL_isTrigger_X4_isTrigger rfl rfl rfl hd_X4_isTrigger ⟨Nat.le_of_ble_eq_true rfl, Nat.le_of_ble_eq_true rfl⟩) 0 rfl rfl _ _ (zWq_cut _ _ _ _) (zWq_cut _ _ _ _).symm rfl rfl (Nat.le_of_ble_eq_true rfl) dL_isTrigger_4 ⟨Nat.le_of_ble_eq_true rfl, Nat.le_of_ble_eq_true rfl⟩ (fun En hEn => ?_) (fun hN => ?_)
  · have hEn : x = some En := hEn
    rcases hx with h | h
    · rw [h] at hEn; exact absurd hEn (fun q9 => by cases q9)
    · subst h
      cases Option.some.inj hEn
      refine zi_catch (name := "java/lang/IndexOutOfBoundsException") F [] { startPc := 0, endPc := 16, handlerPc := 19, catchType := 13 } [] htab (fun z hz => absurd hz List.not_mem_nil) (by decide) (by decide) (List.mem_of_getElem? (i := 1) rfl) (zcas hsx (by decide)) (fun q9 => ?_)
      show zW p l e rmL_isTrigger s m args below meth c 1 6 Q G.1 A 4 (zWq G oa f (zWL G L T E V M K)) [(0, .ref (G.2.2 0 0)), (1, .int place), (2, .ref oa)] 19 [.ref q9]
      refine zi_astore_n (pc := 19) (lv' := [(0, .ref (G.2.2 0 0)), (1, .int place), (2, .ref oa), (3, .ref q9)]) F dL_isTrigger_19 (by decide) rfl ?_
      refine zi_iconst (pc := 20) (v := 1) F dL_isTrigger_20 rfl ?_
      exact hret _ _ _ _ (Nat.le_of_ble_eq_true rfl) (Nat.le_of_ble_eq_true rfl) dL_isTrigger_21
  · have hN : x = none := hN
    subst hN
    refine zi_if_eq (pc := 7) (tgt := 14) F dL_isTrigger_7 (by decide) (fun h => ?_) (fun h => ?_)
    · subst h
      refine zi_lconst (pc := 14) (v := (0 : Int32).toInt64) F dL_isTrigger_14 rfl ?_
      skip
      refine zi_last (pc := 15) (ws' := (zWq G oa (vp_updL f (0 : Int32).toNatClampNeg (0 : Int32).toInt64) (zWL G L T E V M K))) F 0 3 rfl rfl (zin (by decide) (by decide)) rfl dL_isTrigger_15 ?_
      refine zi_goto (pc := 16) (tgt := 22) F dL_isTrigger_16 (by decide) ?_
      refine zi_iconst (pc := 22) (v := 0) F dL_isTrigger_22 rfl ?_
      exact hret _ _ _ _ (Nat.le_of_ble_eq_true rfl) (Nat.le_of_ble_eq_true rfl) dL_isTrigger_23
    · have h1 : r = 1 := hb.resolve_left h
      subst h1
      refine zi_lconst (pc := 10) (v := (1 : Int32).toInt64) F dL_isTrigger_10 rfl ?_
      refine zi_goto (pc := 11) (tgt := 15) F dL_isTrigger_11 (by decide) ?_
      refine zi_last (pc := 15) (ws' := (zWq G oa (vp_updL f (0 : Int32).toNatClampNeg (1 : Int32).toInt64) (zWL G L T E V M K))) F 0 3 rfl rfl (zin (by decide) (by decide)) rfl dL_isTrigger_15 ?_
      refine zi_goto (pc := 16) (tgt := 22) F dL_isTrigger_16 (by decide) ?_
      refine zi_iconst (pc := 22) (v := 0) F dL_isTrigger_22 rfl ?_
      exact hret _ _ _ _ (Nat.le_of_ble_eq_true rfl) (Nat.le_of_ble_eq_true rfl) dL_isTrigger_23
/-! L_entryPlayer -/
abbrev rmL_entryPlayer : Room := { frames := 7, cells := 1, slots := 6, locals := 103 }
theorem hd_L_entryPlayer : yL_entryPlayer.cls ≠ "java/lang/invoke/MethodHandle" ∧ yL_entryPlayer.cls ≠ "java/lang/invoke/VarHandle" ∧ (parseMethodDescriptor yL_entryPlayer.desc).map (fun d => d.parameters.length) = some 3 := by decide +kernel
set_option maxHeartbeats 4000000 in
set_option maxRecDepth 100000 in
theorem c_L_entryPlayer (l : Launch) (hfl : l.stackTraces = false) (G : zG_t) (oa : Nat) (f : Nat → Int64) (place : Int32) (L T E V M K : zS_t) (hIE : zIE E) : zYI l G.1 (zty G) yL_entryPlayer wsL_entryPlayer rmL_entryPlayer [.ref (G.2.2 0 0), .int place, .ref oa] (zWq G oa f (zWL G L T E V M K)) (zk1 ((mX4_entryPlayer place E).1)) (zWq G oa (zot ((mX4_entryPlayer place E).1) ((mX4_entryPlayer place E).2) f) (zWL G L T E V M K)) := by
  have hM := c_X4_entryPlayer l hfl G place L T E V M K hIE
  have hp := pp_X4_entryPlayer place E hIE
  obtain ⟨X, hE⟩ : ∃ z, mX4_entryPlayer place E = z := ⟨_, rfl⟩
  rw [hE] at hM hp ⊢
  have hx := hp
  obtain ⟨x, r⟩ := X
  have hx : x = none ∨ x = some "java/lang/IndexOutOfBoundsException" := hx
  refine zy_I (cc := cL_entryPlayer) (maxL := 4) (hh := [(0, 9, 12, 13)]) (by decide) rfl (Nat.le_of_ble_eq_true rfl) ?_
  intro p e s m args below meth c Q A F hsx htab hret
  show zW p l e rmL_entryPlayer s m args below meth c 0 0 Q G.1 A 4 (zWq G oa f (zWL G L T E V M K)) [(0, .ref (G.2.2 0 0)), (1, .int place), (2, .ref oa)] 0 []
  refine zi_aload_n (pc := 0) F dL_entryPlayer_0 2 rfl ?_
  refine zi_iconst (pc := 1) (v := 0) F dL_entryPlayer_1 rfl ?_
  refine zi_aload_n (pc := 2) F dL_entryPlayer_2 0 rfl ?_
  refine zi_iload_n (pc := 3) F dL_entryPlayer_3 1 rfl ?_
  refine zi_callXI (pc := 4) (rest := [.int 0, .ref oa]) (ws' := (zWq G oa f (zWL G L T E V M K))) F hsx hM (cwV 1 F.1.2.2.2.2 gL_entryPlayer_X4_entryPlayer rfl rfl rfl hd_X4_entryPlayer ⟨Nat.le_of_ble_eq_true rfl, Nat.le_of_ble_eq_true rfl⟩) 0 rfl rfl _ _ (zWq_cut _ _ _ _) (zWq_cut _ _ _ _).symm rfl rfl (Nat.le_of_ble_eq_true rfl) dL_entryPlayer_4 ⟨Nat.le_of_ble_eq_true rfl, Nat.le_of_ble_eq_true rfl⟩ (fun En hEn => ?_) (fun hN => ?_)
  · have hEn : x = some En := hEn
    rcases hx with h | h
    · rw [h] at hEn; exact absurd hEn (fun q9 => by cases q9)
    · subst h
      cases Option.some.inj hEn
      refine zi_catch (name := "java/lang/IndexOutOfBoundsException") F [] { startPc := 0, endPc := 9, handlerPc := 12, catchType := 13 } [] htab (fun z hz => absurd hz List.not_mem_nil) (by decide) (by decide) (List.mem_of_getElem? (i := 1) rfl) (zcas hsx (by decide)) (fun q9 => ?_)
      show zW p l e rmL_entryPlayer s m args below meth c 1 6 Q G.1 A 4 (zWq G oa f (zWL G L T E V M K)) [(0, .ref (G.2.2 0 0)), (1, .int place), (2, .ref oa)] 12 [.ref q9]
      refine zi_astore_n (pc := 12) (lv' := [(0, .ref (G.2.2 0 0)), (1, .int place), (2, .ref oa), (3, .ref q9)]) F dL_entryPlayer_12 (by decide) rfl ?_
      refine zi_iconst (pc := 13) (v := 1) F dL_entryPlayer_13 rfl ?_
      exact hret _ _ _ _ (Nat.le_of_ble_eq_true rfl) (Nat.le_of_ble_eq_true rfl) dL_entryPlayer_14
  · have hN : x = none := hN
    subst hN
    refine zi_i2l (pc := 7) F dL_entryPlayer_7 ?_
    refine zi_last (pc := 8) (ws' := (zWq G oa (vp_updL f (0 : Int32).toNatClampNeg r.toInt64) (zWL G L T E V M K))) F 0 3 rfl rfl (zin (by decide) (by decide)) rfl dL_entryPlayer_8 ?_
    refine zi_goto (pc := 9) (tgt := 15) F dL_entryPlayer_9 (by decide) ?_
    refine zi_iconst (pc := 15) (v := 0) F dL_entryPlayer_15 rfl ?_
    exact hret _ _ _ _ (Nat.le_of_ble_eq_true rfl) (Nat.le_of_ble_eq_true rfl) dL_entryPlayer_16
/-! L_entryTarget -/
abbrev rmL_entryTarget : Room := { frames := 7, cells := 1, slots := 6, locals := 103 }
theorem hd_L_entryTarget : yL_entryTarget.cls ≠ "java/lang/invoke/MethodHandle" ∧ yL_entryTarget.cls ≠ "java/lang/invoke/VarHandle" ∧ (parseMethodDescriptor yL_entryTarget.desc).map (fun d => d.parameters.length) = some 3 := by decide +kernel
set_option maxHeartbeats 4000000 in
set_option maxRecDepth 100000 in
theorem c_L_entryTarget (l : Launch) (hfl : l.stackTraces = false) (G : zG_t) (oa : Nat) (f : Nat → Int64) (place : Int32) (L T E V M K : zS_t) (hIT : zIT T) (hIE : zIE E) : zYI l G.1 (zty G) yL_entryTarget wsL_entryTarget rmL_entryTarget [.ref (G.2.2 0 0), .int place, .ref oa] (zWq G oa f (zWL G L T E V M K)) (zk1 ((mX4_entryTarget place T E).1)) (zWq G oa (zot ((mX4_entryTarget place T E).1) ((mX4_entryTarget place T E).2) f) (zWL G L T E V M K)) := by
  have hM := c_X4_entryTarget l hfl G place L T E V M K hIT hIE
  have hp := pp_X4_entryTarget place T E hIT hIE
  obtain ⟨X, hE⟩ : ∃ z, mX4_entryTarget place T E = z := ⟨_, rfl⟩
  rw [hE] at hM hp ⊢
  have hx := hp
  obtain ⟨x, r⟩ := X
  have hx : x = none ∨ x = some "java/lang/IndexOutOfBoundsException" := hx
  refine zy_I (cc := cL_entryTarget) (maxL := 4) (hh := [(0, 9, 12, 13)]) (by decide) rfl (Nat.le_of_ble_eq_true rfl) ?_
  intro p e s m args below meth c Q A F hsx htab hret
  show zW p l e rmL_entryTarget s m args below meth c 0 0 Q G.1 A 4 (zWq G oa f (zWL G L T E V M K)) [(0, .ref (G.2.2 0 0)), (1, .int place), (2, .ref oa)] 0 []
  refine zi_aload_n (pc := 0) F dL_entryTarget_0 2 rfl ?_
  refine zi_iconst (pc := 1) (v := 0) F dL_entryTarget_1 rfl ?_
  refine zi_aload_n (pc := 2) F dL_entryTarget_2 0 rfl ?_
  refine zi_iload_n (pc := 3) F dL_entryTarget_3 1 rfl ?_
  refine zi_callXI (pc := 4) (rest := [.int 0, .ref oa]) (ws' := (zWq G oa f (zWL G L T E V M K))) F hsx hM (cwV 1 F.1.2.2.2.2 gL_entryTarget_X4_entryTarget rfl rfl rfl hd_X4_entryTarget ⟨Nat.le_of_ble_eq_true rfl, Nat.le_of_ble_eq_true rfl⟩) 0 rfl rfl _ _ (zWq_cut _ _ _ _) (zWq_cut _ _ _ _).symm rfl rfl (Nat.le_of_ble_eq_true rfl) dL_entryTarget_4 ⟨Nat.le_of_ble_eq_true rfl, Nat.le_of_ble_eq_true rfl⟩ (fun En hEn => ?_) (fun hN => ?_)
  · have hEn : x = some En := hEn
    rcases hx with h | h
    · rw [h] at hEn; exact absurd hEn (fun q9 => by cases q9)
    · subst h
      cases Option.some.inj hEn
      refine zi_catch (name := "java/lang/IndexOutOfBoundsException") F [] { startPc := 0, endPc := 9, handlerPc := 12, catchType := 13 } [] htab (fun z hz => absurd hz List.not_mem_nil) (by decide) (by decide) (List.mem_of_getElem? (i := 1) rfl) (zcas hsx (by decide)) (fun q9 => ?_)
      show zW p l e rmL_entryTarget s m args below meth c 1 6 Q G.1 A 4 (zWq G oa f (zWL G L T E V M K)) [(0, .ref (G.2.2 0 0)), (1, .int place), (2, .ref oa)] 12 [.ref q9]
      refine zi_astore_n (pc := 12) (lv' := [(0, .ref (G.2.2 0 0)), (1, .int place), (2, .ref oa), (3, .ref q9)]) F dL_entryTarget_12 (by decide) rfl ?_
      refine zi_iconst (pc := 13) (v := 1) F dL_entryTarget_13 rfl ?_
      exact hret _ _ _ _ (Nat.le_of_ble_eq_true rfl) (Nat.le_of_ble_eq_true rfl) dL_entryTarget_14
  · have hN : x = none := hN
    subst hN
    refine zi_i2l (pc := 7) F dL_entryTarget_7 ?_
    refine zi_last (pc := 8) (ws' := (zWq G oa (vp_updL f (0 : Int32).toNatClampNeg r.toInt64) (zWL G L T E V M K))) F 0 3 rfl rfl (zin (by decide) (by decide)) rfl dL_entryTarget_8 ?_
    refine zi_goto (pc := 9) (tgt := 15) F dL_entryTarget_9 (by decide) ?_
    refine zi_iconst (pc := 15) (v := 0) F dL_entryTarget_15 rfl ?_
    exact hret _ _ _ _ (Nat.le_of_ble_eq_true rfl) (Nat.le_of_ble_eq_true rfl) dL_entryTarget_16
