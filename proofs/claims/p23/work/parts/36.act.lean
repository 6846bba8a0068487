/-! act: what a call answers that may refuse -/
abbrev rmL_act : Room := { frames := 8, cells := 1, slots := 6, locals := 164 }
theorem hd_L_act : yL_act.cls ≠ "java/lang/invoke/MethodHandle" ∧ yL_act.cls ≠ "java/lang/invoke/VarHandle" ∧ (parseMethodDescriptor yL_act.desc).map (fun d => d.parameters.length) = some 4 := by decide +kernel
def zac (x : Option String) (r : Int32) : Int32 := if x = none then r else if x = some "java/lang/IndexOutOfBoundsException" then -71 else if x = some "java/lang/IllegalArgumentException" then -72 else -73
theorem zac_n (r : Int32) : zac none r = r := if_pos rfl
theorem zac_0 (r : Int32) : zac (some "java/lang/IndexOutOfBoundsException") r = -71 := by unfold zac; rw [if_neg (by decide), if_pos rfl]
theorem zac_1 (r : Int32) : zac (some "java/lang/IllegalArgumentException") r = -72 := by unfold zac; rw [if_neg (by decide), if_neg (by decide), if_pos rfl]
theorem zac_2 (r : Int32) : zac (some "java/lang/IllegalStateException") r = -73 := by unfold zac; rw [if_neg (by decide), if_neg (by decide), if_neg (by decide)]
set_option maxHeartbeats 4000000 in
set_option maxRecDepth 100000 in
theorem c_L_act_0 (l : Launch) (hfl : l.stackTraces = false) (G : zG_t) (a b : Int32) (L T E V M K : zS_t) (hIT : zIT T) (hIE : zIE E) (hIM : zIM M) : zNI l G.1 (zty G) yL_act wsL_act rmL_act [.ref (G.2.2 0 0), .int 0, .int a, .int b] (zWL G L T E V M K) (zac ((mX4_play a b L T E M).1) ((mX4_play a b L T E M).2.1)) (zWL G ((mX4_play a b L T E M).2.2.1) T ((mX4_play a b L T E M).2.2.2.1) V ((mX4_play a b L T E M).2.2.2.2) K) := by
  have hM := c_X4_play l hfl G a b L T E V M K hIT hIE hIM
  have hp := pp_X4_play a b L T E M hIT hIE hIM
  obtain ⟨X, hE⟩ : ∃ z, mX4_play a b L T E M = z := ⟨_, rfl⟩
  rw [hE] at hM hp ⊢
  obtain ⟨_, _, hx⟩ := hp
  obtain ⟨x, r, L1, E1, M1⟩ := X
  have hx : x = none ∨ x = some "java/lang/IndexOutOfBoundsException" ∨ x = some "java/lang/IllegalStateException" := hx
  refine zn_H (cc := cL_act) (maxL := 5) (hh := [(0, 179, 180, 51), (0, 179, 185, 53), (0, 179, 190, 55)]) (by decide) rfl (Nat.le_of_ble_eq_true rfl) ?_
  intro p e s m args below meth c Q A F hsx hao htab hret
  show zW p l e rmL_act s m args below meth c 0 0 Q G.1 A 5 (zWL G L T E V M K) [(0, .ref (G.2.2 0 0)), (1, .int 0), (2, .int a), (3, .int b)] 0 []
  refine zi_iload_n (pc := 0) F dL_act_0 1 rfl ?_
  refine zi_if_ne (pc := 1) (tgt := 13) F dL_act_1 (by decide) (fun h => absurd h (by decide)) (fun _ => ?_)
  refine zi_aload_n (pc := 4) F dL_act_4 0 rfl ?_
  refine zi_iload_n (pc := 5) F dL_act_5 2 rfl ?_
  refine zi_iload_n (pc := 6) F dL_act_6 3 rfl ?_
  refine zi_callXI (pc := 7) (rest := []) (ws' := zWL G (L1) T (E1) V (M1) K) F hsx hM (cwV 2 F.1.2.2.2.2 gL_act_X4_play rfl rfl rfl hd_X4_play ⟨Nat.le_of_ble_eq_true rfl, Nat.le_of_ble_eq_true rfl⟩) 0 rfl rfl [] [] (zw_nil _) (zw_nil _).symm rfl rfl (Nat.le_of_ble_eq_true rfl) dL_act_7 ⟨Nat.le_of_ble_eq_true rfl, Nat.le_of_ble_eq_true rfl⟩ (fun En hEn => ?_) (fun hN => ?_)
  · have hEn : x = some En := hEn
    rcases hx with h | h | h
    · rw [h] at hEn; exact absurd hEn (fun q9 => by cases q9)
    · subst h
      cases Option.some.inj hEn
      refine zi_catch (name := "java/lang/IndexOutOfBoundsException") F [] { startPc := 0, endPc := 179, handlerPc := 180, catchType := 51 } [{ startPc := 0, endPc := 179, handlerPc := 185, catchType := 53 }, { startPc := 0, endPc := 179, handlerPc := 190, catchType := 55 }] htab (fun z hz => absurd hz List.not_mem_nil) (by decide) (by decide) (List.mem_of_getElem? (i := 1) rfl) (zcas hsx (by decide)) (fun q9 => ?_)
      show zW p l e rmL_act s m args below meth c 1 6 Q G.1 A 5 (zWL G (L1) T (E1) V (M1) K) [(0, .ref (G.2.2 0 0)), (1, .int 0), (2, .int a), (3, .int b)] 180 [.ref q9]
      refine zi_astore (pc := 180) (lv' := [(0, .ref (G.2.2 0 0)), (1, .int 0), (2, .int a), (3, .int b), (4, .ref q9)]) F dL_act_180 (by decide) rfl ?_
      refine zi_bipush (pc := 182) (v := (-71)) F dL_act_182 rfl ?_
      refine zi_toplit (zac_0 r).symm ?_
      exact hret _ _ _ _ (Nat.le_of_ble_eq_true rfl) (Nat.le_of_ble_eq_true rfl) dL_act_184
    · subst h
      cases Option.some.inj hEn
      refine zi_catch (name := "java/lang/IllegalStateException") F [{ startPc := 0, endPc := 179, handlerPc := 180, catchType := 51 }, { startPc := 0, endPc := 179, handlerPc := 185, catchType := 53 }] { startPc := 0, endPc := 179, handlerPc := 190, catchType := 55 } [] htab (fun z hz => by (rcases List.mem_cons.mp hz with h | h); (· rw [h]; exact Or.inr ⟨by decide, "java/lang/IndexOutOfBoundsException", F.1.2.2.2.2 _ (List.mem_of_getElem? (i := 1) rfl), znoc hsx (by decide)⟩); (· rw [List.mem_singleton.mp h]; exact Or.inr ⟨by decide, "java/lang/IllegalArgumentException", F.1.2.2.2.2 _ (List.mem_of_getElem? (i := 2) rfl), znoc hsx (by decide)⟩)) (by decide) (by decide) (List.mem_of_getElem? (i := 3) rfl) (zcas hsx (by decide)) (fun q9 => ?_)
      show zW p l e rmL_act s m args below meth c 1 6 Q G.1 A 5 (zWL G (L1) T (E1) V (M1) K) [(0, .ref (G.2.2 0 0)), (1, .int 0), (2, .int a), (3, .int b)] 190 [.ref q9]
      refine zi_astore (pc := 190) (lv' := [(0, .ref (G.2.2 0 0)), (1, .int 0), (2, .int a), (3, .int b), (4, .ref q9)]) F dL_act_190 (by decide) rfl ?_
      refine zi_bipush (pc := 192) (v := (-73)) F dL_act_192 rfl ?_
      refine zi_toplit (zac_2 r).symm ?_
      exact hret _ _ _ _ (Nat.le_of_ble_eq_true rfl) (Nat.le_of_ble_eq_true rfl) dL_act_194
  · have hN : x = none := hN
    subst hN
    refine zi_goto (pc := 10) (tgt := 179) F dL_act_10 (by decide) ?_
    refine zi_toplit (zac_n r).symm ?_
    exact hret _ _ _ _ (Nat.le_of_ble_eq_true rfl) (Nat.le_of_ble_eq_true rfl) dL_act_179
set_option maxHeartbeats 4000000 in
set_option maxRecDepth 100000 in
theorem c_L_act_1 (l : Launch) (hfl : l.stackTraces = false) (G : zG_t) (a b : Int32) (L T E V M K : zS_t) (hIE : zIE E) : zNI l G.1 (zty G) yL_act wsL_act rmL_act [.ref (G.2.2 0 0), .int 1, .int a, .int b] (zWL G L T E V M K) (zac ((mX4_obstacle a b L T E).1) ((mX4_obstacle a b L T E).2)) (zWL G L T E V M K) := by
  have hM := c_X4_obstacle l hfl G a b L T E V M K hIE
  have hp := pp_X4_obstacle a b L T E hIE
  obtain ⟨X, hE⟩ : ∃ z, mX4_obstacle a b L T E = z := ⟨_, rfl⟩
  rw [hE] at hM hp ⊢
  have hx := hp
  obtain ⟨x, r⟩ := X
  have hx : x = none ∨ x = some "java/lang/IndexOutOfBoundsException" := hx
  refine zn_H (cc := cL_act) (maxL := 5) (hh := [(0, 179, 180, 51), (0, 179, 185, 53), (0, 179, 190, 55)]) (by decide) rfl (Nat.le_of_ble_eq_true rfl) ?_
  intro p e s m args below meth c Q A F hsx hao htab hret
  show zW p l e rmL_act s m args below meth c 0 0 Q G.1 A 5 (zWL G L T E V M K) [(0, .ref (G.2.2 0 0)), (1, .int 1), (2, .int a), (3, .int b)] 0 []
  refine zi_iload_n (pc := 0) F dL_act_0 1 rfl ?_
  refine zi_if_ne (pc := 1) (tgt := 13) F dL_act_1 (by decide) (fun _ => ?_) (fun h => absurd h (by decide))
  refine zi_iload_n (pc := 13) F dL_act_13 1 rfl ?_
  refine zi_iconst (pc := 14) (v := 1) F dL_act_14 rfl ?_
  refine zi_icmp_ne (pc := 15) (tgt := 27) F dL_act_15 (by decide) (fun h => absurd h (by decide)) (fun _ => ?_)
  refine zi_aload_n (pc := 18) F dL_act_18 0 rfl ?_
  refine zi_iload_n (pc := 19) F dL_act_19 2 rfl ?_
  refine zi_iload_n (pc := 20) F dL_act_20 3 rfl ?_
  refine zi_callXI (pc := 21) (rest := []) (ws' := zWL G L T E V M K) F hsx hM (cwV 2 F.1.2.2.2.2 gL_act_X4_obstacle rfl rfl rfl hd_X4_obstacle ⟨Nat.le_of_ble_eq_true rfl, Nat.le_of_ble_eq_true rfl⟩) 0 rfl rfl [] [] (zw_nil _) (zw_nil _).symm rfl rfl (Nat.le_of_ble_eq_true rfl) dL_act_21 ⟨Nat.le_of_ble_eq_true rfl, Nat.le_of_ble_eq_true rfl⟩ (fun En hEn => ?_) (fun hN => ?_)
  · have hEn : x = some En := hEn
    rcases hx with h | h
    · rw [h] at hEn; exact absurd hEn (fun q9 => by cases q9)
    · subst h
      cases Option.some.inj hEn
      refine zi_catch (name := "java/lang/IndexOutOfBoundsException") F [] { startPc := 0, endPc := 179, handlerPc := 180, catchType := 51 } [{ startPc := 0, endPc := 179, handlerPc := 185, catchType := 53 }, { startPc := 0, endPc := 179, handlerPc := 190, catchType := 55 }] htab (fun z hz => absurd hz List.not_mem_nil) (by decide) (by decide) (List.mem_of_getElem? (i := 1) rfl) (zcas hsx (by decide)) (fun q9 => ?_)
      show zW p l e rmL_act s m args below meth c 1 6 Q G.1 A 5 (zWL G L T E V M K) [(0, .ref (G.2.2 0 0)), (1, .int 1), (2, .int a), (3, .int b)] 180 [.ref q9]
      refine zi_astore (pc := 180) (lv' := [(0, .ref (G.2.2 0 0)), (1, .int 1), (2, .int a), (3, .int b), (4, .ref q9)]) F dL_act_180 (by decide) rfl ?_
      refine zi_bipush (pc := 182) (v := (-71)) F dL_act_182 rfl ?_
      refine zi_toplit (zac_0 r).symm ?_
      exact hret _ _ _ _ (Nat.le_of_ble_eq_true rfl) (Nat.le_of_ble_eq_true rfl) dL_act_184
  · have hN : x = none := hN
    subst hN
    refine zi_goto (pc := 24) (tgt := 179) F dL_act_24 (by decide) ?_
    refine zi_toplit (zac_n r).symm ?_
    exact hret _ _ _ _ (Nat.le_of_ble_eq_true rfl) (Nat.le_of_ble_eq_true rfl) dL_act_179
set_option maxHeartbeats 4000000 in
set_option maxRecDepth 100000 in
theorem c_L_act_2 (l : Launch) (hfl : l.stackTraces = false) (G : zG_t) (a b : Int32) (L T E V M K : zS_t) (hIT : zIT T) (hIE : zIE E) (hIM : zIM M) : zNI l G.1 (zty G) yL_act wsL_act rmL_act [.ref (G.2.2 0 0), .int 2, .int a, .int b] (zWL G L T E V M K) (zac ((mX4_settle a L T E V M K).1) ((mX4_settle a L T E V M K).2.1)) (zWL G ((mX4_settle a L T E V M K).2.2.1) ((mX4_settle a L T E V M K).2.2.2.1) ((mX4_settle a L T E V M K).2.2.2.2.1) ((mX4_settle a L T E V M K).2.2.2.2.2.1) ((mX4_settle a L T E V M K).2.2.2.2.2.2.1) ((mX4_settle a L T E V M K).2.2.2.2.2.2.2)) := by
  have hM := c_X4_settle l hfl G a L T E V M K hIT hIE hIM
  have hp := pp_X4_settle a L T E V M K hIT hIE hIM
  obtain ⟨X, hE⟩ : ∃ z, mX4_settle a L T E V M K = z := ⟨_, rfl⟩
  rw [hE] at hM hp ⊢
  obtain ⟨_, _, _, hx⟩ := hp
  obtain ⟨x, r, L1, T1, E1, V1, M1, K1⟩ := X
  have hx : x = none ∨ x = some "java/lang/IllegalArgumentException" := hx
  refine zn_H (cc := cL_act) (maxL := 5) (hh := [(0, 179, 180, 51), (0, 179, 185, 53), (0, 179, 190, 55)]) (by decide) rfl (Nat.le_of_ble_eq_true rfl) ?_
  intro p e s m args below meth c Q A F hsx hao htab hret
  show zW p l e rmL_act s m args below meth c 0 0 Q G.1 A 5 (zWL G L T E V M K) [(0, .ref (G.2.2 0 0)), (1, .int 2), (2, .int a), (3, .int b)] 0 []
  refine zi_iload_n (pc := 0) F dL_act_0 1 rfl ?_
  refine zi_if_ne (pc := 1) (tgt := 13) F dL_act_1 (by decide) (fun _ => ?_) (fun h => absurd h (by decide))
  refine zi_iload_n (pc := 13) F dL_act_13 1 rfl ?_
  refine zi_iconst (pc := 14) (v := 1) F dL_act_14 rfl ?_
  refine zi_icmp_ne (pc := 15) (tgt := 27) F dL_act_15 (by decide) (fun _ => ?_) (fun h => absurd h (by decide))
  refine zi_iload_n (pc := 27) F dL_act_27 1 rfl ?_
  refine zi_iconst (pc := 28) (v := 2) F dL_act_28 rfl ?_
  refine zi_icmp_ne (pc := 29) (tgt := 40) F dL_act_29 (by decide) (fun h => absurd h (by decide)) (fun _ => ?_)
  refine zi_aload_n (pc := 32) F dL_act_32 0 rfl ?_
  refine zi_iload_n (pc := 33) F dL_act_33 2 rfl ?_
  refine zi_callXI (pc := 34) (rest := []) (ws' := zWL G (L1) (T1) (E1) (V1) (M1) (K1)) F hsx hM (cwV 1 F.1.2.2.2.2 gL_act_X4_settle rfl rfl rfl hd_X4_settle ⟨Nat.le_of_ble_eq_true rfl, Nat.le_of_ble_eq_true rfl⟩) 0 rfl rfl [] [] (zw_nil _) (zw_nil _).symm rfl rfl (Nat.le_of_ble_eq_true rfl) dL_act_34 ⟨Nat.le_of_ble_eq_true rfl, Nat.le_of_ble_eq_true rfl⟩ (fun En hEn => ?_) (fun hN => ?_)
  · have hEn : x = some En := hEn
    rcases hx with h | h
    · rw [h] at hEn; exact absurd hEn (fun q9 => by cases q9)
    · subst h
      cases Option.some.inj hEn
      refine zi_catch (name := "java/lang/IllegalArgumentException") F [{ startPc := 0, endPc := 179, handlerPc := 180, catchType := 51 }] { startPc := 0, endPc := 179, handlerPc := 185, catchType := 53 } [{ startPc := 0, endPc := 179, handlerPc := 190, catchType := 55 }] htab (fun z hz => by rw [List.mem_singleton.mp hz]; exact Or.inr ⟨by decide, "java/lang/IndexOutOfBoundsException", F.1.2.2.2.2 _ (List.mem_of_getElem? (i := 1) rfl), znoc hsx (by decide)⟩) (by decide) (by decide) (List.mem_of_getElem? (i := 2) rfl) (zcas hsx (by decide)) (fun q9 => ?_)
      show zW p l e rmL_act s m args below meth c 1 6 Q G.1 A 5 (zWL G (L1) (T1) (E1) (V1) (M1) (K1)) [(0, .ref (G.2.2 0 0)), (1, .int 2), (2, .int a), (3, .int b)] 185 [.ref q9]
      refine zi_astore (pc := 185) (lv' := [(0, .ref (G.2.2 0 0)), (1, .int 2), (2, .int a), (3, .int b), (4, .ref q9)]) F dL_act_185 (by decide) rfl ?_
      refine zi_bipush (pc := 187) (v := (-72)) F dL_act_187 rfl ?_
      refine zi_toplit (zac_1 r).symm ?_
      exact hret _ _ _ _ (Nat.le_of_ble_eq_true rfl) (Nat.le_of_ble_eq_true rfl) dL_act_189
  · have hN : x = none := hN
    subst hN
    refine zi_goto (pc := 37) (tgt := 179) F dL_act_37 (by decide) ?_
    refine zi_toplit (zac_n r).symm ?_
    exact hret _ _ _ _ (Nat.le_of_ble_eq_true rfl) (Nat.le_of_ble_eq_true rfl) dL_act_179
set_option maxHeartbeats 4000000 in
set_option maxRecDepth 100000 in
theorem c_L_act_3 (l : Launch) (hfl : l.stackTraces = false) (G : zG_t) (a b : Int32) (L T E V M K : zS_t)  : zNI l G.1 (zty G) yL_act wsL_act rmL_act [.ref (G.2.2 0 0), .int 3, .int a, .int b] (zWL G L T E V M K) (zac ((mX4_coins a L).1) ((mX4_coins a L).2)) (zWL G L T E V M K) := by
  have hM := c_X4_coins l hfl G a L T E V M K 
  have hp := pp_X4_coins a L 
  obtain ⟨X, hE⟩ : ∃ z, mX4_coins a L = z := ⟨_, rfl⟩
  rw [hE] at hM hp ⊢
  have hx := hp
  obtain ⟨x, r⟩ := X
  have hx : x = none ∨ x = some "java/lang/IndexOutOfBoundsException" := hx
  refine zn_H (cc := cL_act) (maxL := 5) (hh := [(0, 179, 180, 51), (0, 179, 185, 53), (0, 179, 190, 55)]) (by decide) rfl (Nat.le_of_ble_eq_true rfl) ?_
  intro p e s m args below meth c Q A F hsx hao htab hret
  show zW p l e rmL_act s m args below meth c 0 0 Q G.1 A 5 (zWL G L T E V M K) [(0, .ref (G.2.2 0 0)), (1, .int 3), (2, .int a), (3, .int b)] 0 []
  refine zi_iload_n (pc := 0) F dL_act_0 1 rfl ?_
  refine zi_if_ne (pc := 1) (tgt := 13) F dL_act_1 (by decide) (fun _ => ?_) (fun h => absurd h (by decide))
  refine zi_iload_n (pc := 13) F dL_act_13 1 rfl ?_
  refine zi_iconst (pc := 14) (v := 1) F dL_act_14 rfl ?_
  refine zi_icmp_ne (pc := 15) (tgt := 27) F dL_act_15 (by decide) (fun _ => ?_) (fun h => absurd h (by decide))
  refine zi_iload_n (pc := 27) F dL_act_27 1 rfl ?_
  refine zi_iconst (pc := 28) (v := 2) F dL_act_28 rfl ?_
  refine zi_icmp_ne (pc := 29) (tgt := 40) F dL_act_29 (by decide) (fun _ => ?_) (fun h => absurd h (by decide))
  refine zi_iload_n (pc := 40) F dL_act_40 1 rfl ?_
  refine zi_iconst (pc := 41) (v := 3) F dL_act_41 rfl ?_
  refine zi_icmp_ne (pc := 42) (tgt := 53) F dL_act_42 (by decide) (fun h => absurd h (by decide)) (fun _ => ?_)
  refine zi_aload_n (pc := 45) F dL_act_45 0 rfl ?_
  refine zi_iload_n (pc := 46) F dL_act_46 2 rfl ?_
  refine zi_callXI (pc := 47) (rest := []) (ws' := zWL G L T E V M K) F hsx hM (cwV 1 F.1.2.2.2.2 gL_act_X4_coins rfl rfl rfl hd_X4_coins ⟨Nat.le_of_ble_eq_true rfl, Nat.le_of_ble_eq_true rfl⟩) 0 rfl rfl [] [] (zw_nil _) (zw_nil _).symm rfl rfl (Nat.le_of_ble_eq_true rfl) dL_act_47 ⟨Nat.le_of_ble_eq_true rfl, Nat.le_of_ble_eq_true rfl⟩ (fun En hEn => ?_) (fun hN => ?_)
  · have hEn : x = some En := hEn
    rcases hx with h | h
    · rw [h] at hEn; exact absurd hEn (fun q9 => by cases q9)
    · subst h
      cases Option.some.inj hEn
      refine zi_catch (name := "java/lang/IndexOutOfBoundsException") F [] { startPc := 0, endPc := 179, handlerPc := 180, catchType := 51 } [{ startPc := 0, endPc := 179, handlerPc := 185, catchType := 53 }, { startPc := 0, endPc := 179, handlerPc := 190, catchType := 55 }] htab (fun z hz => absurd hz List.not_mem_nil) (by decide) (by decide) (List.mem_of_getElem? (i := 1) rfl) (zcas hsx (by decide)) (fun q9 => ?_)
      show zW p l e rmL_act s m args below meth c 1 6 Q G.1 A 5 (zWL G L T E V M K) [(0, .ref (G.2.2 0 0)), (1, .int 3), (2, .int a), (3, .int b)] 180 [.ref q9]
      refine zi_astore (pc := 180) (lv' := [(0, .ref (G.2.2 0 0)), (1, .int 3), (2, .int a), (3, .int b), (4, .ref q9)]) F dL_act_180 (by decide) rfl ?_
      refine zi_bipush (pc := 182) (v := (-71)) F dL_act_182 rfl ?_
      refine zi_toplit (zac_0 r).symm ?_
      exact hret _ _ _ _ (Nat.le_of_ble_eq_true rfl) (Nat.le_of_ble_eq_true rfl) dL_act_184
  · have hN : x = none := hN
    subst hN
    refine zi_goto (pc := 50) (tgt := 179) F dL_act_50 (by decide) ?_
    refine zi_toplit (zac_n r).symm ?_
    exact hret _ _ _ _ (Nat.le_of_ble_eq_true rfl) (Nat.le_of_ble_eq_true rfl) dL_act_179
set_option maxHeartbeats 4000000 in
set_option maxRecDepth 100000 in
theorem c_L_act_4 (l : Launch) (hfl : l.stackTraces = false) (G : zG_t) (a b : Int32) (L T E V M K : zS_t) (hIT : zIT T) : zNI l G.1 (zty G) yL_act wsL_act rmL_act [.ref (G.2.2 0 0), .int 4, .int a, .int b] (zWL G L T E V M K) (zac ((mX4_power a T V).1) ((mX4_power a T V).2.1)) (zWL G L T E ((mX4_power a T V).2.2) M K) := by
  have hM := c_X4_power l hfl G a L T E V M K hIT
  have hp := pp_X4_power a T V hIT
  obtain ⟨X, hE⟩ : ∃ z, mX4_power a T V = z := ⟨_, rfl⟩
  rw [hE] at hM hp ⊢
  have hx := hp
  obtain ⟨x, r, V1⟩ := X
  have hx : x = none ∨ x = some "java/lang/IndexOutOfBoundsException" := hx
  refine zn_H (cc := cL_act) (maxL := 5) (hh := [(0, 179, 180, 51), (0, 179, 185, 53), (0, 179, 190, 55)]) (by decide) rfl (Nat.le_of_ble_eq_true rfl) ?_
  intro p e s m args below meth c Q A F hsx hao htab hret
  show zW p l e rmL_act s m args below meth c 0 0 Q G.1 A 5 (zWL G L T E V M K) [(0, .ref (G.2.2 0 0)), (1, .int 4), (2, .int a), (3, .int b)] 0 []
  refine zi_iload_n (pc := 0) F dL_act_0 1 rfl ?_
  refine zi_if_ne (pc := 1) (tgt := 13) F dL_act_1 (by decide) (fun _ => ?_) (fun h => absurd h (by decide))
  refine zi_iload_n (pc := 13) F dL_act_13 1 rfl ?_
  refine zi_iconst (pc := 14) (v := 1) F dL_act_14 rfl ?_
  refine zi_icmp_ne (pc := 15) (tgt := 27) F dL_act_15 (by decide) (fun _ => ?_) (fun h => absurd h (by decide))
  refine zi_iload_n (pc := 27) F dL_act_27 1 rfl ?_
  refine zi_iconst (pc := 28) (v := 2) F dL_act_28 rfl ?_
  refine zi_icmp_ne (pc := 29) (tgt := 40) F dL_act_29 (by decide) (fun _ => ?_) (fun h => absurd h (by decide))
  refine zi_iload_n (pc := 40) F dL_act_40 1 rfl ?_
  refine zi_iconst (pc := 41) (v := 3) F dL_act_41 rfl ?_
  refine zi_icmp_ne (pc := 42) (tgt := 53) F dL_act_42 (by decide) (fun _ => ?_) (fun h => absurd h (by decide))
  refine zi_iload_n (pc := 53) F dL_act_53 1 rfl ?_
  refine zi_iconst (pc := 54) (v := 4) F dL_act_54 rfl ?_
  refine zi_icmp_ne (pc := 55) (tgt := 66) F dL_act_55 (by decide) (fun h => absurd h (by decide)) (fun _ => ?_)
  refine zi_aload_n (pc := 58) F dL_act_58 0 rfl ?_
  refine zi_iload_n (pc := 59) F dL_act_59 2 rfl ?_
  refine zi_callXI (pc := 60) (rest := []) (ws' := zWL G L T E (V1) M K) F hsx hM (cwV 1 F.1.2.2.2.2 gL_act_X4_power rfl rfl rfl hd_X4_power ⟨Nat.le_of_ble_eq_true rfl, Nat.le_of_ble_eq_true rfl⟩) 0 rfl rfl [] [] (zw_nil _) (zw_nil _).symm rfl rfl (Nat.le_of_ble_eq_true rfl) dL_act_60 ⟨Nat.le_of_ble_eq_true rfl, Nat.le_of_ble_eq_true rfl⟩ (fun En hEn => ?_) (fun hN => ?_)
  · have hEn : x = some En := hEn
    rcases hx with h | h
    · rw [h] at hEn; exact absurd hEn (fun q9 => by cases q9)
    · subst h
      cases Option.some.inj hEn
      refine zi_catch (name := "java/lang/IndexOutOfBoundsException") F [] { startPc := 0, endPc := 179, handlerPc := 180, catchType := 51 } [{ startPc := 0, endPc := 179, handlerPc := 185, catchType := 53 }, { startPc := 0, endPc := 179, handlerPc := 190, catchType := 55 }] htab (fun z hz => absurd hz List.not_mem_nil) (by decide) (by decide) (List.mem_of_getElem? (i := 1) rfl) (zcas hsx (by decide)) (fun q9 => ?_)
      show zW p l e rmL_act s m args below meth c 1 6 Q G.1 A 5 (zWL G L T E (V1) M K) [(0, .ref (G.2.2 0 0)), (1, .int 4), (2, .int a), (3, .int b)] 180 [.ref q9]
      refine zi_astore (pc := 180) (lv' := [(0, .ref (G.2.2 0 0)), (1, .int 4), (2, .int a), (3, .int b), (4, .ref q9)]) F dL_act_180 (by decide) rfl ?_
      refine zi_bipush (pc := 182) (v := (-71)) F dL_act_182 rfl ?_
      refine zi_toplit (zac_0 r).symm ?_
      exact hret _ _ _ _ (Nat.le_of_ble_eq_true rfl) (Nat.le_of_ble_eq_true rfl) dL_act_184
  · have hN : x = none := hN
    subst hN
    refine zi_goto (pc := 63) (tgt := 179) F dL_act_63 (by decide) ?_
    refine zi_toplit (zac_n r).symm ?_
    exact hret _ _ _ _ (Nat.le_of_ble_eq_true rfl) (Nat.le_of_ble_eq_true rfl) dL_act_179
set_option maxHeartbeats 4000000 in
set_option maxRecDepth 100000 in
theorem c_L_act_5 (l : Launch) (hfl : l.stackTraces = false) (G : zG_t) (a b : Int32) (L T E V M K : zS_t) (hIT : zIT T) : zNI l G.1 (zty G) yL_act wsL_act rmL_act [.ref (G.2.2 0 0), .int 5, .int a, .int b] (zWL G L T E V M K) (zac ((mX4_cardOf a T).1) ((mX4_cardOf a T).2)) (zWL G L T E V M K) := by
  have hM := c_X4_cardOf l hfl G a L T E V M K hIT
  have hp := pp_X4_cardOf a T hIT
  obtain ⟨X, hE⟩ : ∃ z, mX4_cardOf a T = z := ⟨_, rfl⟩
  rw [hE] at hM hp ⊢
  have hx := hp
  obtain ⟨x, r⟩ := X
  have hx : x = none ∨ x = some "java/lang/IndexOutOfBoundsException" := hx
  refine zn_H (cc := cL_act) (maxL := 5) (hh := [(0, 179, 180, 51), (0, 179, 185, 53), (0, 179, 190, 55)]) (by decide) rfl (Nat.le_of_ble_eq_true rfl) ?_
  intro p e s m args below meth c Q A F hsx hao htab hret
  show zW p l e rmL_act s m args below meth c 0 0 Q G.1 A 5 (zWL G L T E V M K) [(0, .ref (G.2.2 0 0)), (1, .int 5), (2, .int a), (3, .int b)] 0 []
  refine zi_iload_n (pc := 0) F dL_act_0 1 rfl ?_
  refine zi_if_ne (pc := 1) (tgt := 13) F dL_act_1 (by decide) (fun _ => ?_) (fun h => absurd h (by decide))
  refine zi_iload_n (pc := 13) F dL_act_13 1 rfl ?_
  refine zi_iconst (pc := 14) (v := 1) F dL_act_14 rfl ?_
  refine zi_icmp_ne (pc := 15) (tgt := 27) F dL_act_15 (by decide) (fun _ => ?_) (fun h => absurd h (by decide))
  refine zi_iload_n (pc := 27) F dL_act_27 1 rfl ?_
  refine zi_iconst (pc := 28) (v := 2) F dL_act_28 rfl ?_
  refine zi_icmp_ne (pc := 29) (tgt := 40) F dL_act_29 (by decide) (fun _ => ?_) (fun h => absurd h (by decide))
  refine zi_iload_n (pc := 40) F dL_act_40 1 rfl ?_
  refine zi_iconst (pc := 41) (v := 3) F dL_act_41 rfl ?_
  refine zi_icmp_ne (pc := 42) (tgt := 53) F dL_act_42 (by decide) (fun _ => ?_) (fun h => absurd h (by decide))
  refine zi_iload_n (pc := 53) F dL_act_53 1 rfl ?_
  refine zi_iconst (pc := 54) (v := 4) F dL_act_54 rfl ?_
  refine zi_icmp_ne (pc := 55) (tgt := 66) F dL_act_55 (by decide) (fun _ => ?_) (fun h => absurd h (by decide))
  refine zi_iload_n (pc := 66) F dL_act_66 1 rfl ?_
  refine zi_iconst (pc := 67) (v := 5) F dL_act_67 rfl ?_
  refine zi_icmp_ne (pc := 68) (tgt := 79) F dL_act_68 (by decide) (fun h => absurd h (by decide)) (fun _ => ?_)
  refine zi_aload_n (pc := 71) F dL_act_71 0 rfl ?_
  refine zi_iload_n (pc := 72) F dL_act_72 2 rfl ?_
  refine zi_callXI (pc := 73) (rest := []) (ws' := zWL G L T E V M K) F hsx hM (cwV 1 F.1.2.2.2.2 gL_act_X4_cardOf rfl rfl rfl hd_X4_cardOf ⟨Nat.le_of_ble_eq_true rfl, Nat.le_of_ble_eq_true rfl⟩) 0 rfl rfl [] [] (zw_nil _) (zw_nil _).symm rfl rfl (Nat.le_of_ble_eq_true rfl) dL_act_73 ⟨Nat.le_of_ble_eq_true rfl, Nat.le_of_ble_eq_true rfl⟩ (fun En hEn => ?_) (fun hN => ?_)
  · have hEn : x = some En := hEn
    rcases hx with h | h
    · rw [h] at hEn; exact absurd hEn (fun q9 => by cases q9)
    · subst h
      cases Option.some.inj hEn
      refine zi_catch (name := "java/lang/IndexOutOfBoundsException") F [] { startPc := 0, endPc := 179, handlerPc := 180, catchType := 51 } [{ startPc := 0, endPc := 179, handlerPc := 185, catchType := 53 }, { startPc := 0, endPc := 179, handlerPc := 190, catchType := 55 }] htab (fun z hz => absurd hz List.not_mem_nil) (by decide) (by decide) (List.mem_of_getElem? (i := 1) rfl) (zcas hsx (by decide)) (fun q9 => ?_)
      show zW p l e rmL_act s m args below meth c 1 6 Q G.1 A 5 (zWL G L T E V M K) [(0, .ref (G.2.2 0 0)), (1, .int 5), (2, .int a), (3, .int b)] 180 [.ref q9]
      refine zi_astore (pc := 180) (lv' := [(0, .ref (G.2.2 0 0)), (1, .int 5), (2, .int a), (3, .int b), (4, .ref q9)]) F dL_act_180 (by decide) rfl ?_
      refine zi_bipush (pc := 182) (v := (-71)) F dL_act_182 rfl ?_
      refine zi_toplit (zac_0 r).symm ?_
      exact hret _ _ _ _ (Nat.le_of_ble_eq_true rfl) (Nat.le_of_ble_eq_true rfl) dL_act_184
  · have hN : x = none := hN
    subst hN
    refine zi_goto (pc := 76) (tgt := 179) F dL_act_76 (by decide) ?_
    refine zi_toplit (zac_n r).symm ?_
    exact hret _ _ _ _ (Nat.le_of_ble_eq_true rfl) (Nat.le_of_ble_eq_true rfl) dL_act_179
set_option maxHeartbeats 4000000 in
set_option maxRecDepth 100000 in
theorem c_L_act_6 (l : Launch) (hfl : l.stackTraces = false) (G : zG_t) (a b : Int32) (L T E V M K : zS_t) (hIT : zIT T) : zNI l G.1 (zty G) yL_act wsL_act rmL_act [.ref (G.2.2 0 0), .int 6, .int a, .int b] (zWL G L T E V M K) (zac ((mX4_controllerOf a b T V).1) ((mX4_controllerOf a b T V).2.1)) (zWL G L T E ((mX4_controllerOf a b T V).2.2) M K) := by
  have hM := c_X4_controllerOf l hfl G a b L T E V M K hIT
  have hp := pp_X4_controllerOf a b T V hIT
  obtain ⟨X, hE⟩ : ∃ z, mX4_controllerOf a b T V = z := ⟨_, rfl⟩
  rw [hE] at hM hp ⊢
  have hx := hp
  obtain ⟨x, r, V1⟩ := X
  have hx : x = none ∨ x = some "java/lang/IndexOutOfBoundsException" ∨ x = some "java/lang/IllegalArgumentException" := hx
  refine zn_H (cc := cL_act) (maxL := 5) (hh := [(0, 179, 180, 51), (0, 179, 185, 53), (0, 179, 190, 55)]) (by decide) rfl (Nat.le_of_ble_eq_true rfl) ?_
  intro p e s m args below meth c Q A F hsx hao htab hret
  show zW p l e rmL_act s m args below meth c 0 0 Q G.1 A 5 (zWL G L T E V M K) [(0, .ref (G.2.2 0 0)), (1, .int 6), (2, .int a), (3, .int b)] 0 []
  refine zi_iload_n (pc := 0) F dL_act_0 1 rfl ?_
  refine zi_if_ne (pc := 1) (tgt := 13) F dL_act_1 (by decide) (fun _ => ?_) (fun h => absurd h (by decide))
  refine zi_iload_n (pc := 13) F dL_act_13 1 rfl ?_
  refine zi_iconst (pc := 14) (v := 1) F dL_act_14 rfl ?_
  refine zi_icmp_ne (pc := 15) (tgt := 27) F dL_act_15 (by decide) (fun _ => ?_) (fun h => absurd h (by decide))
  refine zi_iload_n (pc := 27) F dL_act_27 1 rfl ?_
  refine zi_iconst (pc := 28) (v := 2) F dL_act_28 rfl ?_
  refine zi_icmp_ne (pc := 29) (tgt := 40) F dL_act_29 (by decide) (fun _ => ?_) (fun h => absurd h (by decide))
  refine zi_iload_n (pc := 40) F dL_act_40 1 rfl ?_
  refine zi_iconst (pc := 41) (v := 3) F dL_act_41 rfl ?_
  refine zi_icmp_ne (pc := 42) (tgt := 53) F dL_act_42 (by decide) (fun _ => ?_) (fun h => absurd h (by decide))
  refine zi_iload_n (pc := 53) F dL_act_53 1 rfl ?_
  refine zi_iconst (pc := 54) (v := 4) F dL_act_54 rfl ?_
  refine zi_icmp_ne (pc := 55) (tgt := 66) F dL_act_55 (by decide) (fun _ => ?_) (fun h => absurd h (by decide))
  refine zi_iload_n (pc := 66) F dL_act_66 1 rfl ?_
  refine zi_iconst (pc := 67) (v := 5) F dL_act_67 rfl ?_
  refine zi_icmp_ne (pc := 68) (tgt := 79) F dL_act_68 (by decide) (fun _ => ?_) (fun h => absurd h (by decide))
  refine zi_iload_n (pc := 79) F dL_act_79 1 rfl ?_
  refine zi_bipush (pc := 80) (v := 6) F dL_act_80 rfl ?_
  refine zi_icmp_ne (pc := 82) (tgt := 94) F dL_act_82 (by decide) (fun h => absurd h (by decide)) (fun _ => ?_)
  refine zi_aload_n (pc := 85) F dL_act_85 0 rfl ?_
  refine zi_iload_n (pc := 86) F dL_act_86 2 rfl ?_
  refine zi_iload_n (pc := 87) F dL_act_87 3 rfl ?_
  refine zi_callXI (pc := 88) (rest := []) (ws' := zWL G L T E (V1) M K) F hsx hM (cwV 2 F.1.2.2.2.2 gL_act_X4_controllerOf rfl rfl rfl hd_X4_controllerOf ⟨Nat.le_of_ble_eq_true rfl, Nat.le_of_ble_eq_true rfl⟩) 0 rfl rfl [] [] (zw_nil _) (zw_nil _).symm rfl rfl (Nat.le_of_ble_eq_true rfl) dL_act_88 ⟨Nat.le_of_ble_eq_true rfl, Nat.le_of_ble_eq_true rfl⟩ (fun En hEn => ?_) (fun hN => ?_)
  · have hEn : x = some En := hEn
    rcases hx with h | h | h
    · rw [h] at hEn; exact absurd hEn (fun q9 => by cases q9)
    · subst h
      cases Option.some.inj hEn
      refine zi_catch (name := "java/lang/IndexOutOfBoundsException") F [] { startPc := 0, endPc := 179, handlerPc := 180, catchType := 51 } [{ startPc := 0, endPc := 179, handlerPc := 185, catchType := 53 }, { startPc := 0, endPc := 179, handlerPc := 190, catchType := 55 }] htab (fun z hz => absurd hz List.not_mem_nil) (by decide) (by decide) (List.mem_of_getElem? (i := 1) rfl) (zcas hsx (by decide)) (fun q9 => ?_)
      show zW p l e rmL_act s m args below meth c 1 6 Q G.1 A 5 (zWL G L T E (V1) M K) [(0, .ref (G.2.2 0 0)), (1, .int 6), (2, .int a), (3, .int b)] 180 [.ref q9]
      refine zi_astore (pc := 180) (lv' := [(0, .ref (G.2.2 0 0)), (1, .int 6), (2, .int a), (3, .int b), (4, .ref q9)]) F dL_act_180 (by decide) rfl ?_
      refine zi_bipush (pc := 182) (v := (-71)) F dL_act_182 rfl ?_
      refine zi_toplit (zac_0 r).symm ?_
      exact hret _ _ _ _ (Nat.le_of_ble_eq_true rfl) (Nat.le_of_ble_eq_true rfl) dL_act_184
    · subst h
      cases Option.some.inj hEn
      refine zi_catch (name := "java/lang/IllegalArgumentException") F [{ startPc := 0, endPc := 179, handlerPc := 180, catchType := 51 }] { startPc := 0, endPc := 179, handlerPc := 185, catchType := 53 } [{ startPc := 0, endPc := 179, handlerPc := 190, catchType := 55 }] htab (fun z hz => by rw [List.mem_singleton.mp hz]; exact Or.inr ⟨by decide, "java/lang/IndexOutOfBoundsException", F.1.2.2.2.2 _ (List.mem_of_getElem? (i := 1) rfl), znoc hsx (by decide)⟩) (by decide) (by decide) (List.mem_of_getElem? (i := 2) rfl) (zcas hsx (by decide)) (fun q9 => ?_)
      show zW p l e rmL_act s m args below meth c 1 6 Q G.1 A 5 (zWL G L T E (V1) M K) [(0, .ref (G.2.2 0 0)), (1, .int 6), (2, .int a), (3, .int b)] 185 [.ref q9]
      refine zi_astore (pc := 185) (lv' := [(0, .ref (G.2.2 0 0)), (1, .int 6), (2, .int a), (3, .int b), (4, .ref q9)]) F dL_act_185 (by decide) rfl ?_
      refine zi_bipush (pc := 187) (v := (-72)) F dL_act_187 rfl ?_
      refine zi_toplit (zac_1 r).symm ?_
      exact hret _ _ _ _ (Nat.le_of_ble_eq_true rfl) (Nat.le_of_ble_eq_true rfl) dL_act_189
  · have hN : x = none := hN
    subst hN
    refine zi_goto (pc := 91) (tgt := 179) F dL_act_91 (by decide) ?_
    refine zi_toplit (zac_n r).symm ?_
    exact hret _ _ _ _ (Nat.le_of_ble_eq_true rfl) (Nat.le_of_ble_eq_true rfl) dL_act_179
set_option maxHeartbeats 4000000 in
set_option maxRecDepth 100000 in
theorem c_L_act_7 (l : Launch) (hfl : l.stackTraces = false) (G : zG_t) (a b : Int32) (L T E V M K : zS_t) (hIT : zIT T) : zNI l G.1 (zty G) yL_act wsL_act rmL_act [.ref (G.2.2 0 0), .int 7, .int a, .int b] (zWL G L T E V M K) (zac ((mX4_kindsOf a b T V).1) ((mX4_kindsOf a b T V).2.1)) (zWL G L T E ((mX4_kindsOf a b T V).2.2) M K) := by
  have hM := c_X4_kindsOf l hfl G a b L T E V M K hIT
  have hp := pp_X4_kindsOf a b T V hIT
  obtain ⟨X, hE⟩ : ∃ z, mX4_kindsOf a b T V = z := ⟨_, rfl⟩
  rw [hE] at hM hp ⊢
  have hx := hp
  obtain ⟨x, r, V1⟩ := X
  have hx : x = none ∨ x = some "java/lang/IndexOutOfBoundsException" ∨ x = some "java/lang/IllegalArgumentException" := hx
  refine zn_H (cc := cL_act) (maxL := 5) (hh := [(0, 179, 180, 51), (0, 179, 185, 53), (0, 179, 190, 55)]) (by decide) rfl (Nat.le_of_ble_eq_true rfl) ?_
  intro p e s m args below meth c Q A F hsx hao htab hret
  show zW p l e rmL_act s m args below meth c 0 0 Q G.1 A 5 (zWL G L T E V M K) [(0, .ref (G.2.2 0 0)), (1, .int 7), (2, .int a), (3, .int b)] 0 []
  refine zi_iload_n (pc := 0) F dL_act_0 1 rfl ?_
  refine zi_if_ne (pc := 1) (tgt := 13) F dL_act_1 (by decide) (fun _ => ?_) (fun h => absurd h (by decide))
  refine zi_iload_n (pc := 13) F dL_act_13 1 rfl ?_
  refine zi_iconst (pc := 14) (v := 1) F dL_act_14 rfl ?_
  refine zi_icmp_ne (pc := 15) (tgt := 27) F dL_act_15 (by decide) (fun _ => ?_) (fun h => absurd h (by decide))
  refine zi_iload_n (pc := 27) F dL_act_27 1 rfl ?_
  refine zi_iconst (pc := 28) (v := 2) F dL_act_28 rfl ?_
  refine zi_icmp_ne (pc := 29) (tgt := 40) F dL_act_29 (by decide) (fun _ => ?_) (fun h => absurd h (by decide))
  refine zi_iload_n (pc := 40) F dL_act_40 1 rfl ?_
  refine zi_iconst (pc := 41) (v := 3) F dL_act_41 rfl ?_
  refine zi_icmp_ne (pc := 42) (tgt := 53) F dL_act_42 (by decide) (fun _ => ?_) (fun h => absurd h (by decide))
  refine zi_iload_n (pc := 53) F dL_act_53 1 rfl ?_
  refine zi_iconst (pc := 54) (v := 4) F dL_act_54 rfl ?_
  refine zi_icmp_ne (pc := 55) (tgt := 66) F dL_act_55 (by decide) (fun _ => ?_) (fun h => absurd h (by decide))
  refine zi_iload_n (pc := 66) F dL_act_66 1 rfl ?_
  refine zi_iconst (pc := 67) (v := 5) F dL_act_67 rfl ?_
  refine zi_icmp_ne (pc := 68) (tgt := 79) F dL_act_68 (by decide) (fun _ => ?_) (fun h => absurd h (by decide))
  refine zi_iload_n (pc := 79) F dL_act_79 1 rfl ?_
  refine zi_bipush (pc := 80) (v := 6) F dL_act_80 rfl ?_
  refine zi_icmp_ne (pc := 82) (tgt := 94) F dL_act_82 (by decide) (fun _ => ?_) (fun h => absurd h (by decide))
  refine zi_iload_n (pc := 94) F dL_act_94 1 rfl ?_
  refine zi_bipush (pc := 95) (v := 7) F dL_act_95 rfl ?_
  refine zi_icmp_ne (pc := 97) (tgt := 109) F dL_act_97 (by decide) (fun h => absurd h (by decide)) (fun _ => ?_)
  refine zi_aload_n (pc := 100) F dL_act_100 0 rfl ?_
  refine zi_iload_n (pc := 101) F dL_act_101 2 rfl ?_
  refine zi_iload_n (pc := 102) F dL_act_102 3 rfl ?_
  refine zi_callXI (pc := 103) (rest := []) (ws' := zWL G L T E (V1) M K) F hsx hM (cwV 2 F.1.2.2.2.2 gL_act_X4_kindsOf rfl rfl rfl hd_X4_kindsOf ⟨Nat.le_of_ble_eq_true rfl, Nat.le_of_ble_eq_true rfl⟩) 0 rfl rfl [] [] (zw_nil _) (zw_nil _).symm rfl rfl (Nat.le_of_ble_eq_true rfl) dL_act_103 ⟨Nat.le_of_ble_eq_true rfl, Nat.le_of_ble_eq_true rfl⟩ (fun En hEn => ?_) (fun hN => ?_)
  · have hEn : x = some En := hEn
    rcases hx with h | h | h
    · rw [h] at hEn; exact absurd hEn (fun q9 => by cases q9)
    · subst h
      cases Option.some.inj hEn
      refine zi_catch (name := "java/lang/IndexOutOfBoundsException") F [] { startPc := 0, endPc := 179, handlerPc := 180, catchType := 51 } [{ startPc := 0, endPc := 179, handlerPc := 185, catchType := 53 }, { startPc := 0, endPc := 179, handlerPc := 190, catchType := 55 }] htab (fun z hz => absurd hz List.not_mem_nil) (by decide) (by decide) (List.mem_of_getElem? (i := 1) rfl) (zcas hsx (by decide)) (fun q9 => ?_)
      show zW p l e rmL_act s m args below meth c 1 6 Q G.1 A 5 (zWL G L T E (V1) M K) [(0, .ref (G.2.2 0 0)), (1, .int 7), (2, .int a), (3, .int b)] 180 [.ref q9]
      refine zi_astore (pc := 180) (lv' := [(0, .ref (G.2.2 0 0)), (1, .int 7), (2, .int a), (3, .int b), (4, .ref q9)]) F dL_act_180 (by decide) rfl ?_
      refine zi_bipush (pc := 182) (v := (-71)) F dL_act_182 rfl ?_
      refine zi_toplit (zac_0 r).symm ?_
      exact hret _ _ _ _ (Nat.le_of_ble_eq_true rfl) (Nat.le_of_ble_eq_true rfl) dL_act_184
    · subst h
      cases Option.some.inj hEn
      refine zi_catch (name := "java/lang/IllegalArgumentException") F [{ startPc := 0, endPc := 179, handlerPc := 180, catchType := 51 }] { startPc := 0, endPc := 179, handlerPc := 185, catchType := 53 } [{ startPc := 0, endPc := 179, handlerPc := 190, catchType := 55 }] htab (fun z hz => by rw [List.mem_singleton.mp hz]; exact Or.inr ⟨by decide, "java/lang/IndexOutOfBoundsException", F.1.2.2.2.2 _ (List.mem_of_getElem? (i := 1) rfl), znoc hsx (by decide)⟩) (by decide) (by decide) (List.mem_of_getElem? (i := 2) rfl) (zcas hsx (by decide)) (fun q9 => ?_)
      show zW p l e rmL_act s m args below meth c 1 6 Q G.1 A 5 (zWL G L T E (V1) M K) [(0, .ref (G.2.2 0 0)), (1, .int 7), (2, .int a), (3, .int b)] 185 [.ref q9]
      refine zi_astore (pc := 185) (lv' := [(0, .ref (G.2.2 0 0)), (1, .int 7), (2, .int a), (3, .int b), (4, .ref q9)]) F dL_act_185 (by decide) rfl ?_
      refine zi_bipush (pc := 187) (v := (-72)) F dL_act_187 rfl ?_
      refine zi_toplit (zac_1 r).symm ?_
      exact hret _ _ _ _ (Nat.le_of_ble_eq_true rfl) (Nat.le_of_ble_eq_true rfl) dL_act_189
  · have hN : x = none := hN
    subst hN
    refine zi_goto (pc := 106) (tgt := 179) F dL_act_106 (by decide) ?_
    refine zi_toplit (zac_n r).symm ?_
    exact hret _ _ _ _ (Nat.le_of_ble_eq_true rfl) (Nat.le_of_ble_eq_true rfl) dL_act_179
set_option maxHeartbeats 4000000 in
set_option maxRecDepth 100000 in
theorem c_L_act_8 (l : Launch) (hfl : l.stackTraces = false) (G : zG_t) (a b : Int32) (L T E V M K : zS_t) (hIT : zIT T) : zNI l G.1 (zty G) yL_act wsL_act rmL_act [.ref (G.2.2 0 0), .int 8, .int a, .int b] (zWL G L T E V M K) (zac ((mX4_strengthOf a b T V).1) ((mX4_strengthOf a b T V).2.1)) (zWL G L T E ((mX4_strengthOf a b T V).2.2) M K) := by
  have hM := c_X4_strengthOf l hfl G a b L T E V M K hIT
  have hp := pp_X4_strengthOf a b T V hIT
  obtain ⟨X, hE⟩ : ∃ z, mX4_strengthOf a b T V = z := ⟨_, rfl⟩
  rw [hE] at hM hp ⊢
  have hx := hp
  obtain ⟨x, r, V1⟩ := X
  have hx : x = none ∨ x = some "java/lang/IndexOutOfBoundsException" ∨ x = some "java/lang/IllegalArgumentException" := hx
  refine zn_H (cc := cL_act) (maxL := 5) (hh := [(0, 179, 180, 51), (0, 179, 185, 53), (0, 179, 190, 55)]) (by decide) rfl (Nat.le_of_ble_eq_true rfl) ?_
  intro p e s m args below meth c Q A F hsx hao htab hret
  show zW p l e rmL_act s m args below meth c 0 0 Q G.1 A 5 (zWL G L T E V M K) [(0, .ref (G.2.2 0 0)), (1, .int 8), (2, .int a), (3, .int b)] 0 []
  refine zi_iload_n (pc := 0) F dL_act_0 1 rfl ?_
  refine zi_if_ne (pc := 1) (tgt := 13) F dL_act_1 (by decide) (fun _ => ?_) (fun h => absurd h (by decide))
  refine zi_iload_n (pc := 13) F dL_act_13 1 rfl ?_
  refine zi_iconst (pc := 14) (v := 1) F dL_act_14 rfl ?_
  refine zi_icmp_ne (pc := 15) (tgt := 27) F dL_act_15 (by decide) (fun _ => ?_) (fun h => absurd h (by decide))
  refine zi_iload_n (pc := 27) F dL_act_27 1 rfl ?_
  refine zi_iconst (pc := 28) (v := 2) F dL_act_28 rfl ?_
  refine zi_icmp_ne (pc := 29) (tgt := 40) F dL_act_29 (by decide) (fun _ => ?_) (fun h => absurd h (by decide))
  refine zi_iload_n (pc := 40) F dL_act_40 1 rfl ?_
  refine zi_iconst (pc := 41) (v := 3) F dL_act_41 rfl ?_
  refine zi_icmp_ne (pc := 42) (tgt := 53) F dL_act_42 (by decide) (fun _ => ?_) (fun h => absurd h (by decide))
  refine zi_iload_n (pc := 53) F dL_act_53 1 rfl ?_
  refine zi_iconst (pc := 54) (v := 4) F dL_act_54 rfl ?_
  refine zi_icmp_ne (pc := 55) (tgt := 66) F dL_act_55 (by decide) (fun _ => ?_) (fun h => absurd h (by decide))
  refine zi_iload_n (pc := 66) F dL_act_66 1 rfl ?_
  refine zi_iconst (pc := 67) (v := 5) F dL_act_67 rfl ?_
  refine zi_icmp_ne (pc := 68) (tgt := 79) F dL_act_68 (by decide) (fun _ => ?_) (fun h => absurd h (by decide))
  refine zi_iload_n (pc := 79) F dL_act_79 1 rfl ?_
  refine zi_bipush (pc := 80) (v := 6) F dL_act_80 rfl ?_
  refine zi_icmp_ne (pc := 82) (tgt := 94) F dL_act_82 (by decide) (fun _ => ?_) (fun h => absurd h (by decide))
  refine zi_iload_n (pc := 94) F dL_act_94 1 rfl ?_
  refine zi_bipush (pc := 95) (v := 7) F dL_act_95 rfl ?_
  refine zi_icmp_ne (pc := 97) (tgt := 109) F dL_act_97 (by decide) (fun _ => ?_) (fun h => absurd h (by decide))
  refine zi_iload_n (pc := 109) F dL_act_109 1 rfl ?_
  refine zi_bipush (pc := 110) (v := 8) F dL_act_110 rfl ?_
  refine zi_icmp_ne (pc := 112) (tgt := 124) F dL_act_112 (by decide) (fun h => absurd h (by decide)) (fun _ => ?_)
  refine zi_aload_n (pc := 115) F dL_act_115 0 rfl ?_
  refine zi_iload_n (pc := 116) F dL_act_116 2 rfl ?_
  refine zi_iload_n (pc := 117) F dL_act_117 3 rfl ?_
  refine zi_callXI (pc := 118) (rest := []) (ws' := zWL G L T E (V1) M K) F hsx hM (cwV 2 F.1.2.2.2.2 gL_act_X4_strengthOf rfl rfl rfl hd_X4_strengthOf ⟨Nat.le_of_ble_eq_true rfl, Nat.le_of_ble_eq_true rfl⟩) 0 rfl rfl [] [] (zw_nil _) (zw_nil _).symm rfl rfl (Nat.le_of_ble_eq_true rfl) dL_act_118 ⟨Nat.le_of_ble_eq_true rfl, Nat.le_of_ble_eq_true rfl⟩ (fun En hEn => ?_) (fun hN => ?_)
  · have hEn : x = some En := hEn
    rcases hx with h | h | h
    · rw [h] at hEn; exact absurd hEn (fun q9 => by cases q9)
    · subst h
      cases Option.some.inj hEn
      refine zi_catch (name := "java/lang/IndexOutOfBoundsException") F [] { startPc := 0, endPc := 179, handlerPc := 180, catchType := 51 } [{ startPc := 0, endPc := 179, handlerPc := 185, catchType := 53 }, { startPc := 0, endPc := 179, handlerPc := 190, catchType := 55 }] htab (fun z hz => absurd hz List.not_mem_nil) (by decide) (by decide) (List.mem_of_getElem? (i := 1) rfl) (zcas hsx (by decide)) (fun q9 => ?_)
      show zW p l e rmL_act s m args below meth c 1 6 Q G.1 A 5 (zWL G L T E (V1) M K) [(0, .ref (G.2.2 0 0)), (1, .int 8), (2, .int a), (3, .int b)] 180 [.ref q9]
      refine zi_astore (pc := 180) (lv' := [(0, .ref (G.2.2 0 0)), (1, .int 8), (2, .int a), (3, .int b), (4, .ref q9)]) F dL_act_180 (by decide) rfl ?_
      refine zi_bipush (pc := 182) (v := (-71)) F dL_act_182 rfl ?_
      refine zi_toplit (zac_0 r).symm ?_
      exact hret _ _ _ _ (Nat.le_of_ble_eq_true rfl) (Nat.le_of_ble_eq_true rfl) dL_act_184
    · subst h
      cases Option.some.inj hEn
      refine zi_catch (name := "java/lang/IllegalArgumentException") F [{ startPc := 0, endPc := 179, handlerPc := 180, catchType := 51 }] { startPc := 0, endPc := 179, handlerPc := 185, catchType := 53 } [{ startPc := 0, endPc := 179, handlerPc := 190, catchType := 55 }] htab (fun z hz => by rw [List.mem_singleton.mp hz]; exact Or.inr ⟨by decide, "java/lang/IndexOutOfBoundsException", F.1.2.2.2.2 _ (List.mem_of_getElem? (i := 1) rfl), znoc hsx (by decide)⟩) (by decide) (by decide) (List.mem_of_getElem? (i := 2) rfl) (zcas hsx (by decide)) (fun q9 => ?_)
      show zW p l e rmL_act s m args below meth c 1 6 Q G.1 A 5 (zWL G L T E (V1) M K) [(0, .ref (G.2.2 0 0)), (1, .int 8), (2, .int a), (3, .int b)] 185 [.ref q9]
      refine zi_astore (pc := 185) (lv' := [(0, .ref (G.2.2 0 0)), (1, .int 8), (2, .int a), (3, .int b), (4, .ref q9)]) F dL_act_185 (by decide) rfl ?_
      refine zi_bipush (pc := 187) (v := (-72)) F dL_act_187 rfl ?_
      refine zi_toplit (zac_1 r).symm ?_
      exact hret _ _ _ _ (Nat.le_of_ble_eq_true rfl) (Nat.le_of_ble_eq_true rfl) dL_act_189
  · have hN : x = none := hN
    subst hN
    refine zi_goto (pc := 121) (tgt := 179) F dL_act_121 (by decide) ?_
    refine zi_toplit (zac_n r).symm ?_
    exact hret _ _ _ _ (Nat.le_of_ble_eq_true rfl) (Nat.le_of_ble_eq_true rfl) dL_act_179
set_option maxHeartbeats 4000000 in
set_option maxRecDepth 100000 in
theorem c_L_act_9 (l : Launch) (hfl : l.stackTraces = false) (G : zG_t) (a b : Int32) (L T E V M K : zS_t) (hIE : zIE E) : zNI l G.1 (zty G) yL_act wsL_act rmL_act [.ref (G.2.2 0 0), .int 9, .int a, .int b] (zWL G L T E V M K) (zac ((mX4_entryCard a E).1) ((mX4_entryCard a E).2)) (zWL G L T E V M K) := by
  have hM := c_X4_entryCard l hfl G a L T E V M K hIE
  have hp := pp_X4_entryCard a E hIE
  obtain ⟨X, hE⟩ : ∃ z, mX4_entryCard a E = z := ⟨_, rfl⟩
  rw [hE] at hM hp ⊢
  have hx := hp
  obtain ⟨x, r⟩ := X
  have hx : x = none ∨ x = some "java/lang/IndexOutOfBoundsException" := hx
  refine zn_H (cc := cL_act) (maxL := 5) (hh := [(0, 179, 180, 51), (0, 179, 185, 53), (0, 179, 190, 55)]) (by decide) rfl (Nat.le_of_ble_eq_true rfl) ?_
  intro p e s m args below meth c Q A F hsx hao htab hret
  show zW p l e rmL_act s m args below meth c 0 0 Q G.1 A 5 (zWL G L T E V M K) [(0, .ref (G.2.2 0 0)), (1, .int 9), (2, .int a), (3, .int b)] 0 []
  refine zi_iload_n (pc := 0) F dL_act_0 1 rfl ?_
  refine zi_if_ne (pc := 1) (tgt := 13) F dL_act_1 (by decide) (fun _ => ?_) (fun h => absurd h (by decide))
  refine zi_iload_n (pc := 13) F dL_act_13 1 rfl ?_
  refine zi_iconst (pc := 14) (v := 1) F dL_act_14 rfl ?_
  refine zi_icmp_ne (pc := 15) (tgt := 27) F dL_act_15 (by decide) (fun _ => ?_) (fun h => absurd h (by decide))
  refine zi_iload_n (pc := 27) F dL_act_27 1 rfl ?_
  refine zi_iconst (pc := 28) (v := 2) F dL_act_28 rfl ?_
  refine zi_icmp_ne (pc := 29) (tgt := 40) F dL_act_29 (by decide) (fun _ => ?_) (fun h => absurd h (by decide))
  refine zi_iload_n (pc := 40) F dL_act_40 1 rfl ?_
  refine zi_iconst (pc := 41) (v := 3) F dL_act_41 rfl ?_
  refine zi_icmp_ne (pc := 42) (tgt := 53) F dL_act_42 (by decide) (fun _ => ?_) (fun h => absurd h (by decide))
  refine zi_iload_n (pc := 53) F dL_act_53 1 rfl ?_
  refine zi_iconst (pc := 54) (v := 4) F dL_act_54 rfl ?_
  refine zi_icmp_ne (pc := 55) (tgt := 66) F dL_act_55 (by decide) (fun _ => ?_) (fun h => absurd h (by decide))
  refine zi_iload_n (pc := 66) F dL_act_66 1 rfl ?_
  refine zi_iconst (pc := 67) (v := 5) F dL_act_67 rfl ?_
  refine zi_icmp_ne (pc := 68) (tgt := 79) F dL_act_68 (by decide) (fun _ => ?_) (fun h => absurd h (by decide))
  refine zi_iload_n (pc := 79) F dL_act_79 1 rfl ?_
  refine zi_bipush (pc := 80) (v := 6) F dL_act_80 rfl ?_
  refine zi_icmp_ne (pc := 82) (tgt := 94) F dL_act_82 (by decide) (fun _ => ?_) (fun h => absurd h (by decide))
  refine zi_iload_n (pc := 94) F dL_act_94 1 rfl ?_
  refine zi_bipush (pc := 95) (v := 7) F dL_act_95 rfl ?_
  refine zi_icmp_ne (pc := 97) (tgt := 109) F dL_act_97 (by decide) (fun _ => ?_) (fun h => absurd h (by decide))
  refine zi_iload_n (pc := 109) F dL_act_109 1 rfl ?_
  refine zi_bipush (pc := 110) (v := 8) F dL_act_110 rfl ?_
  refine zi_icmp_ne (pc := 112) (tgt := 124) F dL_act_112 (by decide) (fun _ => ?_) (fun h => absurd h (by decide))
  refine zi_iload_n (pc := 124) F dL_act_124 1 rfl ?_
  refine zi_bipush (pc := 125) (v := 9) F dL_act_125 rfl ?_
  refine zi_icmp_ne (pc := 127) (tgt := 138) F dL_act_127 (by decide) (fun h => absurd h (by decide)) (fun _ => ?_)
  refine zi_aload_n (pc := 130) F dL_act_130 0 rfl ?_
  refine zi_iload_n (pc := 131) F dL_act_131 2 rfl ?_
  refine zi_callXI (pc := 132) (rest := []) (ws' := zWL G L T E V M K) F hsx hM (cwV 1 F.1.2.2.2.2 gL_act_X4_entryCard rfl rfl rfl hd_X4_entryCard ⟨Nat.le_of_ble_eq_true rfl, Nat.le_of_ble_eq_true rfl⟩) 0 rfl rfl [] [] (zw_nil _) (zw_nil _).symm rfl rfl (Nat.le_of_ble_eq_true rfl) dL_act_132 ⟨Nat.le_of_ble_eq_true rfl, Nat.le_of_ble_eq_true rfl⟩ (fun En hEn => ?_) (fun hN => ?_)
  · have hEn : x = some En := hEn
    rcases hx with h | h
    · rw [h] at hEn; exact absurd hEn (fun q9 => by cases q9)
    · subst h
      cases Option.some.inj hEn
      refine zi_catch (name := "java/lang/IndexOutOfBoundsException") F [] { startPc := 0, endPc := 179, handlerPc := 180, catchType := 51 } [{ startPc := 0, endPc := 179, handlerPc := 185, catchType := 53 }, { startPc := 0, endPc := 179, handlerPc := 190, catchType := 55 }] htab (fun z hz => absurd hz List.not_mem_nil) (by decide) (by decide) (List.mem_of_getElem? (i := 1) rfl) (zcas hsx (by decide)) (fun q9 => ?_)
      show zW p l e rmL_act s m args below meth c 1 6 Q G.1 A 5 (zWL G L T E V M K) [(0, .ref (G.2.2 0 0)), (1, .int 9), (2, .int a), (3, .int b)] 180 [.ref q9]
      refine zi_astore (pc := 180) (lv' := [(0, .ref (G.2.2 0 0)), (1, .int 9), (2, .int a), (3, .int b), (4, .ref q9)]) F dL_act_180 (by decide) rfl ?_
      refine zi_bipush (pc := 182) (v := (-71)) F dL_act_182 rfl ?_
      refine zi_toplit (zac_0 r).symm ?_
      exact hret _ _ _ _ (Nat.le_of_ble_eq_true rfl) (Nat.le_of_ble_eq_true rfl) dL_act_184
  · have hN : x = none := hN
    subst hN
    refine zi_goto (pc := 135) (tgt := 179) F dL_act_135 (by decide) ?_
    refine zi_toplit (zac_n r).symm ?_
    exact hret _ _ _ _ (Nat.le_of_ble_eq_true rfl) (Nat.le_of_ble_eq_true rfl) dL_act_179
set_option maxHeartbeats 4000000 in
set_option maxRecDepth 100000 in
theorem c_L_act_10 (l : Launch) (hfl : l.stackTraces = false) (G : zG_t) (a b : Int32) (L T E V M K : zS_t) (hIE : zIE E) : zNI l G.1 (zty G) yL_act wsL_act rmL_act [.ref (G.2.2 0 0), .int 10, .int a, .int b] (zWL G L T E V M K) (zac ((mX4_isTrigger a E).1) ((mX4_isTrigger a E).2)) (zWL G L T E V M K) := by
  have hM := c_X4_isTrigger l hfl G a L T E V M K hIE
  have hp := pp_X4_isTrigger a E hIE
  obtain ⟨X, hE⟩ : ∃ z, mX4_isTrigger a E = z := ⟨_, rfl⟩
  rw [hE] at hM hp ⊢
  obtain ⟨hb, hx⟩ := hp
  obtain ⟨x, r⟩ := X
  have hx : x = none ∨ x = some "java/lang/IndexOutOfBoundsException" := hx
  have hb : r = 0 ∨ r = 1 := hb
  refine zn_H (cc := cL_act) (maxL := 5) (hh := [(0, 179, 180, 51), (0, 179, 185, 53), (0, 179, 190, 55)]) (by decide) rfl (Nat.le_of_ble_eq_true rfl) ?_
  intro p e s m args below meth c Q A F hsx hao htab hret
  show zW p l e rmL_act s m args below meth c 0 0 Q G.1 A 5 (zWL G L T E V M K) [(0, .ref (G.2.2 0 0)), (1, .int 10), (2, .int a), (3, .int b)] 0 []
  refine zi_iload_n (pc := 0) F dL_act_0 1 rfl ?_
  refine zi_if_ne (pc := 1) (tgt := 13) F dL_act_1 (by decide) (fun _ => ?_) (fun h => absurd h (by decide))
  refine zi_iload_n (pc := 13) F dL_act_13 1 rfl ?_
  refine zi_iconst (pc := 14) (v := 1) F dL_act_14 rfl ?_
  refine zi_icmp_ne (pc := 15) (tgt := 27) F dL_act_15 (by decide) (fun _ => ?_) (fun h => absurd h (by decide))
  refine zi_iload_n (pc := 27) F dL_act_27 1 rfl ?_
  refine zi_iconst (pc := 28) (v := 2) F dL_act_28 rfl ?_
  refine zi_icmp_ne (pc := 29) (tgt := 40) F dL_act_29 (by decide) (fun _ => ?_) (fun h => absurd h (by decide))
  refine zi_iload_n (pc := 40) F dL_act_40 1 rfl ?_
  refine zi_iconst (pc := 41) (v := 3) F dL_act_41 rfl ?_
  refine zi_icmp_ne (pc := 42) (tgt := 53) F dL_act_42 (by decide) (fun _ => ?_) (fun h => absurd h (by decide))
  refine zi_iload_n (pc := 53) F dL_act_53 1 rfl ?_
  refine zi_iconst (pc := 54) (v := 4) F dL_act_54 rfl ?_
  refine zi_icmp_ne (pc := 55) (tgt := 66) F dL_act_55 (by decide) (fun _ => ?_) (fun h => absurd h (by decide))
  refine zi_iload_n (pc := 66) F dL_act_66 1 rfl ?_
  refine zi_iconst (pc := 67) (v := 5) F dL_act_67 rfl ?_
  refine zi_icmp_ne (pc := 68) (tgt := 79) F dL_act_68 (by decide) (fun _ => ?_) (fun h => absurd h (by decide))
  refine zi_iload_n (pc := 79) F dL_act_79 1 rfl ?_
  refine zi_bipush (pc := 80) (v := 6) F dL_act_80 rfl ?_
  refine zi_icmp_ne (pc := 82) (tgt := 94) F dL_act_82 (by decide) (fun _ => ?_) (fun h => absurd h (by decide))
  refine zi_iload_n (pc := 94) F dL_act_94 1 rfl ?_
  refine zi_bipush (pc := 95) (v := 7) F dL_act_95 rfl ?_
  refine zi_icmp_ne (pc := 97) (tgt := 109) F dL_act_97 (by decide) (fun _ => ?_) (fun h => absurd h (by decide))
  refine zi_iload_n (pc := 109) F dL_act_109 1 rfl ?_
  refine zi_bipush (pc := 110) (v := 8) F dL_act_110 rfl ?_
  refine zi_icmp_ne (pc := 112) (tgt := 124) F dL_act_112 (by decide) (fun _ => ?_) (fun h => absurd h (by decide))
  refine zi_iload_n (pc := 124) F dL_act_124 1 rfl ?_
  refine zi_bipush (pc := 125) (v := 9) F dL_act_125 rfl ?_
  refine zi_icmp_ne (pc := 127) (tgt := 138) F dL_act_127 (by decide) (fun _ => ?_) (fun h => absurd h (by decide))
  refine zi_iload_n (pc := 138) F dL_act_138 1 rfl ?_
  refine zi_bipush (pc := 139) (v := 10) F dL_act_139 rfl ?_
  refine zi_icmp_ne (pc := 141) (tgt := 160) F dL_act_141 (by decide) (fun h => absurd h (by decide)) (fun _ => ?_)
  refine zi_aload_n (pc := 144) F dL_act_144 0 rfl ?_
  refine zi_iload_n (pc := 145) F dL_act_145 2 rfl ?_
  refine zi_callXI (pc := 146) (rest := []) (ws' := zWL G L T E V M K) F hsx hM (cwV 1 F.1.2.2.2.2 gL_act_X4_isTrigger rfl rfl rfl hd_X4_isTrigger ⟨Nat.le_of_ble_eq_true rfl, Nat.le_of_ble_eq_true rfl⟩) 0 rfl rfl [] [] (zw_nil _) (zw_nil _).symm rfl rfl (Nat.le_of_ble_eq_true rfl) dL_act_146 ⟨Nat.le_of_ble_eq_true rfl, Nat.le_of_ble_eq_true rfl⟩ (fun En hEn => ?_) (fun hN => ?_)
  · have hEn : x = some En := hEn
    rcases hx with h | h
    · rw [h] at hEn; exact absurd hEn (fun q9 => by cases q9)
    · subst h
      cases Option.some.inj hEn
      refine zi_catch (name := "java/lang/IndexOutOfBoundsException") F [] { startPc := 0, endPc := 179, handlerPc := 180, catchType := 51 } [{ startPc := 0, endPc := 179, handlerPc := 185, catchType := 53 }, { startPc := 0, endPc := 179, handlerPc := 190, catchType := 55 }] htab (fun z hz => absurd hz List.not_mem_nil) (by decide) (by decide) (List.mem_of_getElem? (i := 1) rfl) (zcas hsx (by decide)) (fun q9 => ?_)
      show zW p l e rmL_act s m args below meth c 1 6 Q G.1 A 5 (zWL G L T E V M K) [(0, .ref (G.2.2 0 0)), (1, .int 10), (2, .int a), (3, .int b)] 180 [.ref q9]
      refine zi_astore (pc := 180) (lv' := [(0, .ref (G.2.2 0 0)), (1, .int 10), (2, .int a), (3, .int b), (4, .ref q9)]) F dL_act_180 (by decide) rfl ?_
      refine zi_bipush (pc := 182) (v := (-71)) F dL_act_182 rfl ?_
      refine zi_toplit (zac_0 r).symm ?_
      exact hret _ _ _ _ (Nat.le_of_ble_eq_true rfl) (Nat.le_of_ble_eq_true rfl) dL_act_184
  · have hN : x = none := hN
    subst hN
    rcases hb with h | h
    · subst h
      refine zi_if_eq (pc := 149) (tgt := 156) F dL_act_149 (by decide) (fun _ => ?_) (fun h => absurd h (by decide))
      refine zi_iconst (pc := 156) (v := 0) F dL_act_156 rfl ?_
      refine zi_goto (pc := 157) (tgt := 179) F dL_act_157 (by decide) ?_
      refine zi_toplit (zac_n 0).symm ?_
      exact hret _ _ _ _ (Nat.le_of_ble_eq_true rfl) (Nat.le_of_ble_eq_true rfl) dL_act_179
    · subst h
      refine zi_if_eq (pc := 149) (tgt := 156) F dL_act_149 (by decide) (fun h => absurd h (by decide)) (fun _ => ?_)
      refine zi_iconst (pc := 152) (v := 1) F dL_act_152 rfl ?_
      refine zi_goto (pc := 153) (tgt := 179) F dL_act_153 (by decide) ?_
      refine zi_toplit (zac_n 1).symm ?_
      exact hret _ _ _ _ (Nat.le_of_ble_eq_true rfl) (Nat.le_of_ble_eq_true rfl) dL_act_179
set_option maxHeartbeats 4000000 in
set_option maxRecDepth 100000 in
theorem c_L_act_11 (l : Launch) (hfl : l.stackTraces = false) (G : zG_t) (a b : Int32) (L T E V M K : zS_t) (hIE : zIE E) : zNI l G.1 (zty G) yL_act wsL_act rmL_act [.ref (G.2.2 0 0), .int 11, .int a, .int b] (zWL G L T E V M K) (zac ((mX4_entryPlayer a E).1) ((mX4_entryPlayer a E).2)) (zWL G L T E V M K) := by
  have hM := c_X4_entryPlayer l hfl G a L T E V M K hIE
  have hp := pp_X4_entryPlayer a E hIE
  obtain ⟨X, hE⟩ : ∃ z, mX4_entryPlayer a E = z := ⟨_, rfl⟩
  rw [hE] at hM hp ⊢
  have hx := hp
  obtain ⟨x, r⟩ := X
  have hx : x = none ∨ x = some "java/lang/IndexOutOfBoundsException" := hx
  refine zn_H (cc := cL_act) (maxL := 5) (hh := [(0, 179, 180, 51), (0, 179, 185, 53), (0, 179, 190, 55)]) (by decide) rfl (Nat.le_of_ble_eq_true rfl) ?_
  intro p e s m args below meth c Q A F hsx hao htab hret
  show zW p l e rmL_act s m args below meth c 0 0 Q G.1 A 5 (zWL G L T E V M K) [(0, .ref (G.2.2 0 0)), (1, .int 11), (2, .int a), (3, .int b)] 0 []
  refine zi_iload_n (pc := 0) F dL_act_0 1 rfl ?_
  refine zi_if_ne (pc := 1) (tgt := 13) F dL_act_1 (by decide) (fun _ => ?_) (fun h => absurd h (by decide))
  refine zi_iload_n (pc := 13) F dL_act_13 1 rfl ?_
  refine zi_iconst (pc := 14) (v := 1) F dL_act_14 rfl ?_
  refine zi_icmp_ne (pc := 15) (tgt := 27) F dL_act_15 (by decide) (fun _ => ?_) (fun h => absurd h (by decide))
  refine zi_iload_n (pc := 27) F dL_act_27 1 rfl ?_
  refine zi_iconst (pc := 28) (v := 2) F dL_act_28 rfl ?_
  refine zi_icmp_ne (pc := 29) (tgt := 40) F dL_act_29 (by decide) (fun _ => ?_) (fun h => absurd h (by decide))
  refine zi_iload_n (pc := 40) F dL_act_40 1 rfl ?_
  refine zi_iconst (pc := 41) (v := 3) F dL_act_41 rfl ?_
  refine zi_icmp_ne (pc := 42) (tgt := 53) F dL_act_42 (by decide) (fun _ => ?_) (fun h => absurd h (by decide))
  refine zi_iload_n (pc := 53) F dL_act_53 1 rfl ?_
  refine zi_iconst (pc := 54) (v := 4) F dL_act_54 rfl ?_
  refine zi_icmp_ne (pc := 55) (tgt := 66) F dL_act_55 (by decide) (fun _ => ?_) (fun h => absurd h (by decide))
  refine zi_iload_n (pc := 66) F dL_act_66 1 rfl ?_
  refine zi_iconst (pc := 67) (v := 5) F dL_act_67 rfl ?_
  refine zi_icmp_ne (pc := 68) (tgt := 79) F dL_act_68 (by decide) (fun _ => ?_) (fun h => absurd h (by decide))
  refine zi_iload_n (pc := 79) F dL_act_79 1 rfl ?_
  refine zi_bipush (pc := 80) (v := 6) F dL_act_80 rfl ?_
  refine zi_icmp_ne (pc := 82) (tgt := 94) F dL_act_82 (by decide) (fun _ => ?_) (fun h => absurd h (by decide))
  refine zi_iload_n (pc := 94) F dL_act_94 1 rfl ?_
  refine zi_bipush (pc := 95) (v := 7) F dL_act_95 rfl ?_
  refine zi_icmp_ne (pc := 97) (tgt := 109) F dL_act_97 (by decide) (fun _ => ?_) (fun h => absurd h (by decide))
  refine zi_iload_n (pc := 109) F dL_act_109 1 rfl ?_
  refine zi_bipush (pc := 110) (v := 8) F dL_act_110 rfl ?_
  refine zi_icmp_ne (pc := 112) (tgt := 124) F dL_act_112 (by decide) (fun _ => ?_) (fun h => absurd h (by decide))
  refine zi_iload_n (pc := 124) F dL_act_124 1 rfl ?_
  refine zi_bipush (pc := 125) (v := 9) F dL_act_125 rfl ?_
  refine zi_icmp_ne (pc := 127) (tgt := 138) F dL_act_127 (by decide) (fun _ => ?_) (fun h => absurd h (by decide))
  refine zi_iload_n (pc := 138) F dL_act_138 1 rfl ?_
  refine zi_bipush (pc := 139) (v := 10) F dL_act_139 rfl ?_
  refine zi_icmp_ne (pc := 141) (tgt := 160) F dL_act_141 (by decide) (fun _ => ?_) (fun h => absurd h (by decide))
  refine zi_iload_n (pc := 160) F dL_act_160 1 rfl ?_
  refine zi_bipush (pc := 161) (v := 11) F dL_act_161 rfl ?_
  refine zi_icmp_ne (pc := 163) (tgt := 174) F dL_act_163 (by decide) (fun h => absurd h (by decide)) (fun _ => ?_)
  refine zi_aload_n (pc := 166) F dL_act_166 0 rfl ?_
  refine zi_iload_n (pc := 167) F dL_act_167 2 rfl ?_
  refine zi_callXI (pc := 168) (rest := []) (ws' := zWL G L T E V M K) F hsx hM (cwV 1 F.1.2.2.2.2 gL_act_X4_entryPlayer rfl rfl rfl hd_X4_entryPlayer ⟨Nat.le_of_ble_eq_true rfl, Nat.le_of_ble_eq_true rfl⟩) 0 rfl rfl [] [] (zw_nil _) (zw_nil _).symm rfl rfl (Nat.le_of_ble_eq_true rfl) dL_act_168 ⟨Nat.le_of_ble_eq_true rfl, Nat.le_of_ble_eq_true rfl⟩ (fun En hEn => ?_) (fun hN => ?_)
  · have hEn : x = some En := hEn
    rcases hx with h | h
    · rw [h] at hEn; exact absurd hEn (fun q9 => by cases q9)
    · subst h
      cases Option.some.inj hEn
      refine zi_catch (name := "java/lang/IndexOutOfBoundsException") F [] { startPc := 0, endPc := 179, handlerPc := 180, catchType := 51 } [{ startPc := 0, endPc := 179, handlerPc := 185, catchType := 53 }, { startPc := 0, endPc := 179, handlerPc := 190, catchType := 55 }] htab (fun z hz => absurd hz List.not_mem_nil) (by decide) (by decide) (List.mem_of_getElem? (i := 1) rfl) (zcas hsx (by decide)) (fun q9 => ?_)
      show zW p l e rmL_act s m args below meth c 1 6 Q G.1 A 5 (zWL G L T E V M K) [(0, .ref (G.2.2 0 0)), (1, .int 11), (2, .int a), (3, .int b)] 180 [.ref q9]
      refine zi_astore (pc := 180) (lv' := [(0, .ref (G.2.2 0 0)), (1, .int 11), (2, .int a), (3, .int b), (4, .ref q9)]) F dL_act_180 (by decide) rfl ?_
      refine zi_bipush (pc := 182) (v := (-71)) F dL_act_182 rfl ?_
      refine zi_toplit (zac_0 r).symm ?_
      exact hret _ _ _ _ (Nat.le_of_ble_eq_true rfl) (Nat.le_of_ble_eq_true rfl) dL_act_184
  · have hN : x = none := hN
    subst hN
    refine zi_goto (pc := 171) (tgt := 179) F dL_act_171 (by decide) ?_
    refine zi_toplit (zac_n r).symm ?_
    exact hret _ _ _ _ (Nat.le_of_ble_eq_true rfl) (Nat.le_of_ble_eq_true rfl) dL_act_179
set_option maxHeartbeats 4000000 in
set_option maxRecDepth 100000 in
theorem c_L_act_12 (l : Launch) (hfl : l.stackTraces = false) (G : zG_t) (a b : Int32) (L T E V M K : zS_t) (hIT : zIT T) (hIE : zIE E) : zNI l G.1 (zty G) yL_act wsL_act rmL_act [.ref (G.2.2 0 0), .int 12, .int a, .int b] (zWL G L T E V M K) (zac ((mX4_entryTarget a T E).1) ((mX4_entryTarget a T E).2)) (zWL G L T E V M K) := by
  have hM := c_X4_entryTarget l hfl G a L T E V M K hIT hIE
  have hp := pp_X4_entryTarget a T E hIT hIE
  obtain ⟨X, hE⟩ : ∃ z, mX4_entryTarget a T E = z := ⟨_, rfl⟩
  rw [hE] at hM hp ⊢
  have hx := hp
  obtain ⟨x, r⟩ := X
  have hx : x = none ∨ x = some "java/lang/IndexOutOfBoundsException" := hx
  refine zn_H (cc := cL_act) (maxL := 5) (hh := [(0, 179, 180, 51), (0, 179, 185, 53), (0, 179, 190, 55)]) (by decide) rfl (Nat.le_of_ble_eq_true rfl) ?_
  intro p e s m args below meth c Q A F hsx hao htab hret
  show zW p l e rmL_act s m args below meth c 0 0 Q G.1 A 5 (zWL G L T E V M K) [(0, .ref (G.2.2 0 0)), (1, .int 12), (2, .int a), (3, .int b)] 0 []
  refine zi_iload_n (pc := 0) F dL_act_0 1 rfl ?_
  refine zi_if_ne (pc := 1) (tgt := 13) F dL_act_1 (by decide) (fun _ => ?_) (fun h => absurd h (by decide))
  refine zi_iload_n (pc := 13) F dL_act_13 1 rfl ?_
  refine zi_iconst (pc := 14) (v := 1) F dL_act_14 rfl ?_
  refine zi_icmp_ne (pc := 15) (tgt := 27) F dL_act_15 (by decide) (fun _ => ?_) (fun h => absurd h (by decide))
  refine zi_iload_n (pc := 27) F dL_act_27 1 rfl ?_
  refine zi_iconst (pc := 28) (v := 2) F dL_act_28 rfl ?_
  refine zi_icmp_ne (pc := 29) (tgt := 40) F dL_act_29 (by decide) (fun _ => ?_) (fun h => absurd h (by decide))
  refine zi_iload_n (pc := 40) F dL_act_40 1 rfl ?_
  refine zi_iconst (pc := 41) (v := 3) F dL_act_41 rfl ?_
  refine zi_icmp_ne (pc := 42) (tgt := 53) F dL_act_42 (by decide) (fun _ => ?_) (fun h => absurd h (by decide))
  refine zi_iload_n (pc := 53) F dL_act_53 1 rfl ?_
  refine zi_iconst (pc := 54) (v := 4) F dL_act_54 rfl ?_
  refine zi_icmp_ne (pc := 55) (tgt := 66) F dL_act_55 (by decide) (fun _ => ?_) (fun h => absurd h (by decide))
  refine zi_iload_n (pc := 66) F dL_act_66 1 rfl ?_
  refine zi_iconst (pc := 67) (v := 5) F dL_act_67 rfl ?_
  refine zi_icmp_ne (pc := 68) (tgt := 79) F dL_act_68 (by decide) (fun _ => ?_) (fun h => absurd h (by decide))
  refine zi_iload_n (pc := 79) F dL_act_79 1 rfl ?_
  refine zi_bipush (pc := 80) (v := 6) F dL_act_80 rfl ?_
  refine zi_icmp_ne (pc := 82) (tgt := 94) F dL_act_82 (by decide) (fun _ => ?_) (fun h => absurd h (by decide))
  refine zi_iload_n (pc := 94) F dL_act_94 1 rfl ?_
  refine zi_bipush (pc := 95) (v := 7) F dL_act_95 rfl ?_
  refine zi_icmp_ne (pc := 97) (tgt := 109) F dL_act_97 (by decide) (fun _ => ?_) (fun h => absurd h (by decide))
  refine zi_iload_n (pc := 109) F dL_act_109 1 rfl ?_
  refine zi_bipush (pc := 110) (v := 8) F dL_act_110 rfl ?_
  refine zi_icmp_ne (pc := 112) (tgt := 124) F dL_act_112 (by decide) (fun _ => ?_) (fun h => absurd h (by decide))
  refine zi_iload_n (pc := 124) F dL_act_124 1 rfl ?_
  refine zi_bipush (pc := 125) (v := 9) F dL_act_125 rfl ?_
  refine zi_icmp_ne (pc := 127) (tgt := 138) F dL_act_127 (by decide) (fun _ => ?_) (fun h => absurd h (by decide))
  refine zi_iload_n (pc := 138) F dL_act_138 1 rfl ?_
  refine zi_bipush (pc := 139) (v := 10) F dL_act_139 rfl ?_
  refine zi_icmp_ne (pc := 141) (tgt := 160) F dL_act_141 (by decide) (fun _ => ?_) (fun h => absurd h (by decide))
  refine zi_iload_n (pc := 160) F dL_act_160 1 rfl ?_
  refine zi_bipush (pc := 161) (v := 11) F dL_act_161 rfl ?_
  refine zi_icmp_ne (pc := 163) (tgt := 174) F dL_act_163 (by decide) (fun _ => ?_) (fun h => absurd h (by decide))
  refine zi_aload_n (pc := 174) F dL_act_174 0 rfl ?_
  refine zi_iload_n (pc := 175) F dL_act_175 2 rfl ?_
  refine zi_callXI (pc := 176) (rest := []) (ws' := zWL G L T E V M K) F hsx hM (cwV 1 F.1.2.2.2.2 gL_act_X4_entryTarget rfl rfl rfl hd_X4_entryTarget ⟨Nat.le_of_ble_eq_true rfl, Nat.le_of_ble_eq_true rfl⟩) 0 rfl rfl [] [] (zw_nil _) (zw_nil _).symm rfl rfl (Nat.le_of_ble_eq_true rfl) dL_act_176 ⟨Nat.le_of_ble_eq_true rfl, Nat.le_of_ble_eq_true rfl⟩ (fun En hEn => ?_) (fun hN => ?_)
  · have hEn : x = some En := hEn
    rcases hx with h | h
    · rw [h] at hEn; exact absurd hEn (fun q9 => by cases q9)
    · subst h
      cases Option.some.inj hEn
      refine zi_catch (name := "java/lang/IndexOutOfBoundsException") F [] { startPc := 0, endPc := 179, handlerPc := 180, catchType := 51 } [{ startPc := 0, endPc := 179, handlerPc := 185, catchType := 53 }, { startPc := 0, endPc := 179, handlerPc := 190, catchType := 55 }] htab (fun z hz => absurd hz List.not_mem_nil) (by decide) (by decide) (List.mem_of_getElem? (i := 1) rfl) (zcas hsx (by decide)) (fun q9 => ?_)
      show zW p l e rmL_act s m args below meth c 1 6 Q G.1 A 5 (zWL G L T E V M K) [(0, .ref (G.2.2 0 0)), (1, .int 12), (2, .int a), (3, .int b)] 180 [.ref q9]
      refine zi_astore (pc := 180) (lv' := [(0, .ref (G.2.2 0 0)), (1, .int 12), (2, .int a), (3, .int b), (4, .ref q9)]) F dL_act_180 (by decide) rfl ?_
      refine zi_bipush (pc := 182) (v := (-71)) F dL_act_182 rfl ?_
      refine zi_toplit (zac_0 r).symm ?_
      exact hret _ _ _ _ (Nat.le_of_ble_eq_true rfl) (Nat.le_of_ble_eq_true rfl) dL_act_184
  · have hN : x = none := hN
    subst hN
    refine zi_toplit (zac_n r).symm ?_
    exact hret _ _ _ _ (Nat.le_of_ble_eq_true rfl) (Nat.le_of_ble_eq_true rfl) dL_act_179
