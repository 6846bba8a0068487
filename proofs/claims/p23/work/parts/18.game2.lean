/-! X4_breakLoop -/
def mX4_breakLoop_L23 (T : zS_t) : Nat → Int32 → zS_t → Int32 × zS_t
  | 0, k1_31, M32 => (k1_31, M32)
  | n33 + 1, k1_31, M32 => if (T 4 0) ≤ k1_31 then (k1_31, M32) else (zbnd (mX2_placeOf (T 2 k1_31.toNatClampNeg) T) (fun r54 => zbnd (mX1_write (T 0 k1_31.toNatClampNeg) 0 (T 1 k1_31.toNatClampNeg) r54 M32) (fun M57 => zbnd ((k1_31 + 1)) (fun y67 => mX4_breakLoop_L23 T n33 y67 M57))))
def mX4_breakLoop_L84 (T : zS_t) (E : zS_t) : Nat → Int32 → zS_t → Int32 × zS_t
  | 0, k1_103, M104 => (k1_103, M104)
  | n105 + 1, k1_103, M104 => if (E 5 0) ≤ k1_103 then (k1_103, M104) else (zbnd (mX4_targetPlace k1_103 T E) (fun r126 => zbnd (mX1_write (E 0 k1_103.toNatClampNeg) (E 1 k1_103.toNatClampNeg) (E 2 k1_103.toNatClampNeg) r126 M104) (fun M129 => zbnd ((k1_103 + 1)) (fun y139 => mX4_breakLoop_L84 T E n105 y139 M129))))
def mX4_breakLoop  (L : zS_t) (T : zS_t) (E : zS_t) (M : zS_t) (K : zS_t) : zS_t × zS_t × zS_t × zS_t := zbnd (mX1_start (T 4 0) (E 5 0) M) (fun M1 => zbnd2 (mX4_breakLoop_L23 T 11 0 M1) (fun k1_71 M72 => zbnd2 (mX4_breakLoop_L84 T E 13 0 M72) (fun k1_143 M144 => zbnd (mX1_knowsState M144 K) (fun r155 => if r155 = 0 then (zbnd2 (mX1_keepState M144 K) (fun M161 K162 => (L, E, M161, K162))) else (zbnd (mX1_forget M144) (fun M173 => ((zsI L 9 ((L 9 0) + 1)), (zsI E 5 0), M173, K)))))))
set_option maxHeartbeats 4000000 in
set_option maxRecDepth 100000 in
theorem pp_X4_breakLoop  (L : zS_t) (T : zS_t) (E : zS_t) (M : zS_t) (K : zS_t) (hIT : zIT T) (hIE : zIE E) (hIM : zIM M) : (zIE ((mX4_breakLoop L T E M K).2.1)) ∧ (zIM ((mX4_breakLoop L T E M K).2.2.1)) := by
  obtain ⟨X, hE⟩ : ∃ z, mX4_breakLoop L T E M K = z := ⟨_, rfl⟩
  rw [hE]
  have k_0 : Int32.toInt 0 = 0 := by decide
  have k_1 : Int32.toInt 1 = 1 := by decide
  obtain ⟨i183, i184⟩ := id hIT
  obtain ⟨⟨i185, i186⟩, hIE_b1⟩ := id hIE
  obtain ⟨⟨i187, i188⟩, ⟨i189, i190⟩, ⟨i191, i192⟩⟩ := id hIM
  unfold mX4_breakLoop at hE
  have pp4 := pp_X1_start (T 4 0) (E 5 0) M (hIM)
  obtain ⟨M1, e2⟩ : ∃ z, mX1_start (T 4 0) (E 5 0) M = z := ⟨_, rfl⟩
  have hE := zbnd_cut hE e2
  rw [e2] at pp4
  have hIM1 := pp4
  obtain ⟨⟨i5, i6⟩, ⟨i7, i8⟩, ⟨i9, i10⟩⟩ := id hIM1
  have hL23 : ∀ (n33 : Nat) (k1_31 : Int32) (M32 : zS_t), (0 ≤ Int32.toInt k1_31) ∧ (Int32.toInt k1_31 ≤ 10) ∧ (zIM M32) → 11 - Int32.toInt k1_31 ≤ (n33 : Int) → ∀ Y34, mX4_breakLoop_L23 T n33 k1_31 M32 = Y34 → (0 ≤ Int32.toInt Y34.1) ∧ (Int32.toInt Y34.1 ≤ 10) ∧ (zIM (Y34.2)) := by
    intro n33
    induction n33 with
    | zero =>
      intro k1_31 M32 hI hM9
      obtain ⟨i35, i36, hIM32⟩ := id hI
      obtain ⟨⟨i37, i38⟩, ⟨i39, i40⟩, ⟨i41, i42⟩⟩ := id hIM32
      exact absurd hM9 (by omega)
    | succ n33 ih =>
      intro k1_31 M32 hI hM9 Y34 hE
      obtain ⟨i43, i44, hIM32⟩ := id hI
      obtain ⟨⟨i45, i46⟩, ⟨i47, i48⟩, ⟨i49, i50⟩⟩ := id hIM32
      rw [mX4_breakLoop_L23.eq_2] at hE
      by_cases c51 : (T 4 0) ≤ k1_31
      · have hE := zite_t hE c51
        have t52 := zt_le c51
        subst hE
        exact ⟨by (show 0 ≤ Int32.toInt k1_31; omega), by (show Int32.toInt k1_31 ≤ 10; omega), hIM32⟩
      · have hE := zite_f hE c51
        have t53 := zt_nle c51
        obtain ⟨r54, e55⟩ : ∃ z, mX2_placeOf (T 2 k1_31.toNatClampNeg) T = z := ⟨_, rfl⟩
        have hE := zbnd_cut hE e55
        have pp60 := pp_X1_write (T 0 k1_31.toNatClampNeg) 0 (T 1 k1_31.toNatClampNeg) r54 M32 (hIM32)
        obtain ⟨M57, e58⟩ : ∃ z, mX1_write (T 0 k1_31.toNatClampNeg) 0 (T 1 k1_31.toNatClampNeg) r54 M32 = z := ⟨_, rfl⟩
        have hE := zbnd_cut hE e58
        rw [e58] at pp60
        have hIM57 := pp60
        obtain ⟨⟨i61, i62⟩, ⟨i63, i64⟩, ⟨i65, i66⟩⟩ := id hIM57
        try have t69 := zt_add (a := k1_31) (b := 1) (by omega) (by omega)
        obtain ⟨y67, e68⟩ : ∃ z : Int32, (k1_31 + 1) = z := ⟨_, rfl⟩
        have hE := zbnd_cut hE e68
        have t70 := congrArg Int32.toInt e68
        exact ih y67 M57 (⟨by (show 0 ≤ Int32.toInt y67; omega), by (show Int32.toInt y67 ≤ 10; omega), hIM57⟩) (by omega) _ hE
  obtain ⟨⟨k1_71, M72⟩, e73⟩ : ∃ z, mX4_breakLoop_L23 T 11 0 M1 = z := ⟨_, rfl⟩
  have hE := zbnd2_cut hE e73
  have hI74 := hL23 11 0 M1 (⟨by (show 0 ≤ Int32.toInt 0; omega), by (show Int32.toInt 0 ≤ 10; omega), hIM1⟩) (by omega) _ e73
  have hI74 : (0 ≤ Int32.toInt k1_71) ∧ (Int32.toInt k1_71 ≤ 10) ∧ (zIM M72) := hI74
  obtain ⟨i75, i76, hIM72⟩ := id hI74
  obtain ⟨⟨i77, i78⟩, ⟨i79, i80⟩, ⟨i81, i82⟩⟩ := id hIM72
  have hL84 : ∀ (n105 : Nat) (k1_103 : Int32) (M104 : zS_t), (0 ≤ Int32.toInt k1_103) ∧ (Int32.toInt k1_103 ≤ 12) ∧ (zIM M104) → 13 - Int32.toInt k1_103 ≤ (n105 : Int) → ∀ Y106, mX4_breakLoop_L84 T E n105 k1_103 M104 = Y106 → (0 ≤ Int32.toInt Y106.1) ∧ (Int32.toInt Y106.1 ≤ 12) ∧ (zIM (Y106.2)) := by
    intro n105
    induction n105 with
    | zero =>
      intro k1_103 M104 hI hM9
      obtain ⟨i107, i108, hIM104⟩ := id hI
      obtain ⟨⟨i109, i110⟩, ⟨i111, i112⟩, ⟨i113, i114⟩⟩ := id hIM104
      exact absurd hM9 (by omega)
    | succ n105 ih =>
      intro k1_103 M104 hI hM9 Y106 hE
      obtain ⟨i115, i116, hIM104⟩ := id hI
      obtain ⟨⟨i117, i118⟩, ⟨i119, i120⟩, ⟨i121, i122⟩⟩ := id hIM104
      rw [mX4_breakLoop_L84.eq_2] at hE
      by_cases c123 : (E 5 0) ≤ k1_103
      · have hE := zite_t hE c123
        have t124 := zt_le c123
        subst hE
        exact ⟨by (show 0 ≤ Int32.toInt k1_103; omega), by (show Int32.toInt k1_103 ≤ 12; omega), hIM104⟩
      · have hE := zite_f hE c123
        have t125 := zt_nle c123
        obtain ⟨r126, e127⟩ : ∃ z, mX4_targetPlace k1_103 T E = z := ⟨_, rfl⟩
        have hE := zbnd_cut hE e127
        have pp132 := pp_X1_write (E 0 k1_103.toNatClampNeg) (E 1 k1_103.toNatClampNeg) (E 2 k1_103.toNatClampNeg) r126 M104 (hIM104)
        obtain ⟨M129, e130⟩ : ∃ z, mX1_write (E 0 k1_103.toNatClampNeg) (E 1 k1_103.toNatClampNeg) (E 2 k1_103.toNatClampNeg) r126 M104 = z := ⟨_, rfl⟩
        have hE := zbnd_cut hE e130
        rw [e130] at pp132
        have hIM129 := pp132
        obtain ⟨⟨i133, i134⟩, ⟨i135, i136⟩, ⟨i137, i138⟩⟩ := id hIM129
        try have t141 := zt_add (a := k1_103) (b := 1) (by omega) (by omega)
        obtain ⟨y139, e140⟩ : ∃ z : Int32, (k1_103 + 1) = z := ⟨_, rfl⟩
        have hE := zbnd_cut hE e140
        have t142 := congrArg Int32.toInt e140
        exact ih y139 M129 (⟨by (show 0 ≤ Int32.toInt y139; omega), by (show Int32.toInt y139 ≤ 12; omega), hIM129⟩) (by omega) _ hE
  obtain ⟨⟨k1_143, M144⟩, e145⟩ : ∃ z, mX4_breakLoop_L84 T E 13 0 M72 = z := ⟨_, rfl⟩
  have hE := zbnd2_cut hE e145
  have hI146 := hL84 13 0 M72 (⟨by (show 0 ≤ Int32.toInt 0; omega), by (show Int32.toInt 0 ≤ 12; omega), hIM72⟩) (by omega) _ e145
  have hI146 : (0 ≤ Int32.toInt k1_143) ∧ (Int32.toInt k1_143 ≤ 12) ∧ (zIM M144) := hI146
  obtain ⟨i147, i148, hIM144⟩ := id hI146
  obtain ⟨⟨i149, i150⟩, ⟨i151, i152⟩, ⟨i153, i154⟩⟩ := id hIM144
  have pp158 := pp_X1_knowsState  M144 K (hIM144)
  obtain ⟨r155, e156⟩ : ∃ z, mX1_knowsState M144 K = z := ⟨_, rfl⟩
  have hE := zbnd_cut hE e156
  rw [e156] at pp158
  have hbr155 := pp158
  by_cases c159 : r155 = 0
  · have hE := zite_t hE c159
    have t160 := congrArg Int32.toInt c159
    have pp165 := pp_X1_keepState  M144 K (hIM144)
    obtain ⟨⟨M161, K162⟩, e163⟩ : ∃ z, mX1_keepState M144 K = z := ⟨_, rfl⟩
    have hE := zbnd2_cut hE e163
    rw [e163] at pp165
    have hIM161 := pp165
    have hIM161 : zIM M161 := hIM161
    obtain ⟨⟨i166, i167⟩, ⟨i168, i169⟩, ⟨i170, i171⟩⟩ := id hIM161
    subst hE
    exact ⟨hIE, hIM161⟩
  · have hE := zite_f hE c159
    have t172 := zt_ne c159
    have pp176 := pp_X1_forget  M144 (hIM144)
    obtain ⟨M173, e174⟩ : ∃ z, mX1_forget M144 = z := ⟨_, rfl⟩
    have hE := zbnd_cut hE e174
    rw [e174] at pp176
    have hIM173 := pp176
    obtain ⟨⟨i177, i178⟩, ⟨i179, i180⟩, ⟨i181, i182⟩⟩ := id hIM173
    subst hE
    exact ⟨⟨⟨by (show (0:Int) ≤ Int32.toInt 0); omega, by (show Int32.toInt 0 ≤ (12:Int)); omega⟩, hIE_b1⟩, hIM173⟩
theorem hw_X4_breakLoop_X0 : ∀ w ∈ wsX00, w ∈ wsX4_breakLoop := fun w h => List.mem_cons_of_mem _ (List.mem_append_left _ (List.mem_append_right _ (h)))
theorem hw_X4_breakLoop_X2 : ∀ w ∈ wsX20, w ∈ wsX4_breakLoop := fun w h => List.mem_cons_of_mem _ (List.mem_append_left _ (List.mem_append_left _ (List.mem_append_right _ (h))))
theorem hw_X4_breakLoop_X4 : ∀ w ∈ wsX40, w ∈ wsX4_breakLoop := fun w h => List.mem_cons_of_mem _ (List.mem_append_left _ (List.mem_append_left _ (List.mem_append_left _ (List.mem_append_right _ (h)))))
abbrev rmX4_breakLoop : Room := { frames := 2, cells := 0, slots := 0, locals := 80 }
theorem hd_X4_breakLoop : yX4_breakLoop.cls = RX4 ∧ yX4_breakLoop.cls ≠ "java/lang/invoke/MethodHandle" ∧ yX4_breakLoop.cls ≠ "java/lang/invoke/VarHandle" ∧ (parseMethodDescriptor yX4_breakLoop.desc).map (fun d => d.parameters.length) = some 0 := by decide +kernel
set_option maxHeartbeats 4000000 in
set_option maxRecDepth 100000 in
theorem c_X4_breakLoop (l : Launch) (G : zG_t)  (L : zS_t) (T : zS_t) (E : zS_t) (V : zS_t) (M : zS_t) (K : zS_t) (hIT : zIT T) (hIE : zIE E) (hIM : zIM M) : zCV l G.1 (zty G) yX4_breakLoop wsX4_breakLoop rmX4_breakLoop [.ref (G.2.2 0 0)] (zWL G L T E V M K) (zWL G ((mX4_breakLoop L T E M K).1) T ((mX4_breakLoop L T E M K).2.1) V ((mX4_breakLoop L T E M K).2.2.1) ((mX4_breakLoop L T E M K).2.2.2)) := by
  obtain ⟨X, hE⟩ : ∃ z, mX4_breakLoop L T E M K = z := ⟨_, rfl⟩
  rw [hE]
  refine zb_V (cc := cX4_breakLoop) (maxL := 2) (by decide) rfl (Nat.le_of_ble_eq_true rfl) ?_
  intro p e s m args below meth c Q A F hret
  show zW p l e rmX4_breakLoop s m args below meth c 0 0 Q G.1 A 2 (zWL G L T E V M K) [(0, .ref (G.2.2 0 0))] 0 []
  have k_0 : Int32.toInt 0 = 0 := by decide
  have k_1 : Int32.toInt 1 = 1 := by decide
  obtain ⟨i193, i194⟩ := id hIT
  obtain ⟨⟨i195, i196⟩, hIE_b1⟩ := id hIE
  obtain ⟨⟨i197, i198⟩, ⟨i199, i200⟩, ⟨i201, i202⟩⟩ := id hIM
  unfold mX4_breakLoop at hE
  refine zi_aload_n (pc := 0) F dX4_breakLoop_0 0 rfl ?_
  refine zi_get (pc := 1) (C := RX4) (T := TX4) (N := 11) (v := .ref (G.2.2 4 0)) F (hw_X4_breakLoop_X4) 0 rfl rfl 4 (by decide) (List.mem_of_getElem? (i := 1) rfl) rfl rfl dX4_breakLoop_1 ?_
  refine zi_aload_n (pc := 4) F dX4_breakLoop_4 0 rfl ?_
  refine zi_get (pc := 5) (C := RX4) (T := TX4) (N := 11) (v := .ref (G.2.2 1 0)) F (hw_X4_breakLoop_X4) 0 rfl rfl 1 (by decide) (List.mem_of_getElem? (i := 2) rfl) rfl rfl dX4_breakLoop_5 ?_
  refine zi_get (pc := 8) (C := RX2) (T := TX2) (N := 5) (v := .int (T 4 0)) F (hw_X4_breakLoop_X2) 8 rfl rfl 4 (by decide) (List.mem_of_getElem? (i := 3) rfl) rfl rfl dX4_breakLoop_8 ?_
  refine zi_aload_n (pc := 11) F dX4_breakLoop_11 0 rfl ?_
  refine zi_get (pc := 12) (C := RX4) (T := TX4) (N := 11) (v := .ref (G.2.2 2 0)) F (hw_X4_breakLoop_X4) 0 rfl rfl 2 (by decide) (List.mem_of_getElem? (i := 4) rfl) rfl rfl dX4_breakLoop_12 ?_
  refine zi_get (pc := 15) (C := RX0) (T := TX0) (N := 6) (v := .int (E 5 0)) F (hw_X4_breakLoop_X0) 2 rfl rfl 5 (by decide) (List.mem_of_getElem? (i := 5) rfl) rfl rfl dX4_breakLoop_15 ?_
  have hM3 := c_X1_start l G (T 4 0) (E 5 0) M K (hIM)
  have pp4 := pp_X1_start (T 4 0) (E 5 0) M (hIM)
  obtain ⟨M1, e2⟩ : ∃ z, mX1_start (T 4 0) (E 5 0) M = z := ⟨_, rfl⟩
  have hE := zbnd_cut hE e2
  rw [e2] at hM3
  rw [e2] at pp4
  have hIM1 := pp4
  obtain ⟨⟨i5, i6⟩, ⟨i7, i8⟩, ⟨i9, i10⟩⟩ := id hIM1
  refine zi_callVV (pc := 18) (rest := []) (ws' := zWL G L T E V M1 K) F hM3 (cwV 2 F.1.2.2.2.2 gX4_breakLoop_X1_start rfl rfl rfl hd_X1_start ⟨Nat.le_of_ble_eq_true rfl, Nat.le_of_ble_eq_true rfl⟩) 0 rfl rfl _ _ (zwL_M G L T E V M K) (zwL_M G L T E V M1 K).symm rfl rfl (Nat.le_of_ble_eq_true rfl) dX4_breakLoop_18 ⟨Nat.zero_le _, Nat.zero_le _⟩ ?_
  refine zi_iconst (pc := 21) (v := 0) F dX4_breakLoop_21 rfl ?_
  refine zi_istore_n (pc := 22) (lv' := [(0, .ref (G.2.2 0 0)), (1, .int 0)]) F dX4_breakLoop_22 (by decide) rfl ?_
  have hL23 : ∀ (n33 : Nat) (k1_31 : Int32) (M32 : zS_t), (0 ≤ Int32.toInt k1_31) ∧ (Int32.toInt k1_31 ≤ 10) ∧ (zIM M32) → 11 - Int32.toInt k1_31 ≤ (n33 : Int) → ∀ Y34, mX4_breakLoop_L23 T n33 k1_31 M32 = Y34 → (((0 ≤ Int32.toInt Y34.1) ∧ (Int32.toInt Y34.1 ≤ 10) ∧ (zIM (Y34.2))) → zW p l e rmX4_breakLoop s m args below meth c 0 0 Q G.1 A 2 (zWL G L T E V (Y34.2) K) [(0, .ref (G.2.2 0 0)), (1, .int Y34.1)] 82 []) → zW p l e rmX4_breakLoop s m args below meth c 0 0 Q G.1 A 2 (zWL G L T E V M32 K) [(0, .ref (G.2.2 0 0)), (1, .int k1_31)] 23 [] := by
    intro n33
    induction n33 with
    | zero =>
      intro k1_31 M32 hI hM9
      obtain ⟨i35, i36, hIM32⟩ := id hI
      obtain ⟨⟨i37, i38⟩, ⟨i39, i40⟩, ⟨i41, i42⟩⟩ := id hIM32
      exact absurd hM9 (by omega)
    | succ n33 ih =>
      intro k1_31 M32 hI hM9 Y34 hE hK
      obtain ⟨i43, i44, hIM32⟩ := id hI
      obtain ⟨⟨i45, i46⟩, ⟨i47, i48⟩, ⟨i49, i50⟩⟩ := id hIM32
      rw [mX4_breakLoop_L23.eq_2] at hE
      refine zi_iload_n (pc := 23) F dX4_breakLoop_23 1 rfl ?_
      refine zi_aload_n (pc := 24) F dX4_breakLoop_24 0 rfl ?_
      refine zi_get (pc := 25) (C := RX4) (T := TX4) (N := 11) (v := .ref (G.2.2 1 0)) F (hw_X4_breakLoop_X4) 0 rfl rfl 1 (by decide) (List.mem_of_getElem? (i := 2) rfl) rfl rfl dX4_breakLoop_25 ?_
      refine zi_get (pc := 28) (C := RX2) (T := TX2) (N := 5) (v := .int (T 4 0)) F (hw_X4_breakLoop_X2) 8 rfl rfl 4 (by decide) (List.mem_of_getElem? (i := 3) rfl) rfl rfl dX4_breakLoop_28 ?_
      refine zi_icmp_ge (pc := 31) (tgt := 82) F dX4_breakLoop_31 (by decide) (fun c51 => ?_) (fun c51 => ?_)
      · have hE := zite_t hE c51
        have t52 := zt_le c51
        subst hE
        refine zi_sub [0, 1] rfl ?_
        exact hK (⟨by (show 0 ≤ Int32.toInt k1_31; omega), by (show Int32.toInt k1_31 ≤ 10; omega), hIM32⟩)
      · have hE := zite_f hE c51
        have t53 := zt_nle c51
        refine zi_aload_n (pc := 34) F dX4_breakLoop_34 0 rfl ?_
        refine zi_get (pc := 35) (C := RX4) (T := TX4) (N := 11) (v := .ref (G.2.2 4 0)) F (hw_X4_breakLoop_X4) 0 rfl rfl 4 (by decide) (List.mem_of_getElem? (i := 1) rfl) rfl rfl dX4_breakLoop_35 ?_
        refine zi_aload_n (pc := 38) F dX4_breakLoop_38 0 rfl ?_
        refine zi_get (pc := 39) (C := RX4) (T := TX4) (N := 11) (v := .ref (G.2.2 1 0)) F (hw_X4_breakLoop_X4) 0 rfl rfl 1 (by decide) (List.mem_of_getElem? (i := 2) rfl) rfl rfl dX4_breakLoop_39 ?_
        refine zi_get (pc := 42) (C := RX2) (T := TX2) (N := 5) (v := .ref (G.2.2 1 1)) F (hw_X4_breakLoop_X2) 8 rfl rfl 0 (by decide) (List.mem_of_getElem? (i := 6) rfl) rfl rfl dX4_breakLoop_42 ?_
        refine zi_iload_n (pc := 45) F dX4_breakLoop_45 1 rfl ?_
        refine zi_iald (pc := 46) (v := (T 0 k1_31.toNatClampNeg)) F 9 0 rfl rfl (zin (a := k1_31) (by omega) (by omega)) rfl dX4_breakLoop_46 ?_
        refine zi_iconst (pc := 47) (v := 0) F dX4_breakLoop_47 rfl ?_
        refine zi_aload_n (pc := 48) F dX4_breakLoop_48 0 rfl ?_
        refine zi_get (pc := 49) (C := RX4) (T := TX4) (N := 11) (v := .ref (G.2.2 1 0)) F (hw_X4_breakLoop_X4) 0 rfl rfl 1 (by decide) (List.mem_of_getElem? (i := 2) rfl) rfl rfl dX4_breakLoop_49 ?_
        refine zi_get (pc := 52) (C := RX2) (T := TX2) (N := 5) (v := .ref (G.2.2 1 2)) F (hw_X4_breakLoop_X2) 8 rfl rfl 1 (by decide) (List.mem_of_getElem? (i := 7) rfl) rfl rfl dX4_breakLoop_52 ?_
        refine zi_iload_n (pc := 55) F dX4_breakLoop_55 1 rfl ?_
        refine zi_iald (pc := 56) (v := (T 1 k1_31.toNatClampNeg)) F 10 0 rfl rfl (zin (a := k1_31) (by omega) (by omega)) rfl dX4_breakLoop_56 ?_
        refine zi_aload_n (pc := 57) F dX4_breakLoop_57 0 rfl ?_
        refine zi_get (pc := 58) (C := RX4) (T := TX4) (N := 11) (v := .ref (G.2.2 1 0)) F (hw_X4_breakLoop_X4) 0 rfl rfl 1 (by decide) (List.mem_of_getElem? (i := 2) rfl) rfl rfl dX4_breakLoop_58 ?_
        refine zi_aload_n (pc := 61) F dX4_breakLoop_61 0 rfl ?_
        refine zi_get (pc := 62) (C := RX4) (T := TX4) (N := 11) (v := .ref (G.2.2 1 0)) F (hw_X4_breakLoop_X4) 0 rfl rfl 1 (by decide) (List.mem_of_getElem? (i := 2) rfl) rfl rfl dX4_breakLoop_62 ?_
        refine zi_get (pc := 65) (C := RX2) (T := TX2) (N := 5) (v := .ref (G.2.2 1 3)) F (hw_X4_breakLoop_X2) 8 rfl rfl 2 (by decide) (List.mem_of_getElem? (i := 8) rfl) rfl rfl dX4_breakLoop_65 ?_
        refine zi_iload_n (pc := 68) F dX4_breakLoop_68 1 rfl ?_
        refine zi_iald (pc := 69) (v := (T 2 k1_31.toNatClampNeg)) F 11 0 rfl rfl (zin (a := k1_31) (by omega) (by omega)) rfl dX4_breakLoop_69 ?_
        have hM56 := c_X2_placeOf l G (T 2 k1_31.toNatClampNeg) T (hIT)
        obtain ⟨r54, e55⟩ : ∃ z, mX2_placeOf (T 2 k1_31.toNatClampNeg) T = z := ⟨_, rfl⟩
        have hE := zbnd_cut hE e55
        rw [e55] at hM56
        refine zi_callVI (pc := 70) (rest := [.int (T 1 k1_31.toNatClampNeg), .int 0, .int (T 0 k1_31.toNatClampNeg), .ref (G.2.2 4 0)]) (ws' := zWL G L T E V M32 K) F hM56 (cwV 1 F.1.2.2.2.2 gX4_breakLoop_X2_placeOf rfl rfl rfl hd_X2_placeOf ⟨Nat.le_of_ble_eq_true rfl, Nat.le_of_ble_eq_true rfl⟩) 0 rfl rfl _ _ (zwL_T G L T E V M32 K) (zwL_T G L T E V M32 K).symm rfl rfl (Nat.le_of_ble_eq_true rfl) dX4_breakLoop_70 ⟨Nat.zero_le _, Nat.zero_le _⟩ ?_
        have hM59 := c_X1_write l G (T 0 k1_31.toNatClampNeg) 0 (T 1 k1_31.toNatClampNeg) r54 M32 K (hIM32)
        have pp60 := pp_X1_write (T 0 k1_31.toNatClampNeg) 0 (T 1 k1_31.toNatClampNeg) r54 M32 (hIM32)
        obtain ⟨M57, e58⟩ : ∃ z, mX1_write (T 0 k1_31.toNatClampNeg) 0 (T 1 k1_31.toNatClampNeg) r54 M32 = z := ⟨_, rfl⟩
        have hE := zbnd_cut hE e58
        rw [e58] at hM59
        rw [e58] at pp60
        have hIM57 := pp60
        obtain ⟨⟨i61, i62⟩, ⟨i63, i64⟩, ⟨i65, i66⟩⟩ := id hIM57
        refine zi_callVV (pc := 73) (rest := []) (ws' := zWL G L T E V M57 K) F hM59 (cwV 4 F.1.2.2.2.2 gX4_breakLoop_X1_write rfl rfl rfl hd_X1_write ⟨Nat.le_of_ble_eq_true rfl, Nat.le_of_ble_eq_true rfl⟩) 0 rfl rfl _ _ (zwL_M G L T E V M32 K) (zwL_M G L T E V M57 K).symm rfl rfl (Nat.le_of_ble_eq_true rfl) dX4_breakLoop_73 ⟨Nat.zero_le _, Nat.zero_le _⟩ ?_
        try have t69 := zt_add (a := k1_31) (b := 1) (by omega) (by omega)
        obtain ⟨y67, e68⟩ : ∃ z : Int32, (k1_31 + 1) = z := ⟨_, rfl⟩
        have hE := zbnd_cut hE e68
        have t70 := congrArg Int32.toInt e68
        refine zi_iinc (pc := 76) (lv' := [(0, .ref (G.2.2 0 0)), (1, .int y67)]) F dX4_breakLoop_76 1 rfl e68 (by decide) rfl ?_
        refine zi_goto (pc := 79) (tgt := 23) F dX4_breakLoop_79 (by decide) ?_
        refine zi_sub [0, 1] rfl ?_
        exact ih y67 M57 (⟨by (show 0 ≤ Int32.toInt y67; omega), by (show Int32.toInt y67 ≤ 10; omega), hIM57⟩) (by omega) _ hE hK
  obtain ⟨⟨k1_71, M72⟩, e73⟩ : ∃ z, mX4_breakLoop_L23 T 11 0 M1 = z := ⟨_, rfl⟩
  have hE := zbnd2_cut hE e73
  refine hL23 11 0 M1 (⟨by (show 0 ≤ Int32.toInt 0; omega), by (show Int32.toInt 0 ≤ 10; omega), hIM1⟩) (by omega) _ e73 (fun hI74 => ?_)
  have hI74 : (0 ≤ Int32.toInt k1_71) ∧ (Int32.toInt k1_71 ≤ 10) ∧ (zIM M72) := hI74
  obtain ⟨i75, i76, hIM72⟩ := id hI74
  obtain ⟨⟨i77, i78⟩, ⟨i79, i80⟩, ⟨i81, i82⟩⟩ := id hIM72
  show zW p l e rmX4_breakLoop s m args below meth c 0 0 Q G.1 A 2 (zWL G L T E V M72 K) [(0, .ref (G.2.2 0 0)), (1, .int k1_71)] 82 []
  refine zi_iconst (pc := 82) (v := 0) F dX4_breakLoop_82 rfl ?_
  refine zi_istore_n (pc := 83) (lv' := [(0, .ref (G.2.2 0 0)), (1, .int 0)]) F dX4_breakLoop_83 (by decide) rfl ?_
  have hL84 : ∀ (n105 : Nat) (k1_103 : Int32) (M104 : zS_t), (0 ≤ Int32.toInt k1_103) ∧ (Int32.toInt k1_103 ≤ 12) ∧ (zIM M104) → 13 - Int32.toInt k1_103 ≤ (n105 : Int) → ∀ Y106, mX4_breakLoop_L84 T E n105 k1_103 M104 = Y106 → (((0 ≤ Int32.toInt Y106.1) ∧ (Int32.toInt Y106.1 ≤ 12) ∧ (zIM (Y106.2))) → zW p l e rmX4_breakLoop s m args below meth c 0 0 Q G.1 A 2 (zWL G L T E V (Y106.2) K) [(0, .ref (G.2.2 0 0)), (1, .int Y106.1)] 140 []) → zW p l e rmX4_breakLoop s m args below meth c 0 0 Q G.1 A 2 (zWL G L T E V M104 K) [(0, .ref (G.2.2 0 0)), (1, .int k1_103)] 84 [] := by
    intro n105
    induction n105 with
    | zero =>
      intro k1_103 M104 hI hM9
      obtain ⟨i107, i108, hIM104⟩ := id hI
      obtain ⟨⟨i109, i110⟩, ⟨i111, i112⟩, ⟨i113, i114⟩⟩ := id hIM104
      exact absurd hM9 (by omega)
    | succ n105 ih =>
      intro k1_103 M104 hI hM9 Y106 hE hK
      obtain ⟨i115, i116, hIM104⟩ := id hI
      obtain ⟨⟨i117, i118⟩, ⟨i119, i120⟩, ⟨i121, i122⟩⟩ := id hIM104
      rw [mX4_breakLoop_L84.eq_2] at hE
      refine zi_iload_n (pc := 84) F dX4_breakLoop_84 1 rfl ?_
      refine zi_aload_n (pc := 85) F dX4_breakLoop_85 0 rfl ?_
      refine zi_get (pc := 86) (C := RX4) (T := TX4) (N := 11) (v := .ref (G.2.2 2 0)) F (hw_X4_breakLoop_X4) 0 rfl rfl 2 (by decide) (List.mem_of_getElem? (i := 4) rfl) rfl rfl dX4_breakLoop_86 ?_
      refine zi_get (pc := 89) (C := RX0) (T := TX0) (N := 6) (v := .int (E 5 0)) F (hw_X4_breakLoop_X0) 2 rfl rfl 5 (by decide) (List.mem_of_getElem? (i := 5) rfl) rfl rfl dX4_breakLoop_89 ?_
      refine zi_icmp_ge (pc := 92) (tgt := 140) F dX4_breakLoop_92 (by decide) (fun c123 => ?_) (fun c123 => ?_)
      · have hE := zite_t hE c123
        have t124 := zt_le c123
        subst hE
        refine zi_sub [0, 1] rfl ?_
        exact hK (⟨by (show 0 ≤ Int32.toInt k1_103; omega), by (show Int32.toInt k1_103 ≤ 12; omega), hIM104⟩)
      · have hE := zite_f hE c123
        have t125 := zt_nle c123
        refine zi_aload_n (pc := 95) F dX4_breakLoop_95 0 rfl ?_
        refine zi_get (pc := 96) (C := RX4) (T := TX4) (N := 11) (v := .ref (G.2.2 4 0)) F (hw_X4_breakLoop_X4) 0 rfl rfl 4 (by decide) (List.mem_of_getElem? (i := 1) rfl) rfl rfl dX4_breakLoop_96 ?_
        refine zi_aload_n (pc := 99) F dX4_breakLoop_99 0 rfl ?_
        refine zi_get (pc := 100) (C := RX4) (T := TX4) (N := 11) (v := .ref (G.2.2 2 0)) F (hw_X4_breakLoop_X4) 0 rfl rfl 2 (by decide) (List.mem_of_getElem? (i := 4) rfl) rfl rfl dX4_breakLoop_100 ?_
        refine zi_get (pc := 103) (C := RX0) (T := TX0) (N := 6) (v := .ref (G.2.2 2 1)) F (hw_X4_breakLoop_X0) 2 rfl rfl 0 (by decide) (List.mem_of_getElem? (i := 9) rfl) rfl rfl dX4_breakLoop_103 ?_
        refine zi_iload_n (pc := 106) F dX4_breakLoop_106 1 rfl ?_
        refine zi_iald (pc := 107) (v := (E 0 k1_103.toNatClampNeg)) F 3 0 rfl rfl (zin (a := k1_103) (by omega) (by omega)) rfl dX4_breakLoop_107 ?_
        refine zi_aload_n (pc := 108) F dX4_breakLoop_108 0 rfl ?_
        refine zi_get (pc := 109) (C := RX4) (T := TX4) (N := 11) (v := .ref (G.2.2 2 0)) F (hw_X4_breakLoop_X4) 0 rfl rfl 2 (by decide) (List.mem_of_getElem? (i := 4) rfl) rfl rfl dX4_breakLoop_109 ?_
        refine zi_get (pc := 112) (C := RX0) (T := TX0) (N := 6) (v := .ref (G.2.2 2 2)) F (hw_X4_breakLoop_X0) 2 rfl rfl 1 (by decide) (List.mem_of_getElem? (i := 10) rfl) rfl rfl dX4_breakLoop_112 ?_
        refine zi_iload_n (pc := 115) F dX4_breakLoop_115 1 rfl ?_
        refine zi_zald (pc := 116) (v := (E 1 k1_103.toNatClampNeg)) F 4 1 rfl rfl (zin (a := k1_103) (by omega) (by omega)) rfl dX4_breakLoop_116 ?_
        refine zi_aload_n (pc := 117) F dX4_breakLoop_117 0 rfl ?_
        refine zi_get (pc := 118) (C := RX4) (T := TX4) (N := 11) (v := .ref (G.2.2 2 0)) F (hw_X4_breakLoop_X4) 0 rfl rfl 2 (by decide) (List.mem_of_getElem? (i := 4) rfl) rfl rfl dX4_breakLoop_118 ?_
        refine zi_get (pc := 121) (C := RX0) (T := TX0) (N := 6) (v := .ref (G.2.2 2 3)) F (hw_X4_breakLoop_X0) 2 rfl rfl 2 (by decide) (List.mem_of_getElem? (i := 11) rfl) rfl rfl dX4_breakLoop_121 ?_
        refine zi_iload_n (pc := 124) F dX4_breakLoop_124 1 rfl ?_
        refine zi_iald (pc := 125) (v := (E 2 k1_103.toNatClampNeg)) F 5 0 rfl rfl (zin (a := k1_103) (by omega) (by omega)) rfl dX4_breakLoop_125 ?_
        refine zi_aload_n (pc := 126) F dX4_breakLoop_126 0 rfl ?_
        refine zi_iload_n (pc := 127) F dX4_breakLoop_127 1 rfl ?_
        have hM128 := c_X4_targetPlace l G k1_103 L T E V M104 K (hIT) (hIE)
        obtain ⟨r126, e127⟩ : ∃ z, mX4_targetPlace k1_103 T E = z := ⟨_, rfl⟩
        have hE := zbnd_cut hE e127
        rw [e127] at hM128
        refine zi_callVI (pc := 128) (rest := [.int (E 2 k1_103.toNatClampNeg), .int (E 1 k1_103.toNatClampNeg), .int (E 0 k1_103.toNatClampNeg), .ref (G.2.2 4 0)]) (ws' := zWL G L T E V M104 K) F hM128 (cwV 1 F.1.2.2.2.2 gX4_breakLoop_X4_targetPlace rfl rfl rfl hd_X4_targetPlace ⟨Nat.le_of_ble_eq_true rfl, Nat.le_of_ble_eq_true rfl⟩) 0 rfl rfl _ _ (zw_nil _) (zw_nil _).symm rfl rfl (Nat.le_of_ble_eq_true rfl) dX4_breakLoop_128 ⟨Nat.zero_le _, Nat.zero_le _⟩ ?_
        have hM131 := c_X1_write l G (E 0 k1_103.toNatClampNeg) (E 1 k1_103.toNatClampNeg) (E 2 k1_103.toNatClampNeg) r126 M104 K (hIM104)
        have pp132 := pp_X1_write (E 0 k1_103.toNatClampNeg) (E 1 k1_103.toNatClampNeg) (E 2 k1_103.toNatClampNeg) r126 M104 (hIM104)
        obtain ⟨M129, e130⟩ : ∃ z, mX1_write (E 0 k1_103.toNatClampNeg) (E 1 k1_103.toNatClampNeg) (E 2 k1_103.toNatClampNeg) r126 M104 = z := ⟨_, rfl⟩
        have hE := zbnd_cut hE e130
        rw [e130] at hM131
        rw [e130] at pp132
        have hIM129 := pp132
        obtain ⟨⟨i133, i134⟩, ⟨i135, i136⟩, ⟨i137, i138⟩⟩ := id hIM129
        refine zi_callVV (pc := 131) (rest := []) (ws' := zWL G L T E V M129 K) F hM131 (cwV 4 F.1.2.2.2.2 gX4_breakLoop_X1_write rfl rfl rfl hd_X1_write ⟨Nat.le_of_ble_eq_true rfl, Nat.le_of_ble_eq_true rfl⟩) 0 rfl rfl _ _ (zwL_M G L T E V M104 K) (zwL_M G L T E V M129 K).symm rfl rfl (Nat.le_of_ble_eq_true rfl) dX4_breakLoop_131 ⟨Nat.zero_le _, Nat.zero_le _⟩ ?_
        try have t141 := zt_add (a := k1_103) (b := 1) (by omega) (by omega)
        obtain ⟨y139, e140⟩ : ∃ z : Int32, (k1_103 + 1) = z := ⟨_, rfl⟩
        have hE := zbnd_cut hE e140
        have t142 := congrArg Int32.toInt e140
        refine zi_iinc (pc := 134) (lv' := [(0, .ref (G.2.2 0 0)), (1, .int y139)]) F dX4_breakLoop_134 1 rfl e140 (by decide) rfl ?_
        refine zi_goto (pc := 137) (tgt := 84) F dX4_breakLoop_137 (by decide) ?_
        refine zi_sub [0, 1] rfl ?_
        exact ih y139 M129 (⟨by (show 0 ≤ Int32.toInt y139; omega), by (show Int32.toInt y139 ≤ 12; omega), hIM129⟩) (by omega) _ hE hK
  obtain ⟨⟨k1_143, M144⟩, e145⟩ : ∃ z, mX4_breakLoop_L84 T E 13 0 M72 = z := ⟨_, rfl⟩
  have hE := zbnd2_cut hE e145
  refine hL84 13 0 M72 (⟨by (show 0 ≤ Int32.toInt 0; omega), by (show Int32.toInt 0 ≤ 12; omega), hIM72⟩) (by omega) _ e145 (fun hI146 => ?_)
  have hI146 : (0 ≤ Int32.toInt k1_143) ∧ (Int32.toInt k1_143 ≤ 12) ∧ (zIM M144) := hI146
  obtain ⟨i147, i148, hIM144⟩ := id hI146
  obtain ⟨⟨i149, i150⟩, ⟨i151, i152⟩, ⟨i153, i154⟩⟩ := id hIM144
  show zW p l e rmX4_breakLoop s m args below meth c 0 0 Q G.1 A 2 (zWL G L T E V M144 K) [(0, .ref (G.2.2 0 0)), (1, .int k1_143)] 140 []
  refine zi_aload_n (pc := 140) F dX4_breakLoop_140 0 rfl ?_
  refine zi_get (pc := 141) (C := RX4) (T := TX4) (N := 11) (v := .ref (G.2.2 4 0)) F (hw_X4_breakLoop_X4) 0 rfl rfl 4 (by decide) (List.mem_of_getElem? (i := 1) rfl) rfl rfl dX4_breakLoop_141 ?_
  have hM157 := c_X1_knowsState l G  M144 K (hIM144)
  have pp158 := pp_X1_knowsState  M144 K (hIM144)
  obtain ⟨r155, e156⟩ : ∃ z, mX1_knowsState M144 K = z := ⟨_, rfl⟩
  have hE := zbnd_cut hE e156
  rw [e156] at hM157
  rw [e156] at pp158
  have hbr155 := pp158
  refine zi_callVI (pc := 144) (rest := []) (ws' := zWL G L T E V M144 K) F hM157 (cwV 0 F.1.2.2.2.2 gX4_breakLoop_X1_knowsState rfl rfl rfl hd_X1_knowsState ⟨Nat.le_of_ble_eq_true rfl, Nat.le_of_ble_eq_true rfl⟩) 0 rfl rfl _ _ (zwL_M G L T E V M144 K) (zwL_M G L T E V M144 K).symm rfl rfl (Nat.le_of_ble_eq_true rfl) dX4_breakLoop_144 ⟨Nat.zero_le _, Nat.zero_le _⟩ ?_
  refine zi_if_eq (pc := 147) (tgt := 178) F dX4_breakLoop_147 (by decide) (fun c159 => ?_) (fun c159 => ?_)
  · have hE := zite_t hE c159
    have t160 := congrArg Int32.toInt c159
    refine zi_aload_n (pc := 178) F dX4_breakLoop_178 0 rfl ?_
    refine zi_get (pc := 179) (C := RX4) (T := TX4) (N := 11) (v := .ref (G.2.2 4 0)) F (hw_X4_breakLoop_X4) 0 rfl rfl 4 (by decide) (List.mem_of_getElem? (i := 1) rfl) rfl rfl dX4_breakLoop_179 ?_
    have hM164 := c_X1_keepState l G  M144 K (hIM144)
    have pp165 := pp_X1_keepState  M144 K (hIM144)
    obtain ⟨⟨M161, K162⟩, e163⟩ : ∃ z, mX1_keepState M144 K = z := ⟨_, rfl⟩
    have hE := zbnd2_cut hE e163
    rw [e163] at hM164
    rw [e163] at pp165
    have hIM161 := pp165
    have hIM161 : zIM M161 := hIM161
    obtain ⟨⟨i166, i167⟩, ⟨i168, i169⟩, ⟨i170, i171⟩⟩ := id hIM161
    refine zi_callVV (pc := 182) (rest := []) (ws' := zWL G L T E V M161 K162) F hM164 (cwV 0 F.1.2.2.2.2 gX4_breakLoop_X1_keepState rfl rfl rfl hd_X1_keepState ⟨Nat.le_of_ble_eq_true rfl, Nat.le_of_ble_eq_true rfl⟩) 0 rfl rfl _ _ (zwL_M G L T E V M144 K) (zwL_M G L T E V M161 K162).symm rfl rfl (Nat.le_of_ble_eq_true rfl) dX4_breakLoop_182 ⟨Nat.zero_le _, Nat.zero_le _⟩ ?_
    subst hE
    exact hret _ _ dX4_breakLoop_185
  · have hE := zite_f hE c159
    have t172 := zt_ne c159
    refine zi_aload_n (pc := 150) F dX4_breakLoop_150 0 rfl ?_
    refine zi_dup (pc := 151) F dX4_breakLoop_151 rfl ?_
    refine zi_get (pc := 152) (C := RX4) (T := TX4) (N := 11) (v := .int (L 9 0)) F (hw_X4_breakLoop_X4) 0 rfl rfl 9 (by decide) (List.mem_of_getElem? (i := 12) rfl) rfl rfl dX4_breakLoop_152 ?_
    refine zi_iconst (pc := 155) (v := 1) F dX4_breakLoop_155 rfl ?_
    refine zi_iadd (pc := 156) F dX4_breakLoop_156 ?_
    refine zi_put (pc := 157) (C := RX4) (T := TX4) (N := 11) (ty := .int) (ws' := zWL G (zsI L 9 ((L 9 0) + 1)) T E V M144 K) F (hw_X4_breakLoop_X4) tyX4 tyX4_ok nmX4 0 rfl rfl 9 (by decide) (List.mem_of_getElem? (i := 12) rfl) rfl rfl rfl rfl rfl (Nat.le_of_ble_eq_true rfl) rfl dX4_breakLoop_157 ?_
    refine zi_aload_n (pc := 160) F dX4_breakLoop_160 0 rfl ?_
    refine zi_get (pc := 161) (C := RX4) (T := TX4) (N := 11) (v := .ref (G.2.2 2 0)) F (hw_X4_breakLoop_X4) 0 rfl rfl 2 (by decide) (List.mem_of_getElem? (i := 4) rfl) rfl rfl dX4_breakLoop_161 ?_
    refine zi_iconst (pc := 164) (v := 0) F dX4_breakLoop_164 rfl ?_
    refine zi_put (pc := 165) (C := RX0) (T := TX0) (N := 6) (ty := .int) (ws' := zWL G (zsI L 9 ((L 9 0) + 1)) T (zsI E 5 0) V M144 K) F (hw_X4_breakLoop_X0) tyX0 tyX0_ok nmX0 2 rfl rfl 5 (by decide) (List.mem_of_getElem? (i := 5) rfl) rfl rfl rfl rfl rfl (Nat.le_of_ble_eq_true rfl) rfl dX4_breakLoop_165 ?_
    refine zi_aload_n (pc := 168) F dX4_breakLoop_168 0 rfl ?_
    refine zi_get (pc := 169) (C := RX4) (T := TX4) (N := 11) (v := .ref (G.2.2 4 0)) F (hw_X4_breakLoop_X4) 0 rfl rfl 4 (by decide) (List.mem_of_getElem? (i := 1) rfl) rfl rfl dX4_breakLoop_169 ?_
    have hM175 := c_X1_forget l G  M144 K (hIM144)
    have pp176 := pp_X1_forget  M144 (hIM144)
    obtain ⟨M173, e174⟩ : ∃ z, mX1_forget M144 = z := ⟨_, rfl⟩
    have hE := zbnd_cut hE e174
    rw [e174] at hM175
    rw [e174] at pp176
    have hIM173 := pp176
    obtain ⟨⟨i177, i178⟩, ⟨i179, i180⟩, ⟨i181, i182⟩⟩ := id hIM173
    refine zi_callVV (pc := 172) (rest := []) (ws' := zWL G (zsI L 9 ((L 9 0) + 1)) T (zsI E 5 0) V M173 K) F hM175 (cwV 0 F.1.2.2.2.2 gX4_breakLoop_X1_forget rfl rfl rfl hd_X1_forget ⟨Nat.le_of_ble_eq_true rfl, Nat.le_of_ble_eq_true rfl⟩) 0 rfl rfl _ _ (zwL_M G (zsI L 9 ((L 9 0) + 1)) T (zsI E 5 0) V M144 K) (zwL_M G (zsI L 9 ((L 9 0) + 1)) T (zsI E 5 0) V M173 K).symm rfl rfl (Nat.le_of_ble_eq_true rfl) dX4_breakLoop_172 ⟨Nat.zero_le _, Nat.zero_le _⟩ ?_
    refine zi_goto (pc := 175) (tgt := 185) F dX4_breakLoop_175 (by decide) ?_
    subst hE
    exact hret _ _ dX4_breakLoop_185
/-! X4_resolveTop -/
def mX4_resolveTop_S66 (y7 : Int32) (y10 : Int32) (y13 : Int32) (y16 : Int32) (L : zS_t) (T : zS_t) (E19 : zS_t) (V : zS_t) : Int32 × zS_t × zS_t × zS_t × zS_t := if y10 = 0 then (zbnd5 (mX4_cardEffect y7 y13 y16 L T E19 V) (fun r101 L102 T103 E104 V105 => (r101, L102, T103, E104, V105))) else (zbnd3 (mX4_triggerEffect y7 y13 L T) (fun r122 L123 T124 => (r122, L123, T124, E19, V)))
def mX4_resolveTop  (L : zS_t) (T : zS_t) (E : zS_t) (V : zS_t) (M : zS_t) (K : zS_t) : zS_t × zS_t × zS_t × zS_t × zS_t × zS_t := zbnd (((E 5 0) - 1)) (fun y1 => if 0 ≤ y1 then (zbnd ((E 0 y1.toNatClampNeg)) (fun y7 => zbnd ((E 1 y1.toNatClampNeg)) (fun y10 => zbnd ((E 2 y1.toNatClampNeg)) (fun y13 => zbnd ((E 3 y1.toNatClampNeg)) (fun y16 => zbnd (mX0_remove y1 E) (fun E19 => zbnd5 (mX4_resolveTop_S66 y7 y10 y13 y16 L T E19 V) (fun w48 L49 T50 E51 V52 => zbnd3 (mX4_raiseTriggers w48 L49 T50 E51 V52) (fun L138 E139 V140 => zbnd4 (mX4_breakLoop L138 T50 E139 M K) (fun L146 E147 M148 K149 => ((zsI (zsI L146 6 (L146 5 0)) 7 0), T50, E147, V140, M148, K149)))))))))) else (L, T, E, V, M, K))
set_option maxHeartbeats 4000000 in
set_option maxRecDepth 100000 in
theorem pp_X4_resolveTop  (L : zS_t) (T : zS_t) (E : zS_t) (V : zS_t) (M : zS_t) (K : zS_t) (hIT : zIT T) (hIE : zIE E) (hIM : zIM M) : (zIT ((mX4_resolveTop L T E V M K).2.1)) ∧ (zIE ((mX4_resolveTop L T E V M K).2.2.1)) ∧ (zIM ((mX4_resolveTop L T E V M K).2.2.2.2.1)) := by
  obtain ⟨X, hE⟩ : ∃ z, mX4_resolveTop L T E V M K = z := ⟨_, rfl⟩
  rw [hE]
  have k_0 : Int32.toInt 0 = 0 := by decide
  have k_1 : Int32.toInt 1 = 1 := by decide
  obtain ⟨i122, i123⟩ := id hIT
  obtain ⟨⟨i124, i125⟩, hIE_b1⟩ := id hIE
  obtain ⟨⟨i126, i127⟩, ⟨i128, i129⟩, ⟨i130, i131⟩⟩ := id hIM
  unfold mX4_resolveTop at hE
  try have t3 := zt_sub (a := (E 5 0)) (b := 1) (by omega) (by omega)
  obtain ⟨y1, e2⟩ : ∃ z : Int32, ((E 5 0) - 1) = z := ⟨_, rfl⟩
  have hE := zbnd_cut hE e2
  have t4 := congrArg Int32.toInt e2
  by_cases c5 : 0 ≤ y1
  · have hE := zite_t hE c5
    have t6 := zt_le c5
    obtain ⟨y7, e8⟩ : ∃ z : Int32, (E 0 y1.toNatClampNeg) = z := ⟨_, rfl⟩
    have hE := zbnd_cut hE e8
    have t9 := congrArg Int32.toInt e8
    obtain ⟨y10, e11⟩ : ∃ z : Int32, (E 1 y1.toNatClampNeg) = z := ⟨_, rfl⟩
    have hE := zbnd_cut hE e11
    have t12 := congrArg Int32.toInt e11
    have y10_b := hIE_b1 y1.toNatClampNeg
    rw [e11] at y10_b
    obtain ⟨y13, e14⟩ : ∃ z : Int32, (E 2 y1.toNatClampNeg) = z := ⟨_, rfl⟩
    have hE := zbnd_cut hE e14
    have t15 := congrArg Int32.toInt e14
    obtain ⟨y16, e17⟩ : ∃ z : Int32, (E 3 y1.toNatClampNeg) = z := ⟨_, rfl⟩
    have hE := zbnd_cut hE e17
    have t18 := congrArg Int32.toInt e17
    have pp22 := pp_X0_remove y1 E (hIE)
    obtain ⟨E19, e20⟩ : ∃ z, mX0_remove y1 E = z := ⟨_, rfl⟩
    have hE := zbnd_cut hE e20
    rw [e20] at pp22
    have hIE19 := pp22
    obtain ⟨⟨i23, i24⟩, hIE19_b1⟩ := id hIE19
    obtain ⟨⟨w48, L49, T50, E51, V52⟩, e53⟩ : ∃ z, mX4_resolveTop_S66 y7 y10 y13 y16 L T E19 V = z := ⟨_, rfl⟩
    have hE := zbnd5_cut hE e53
    have hQ54 : (zIT T50) ∧ (zIE E51) := by
      have hE := e53
      unfold mX4_resolveTop_S66 at hE
      by_cases c55 : y10 = 0
      · have hE := zite_t hE c55
        have t56 := congrArg Int32.toInt c55
        have pp64 := pp_X4_cardEffect y7 y13 y16 L T E19 V (hIT) (hIE19)
        obtain ⟨⟨r57, L58, T59, E60, V61⟩, e62⟩ : ∃ z, mX4_cardEffect y7 y13 y16 L T E19 V = z := ⟨_, rfl⟩
        have hE := zbnd5_cut hE e62
        rw [e62] at pp64
        obtain ⟨hIT59, hIE60⟩ := pp64
        have hIT59 : zIT T59 := hIT59
        have hIE60 : zIE E60 := hIE60
        obtain ⟨i65, i66⟩ := id hIT59
        obtain ⟨⟨i67, i68⟩, hIE60_b1⟩ := id hIE60
        obtain ⟨q69, hq70⟩ := zpair hE
        obtain ⟨q71, hq72⟩ := zpair hq70
        obtain ⟨q73, hq74⟩ := zpair hq72
        obtain ⟨q75, hq76⟩ := zpair hq74
        subst q69
        subst q71
        subst q73
        subst q75
        subst hq76
        exact ⟨hIT59, hIE60⟩
      · have hE := zite_f hE c55
        have t77 := zt_ne c55
        have pp83 := pp_X4_triggerEffect y7 y13 L T (hIT)
        obtain ⟨⟨r78, L79, T80⟩, e81⟩ : ∃ z, mX4_triggerEffect y7 y13 L T = z := ⟨_, rfl⟩
        have hE := zbnd3_cut hE e81
        rw [e81] at pp83
        have hIT80 := pp83
        have hIT80 : zIT T80 := hIT80
        obtain ⟨i84, i85⟩ := id hIT80
        obtain ⟨q86, hq87⟩ := zpair hE
        obtain ⟨q88, hq89⟩ := zpair hq87
        obtain ⟨q90, hq91⟩ := zpair hq89
        obtain ⟨q92, hq93⟩ := zpair hq91
        subst q86
        subst q88
        subst q90
        subst q92
        subst hq93
        exact ⟨hIT80, hIE19⟩
    obtain ⟨hIT50, hIE51⟩ := hQ54
    obtain ⟨i94, i95⟩ := id hIT50
    obtain ⟨⟨i96, i97⟩, hIE51_b1⟩ := id hIE51
    have pp103 := pp_X4_raiseTriggers w48 L49 T50 E51 V52 (hIT50) (hIE51)
    obtain ⟨⟨L98, E99, V100⟩, e101⟩ : ∃ z, mX4_raiseTriggers w48 L49 T50 E51 V52 = z := ⟨_, rfl⟩
    have hE := zbnd3_cut hE e101
    rw [e101] at pp103
    have hIE99 := pp103
    have hIE99 : zIE E99 := hIE99
    obtain ⟨⟨i104, i105⟩, hIE99_b1⟩ := id hIE99
    have pp112 := pp_X4_breakLoop  L98 T50 E99 M K (hIT50) (hIE99) (hIM)
    obtain ⟨⟨L106, E107, M108, K109⟩, e110⟩ : ∃ z, mX4_breakLoop L98 T50 E99 M K = z := ⟨_, rfl⟩
    have hE := zbnd4_cut hE e110
    rw [e110] at pp112
    obtain ⟨hIE107, hIM108⟩ := pp112
    have hIE107 : zIE E107 := hIE107
    have hIM108 : zIM M108 := hIM108
    obtain ⟨⟨i113, i114⟩, hIE107_b1⟩ := id hIE107
    obtain ⟨⟨i115, i116⟩, ⟨i117, i118⟩, ⟨i119, i120⟩⟩ := id hIM108
    subst hE
    exact ⟨hIT50, hIE107, hIM108⟩
  · have hE := zite_f hE c5
    have t121 := zt_nle c5
    subst hE
    exact ⟨hIT, hIE, hIM⟩
theorem hw_X4_resolveTop_X0 : ∀ w ∈ wsX00, w ∈ wsX4_resolveTop := fun w h => List.mem_cons_of_mem _ (List.mem_append_left _ (List.mem_append_left _ (List.mem_append_left _ (List.mem_append_right _ (h)))))
theorem hw_X4_resolveTop_X4 : ∀ w ∈ wsX40, w ∈ wsX4_resolveTop := fun w h => List.mem_cons_of_mem _ (List.mem_append_left _ (List.mem_append_left _ (List.mem_append_left _ (List.mem_append_left _ (List.mem_append_right _ (h))))))
abbrev rmX4_resolveTop : Room := { frames := 5, cells := 0, slots := 0, locals := 117 }
theorem hd_X4_resolveTop : yX4_resolveTop.cls = RX4 ∧ yX4_resolveTop.cls ≠ "java/lang/invoke/MethodHandle" ∧ yX4_resolveTop.cls ≠ "java/lang/invoke/VarHandle" ∧ (parseMethodDescriptor yX4_resolveTop.desc).map (fun d => d.parameters.length) = some 0 := by decide +kernel
set_option maxHeartbeats 4000000 in
set_option maxRecDepth 100000 in
theorem c_X4_resolveTop (l : Launch) (G : zG_t)  (L : zS_t) (T : zS_t) (E : zS_t) (V : zS_t) (M : zS_t) (K : zS_t) (hIT : zIT T) (hIE : zIE E) (hIM : zIM M) : zCV l G.1 (zty G) yX4_resolveTop wsX4_resolveTop rmX4_resolveTop [.ref (G.2.2 0 0)] (zWL G L T E V M K) (zWL G ((mX4_resolveTop L T E V M K).1) ((mX4_resolveTop L T E V M K).2.1) ((mX4_resolveTop L T E V M K).2.2.1) ((mX4_resolveTop L T E V M K).2.2.2.1) ((mX4_resolveTop L T E V M K).2.2.2.2.1) ((mX4_resolveTop L T E V M K).2.2.2.2.2)) := by
  obtain ⟨X, hE⟩ : ∃ z, mX4_resolveTop L T E V M K = z := ⟨_, rfl⟩
  rw [hE]
  refine zb_V (cc := cX4_resolveTop) (maxL := 6) (by decide) rfl (Nat.le_of_ble_eq_true rfl) ?_
  intro p e s m args below meth c Q A F hret
  show zW p l e rmX4_resolveTop s m args below meth c 0 0 Q G.1 A 6 (zWL G L T E V M K) [(0, .ref (G.2.2 0 0))] 0 []
  have k_0 : Int32.toInt 0 = 0 := by decide
  have k_1 : Int32.toInt 1 = 1 := by decide
  obtain ⟨i132, i133⟩ := id hIT
  obtain ⟨⟨i134, i135⟩, hIE_b1⟩ := id hIE
  obtain ⟨⟨i136, i137⟩, ⟨i138, i139⟩, ⟨i140, i141⟩⟩ := id hIM
  unfold mX4_resolveTop at hE
  refine zi_aload_n (pc := 0) F dX4_resolveTop_0 0 rfl ?_
  refine zi_get (pc := 1) (C := RX4) (T := TX4) (N := 11) (v := .ref (G.2.2 2 0)) F (hw_X4_resolveTop_X4) 0 rfl rfl 2 (by decide) (List.mem_of_getElem? (i := 1) rfl) rfl rfl dX4_resolveTop_1 ?_
  refine zi_get (pc := 4) (C := RX0) (T := TX0) (N := 6) (v := .int (E 5 0)) F (hw_X4_resolveTop_X0) 2 rfl rfl 5 (by decide) (List.mem_of_getElem? (i := 2) rfl) rfl rfl dX4_resolveTop_4 ?_
  refine zi_iconst (pc := 7) (v := 1) F dX4_resolveTop_7 rfl ?_
  refine zi_isub (pc := 8) F dX4_resolveTop_8 ?_
  try have t3 := zt_sub (a := (E 5 0)) (b := 1) (by omega) (by omega)
  refine zi_topi (fun y1 e2 => ?_)
  have hE := zbnd_cut hE e2
  have t4 := congrArg Int32.toInt e2
  refine zi_istore_n (pc := 9) (lv' := [(0, .ref (G.2.2 0 0)), (1, .int y1)]) F dX4_resolveTop_9 (by decide) rfl ?_
  refine zi_iload_n (pc := 10) F dX4_resolveTop_10 1 rfl ?_
  refine zi_if_ge (pc := 11) (tgt := 15) F dX4_resolveTop_11 (by decide) (fun c5 => ?_) (fun c5 => ?_)
  · have hE := zite_t hE c5
    have t6 := zt_le c5
    refine zi_aload_n (pc := 15) F dX4_resolveTop_15 0 rfl ?_
    refine zi_get (pc := 16) (C := RX4) (T := TX4) (N := 11) (v := .ref (G.2.2 2 0)) F (hw_X4_resolveTop_X4) 0 rfl rfl 2 (by decide) (List.mem_of_getElem? (i := 1) rfl) rfl rfl dX4_resolveTop_16 ?_
    refine zi_get (pc := 19) (C := RX0) (T := TX0) (N := 6) (v := .ref (G.2.2 2 1)) F (hw_X4_resolveTop_X0) 2 rfl rfl 0 (by decide) (List.mem_of_getElem? (i := 3) rfl) rfl rfl dX4_resolveTop_19 ?_
    refine zi_iload_n (pc := 22) F dX4_resolveTop_22 1 rfl ?_
    refine zi_iald (pc := 23) (v := (E 0 y1.toNatClampNeg)) F 3 0 rfl rfl (zin (a := y1) (by omega) (by omega)) rfl dX4_resolveTop_23 ?_
    refine zi_topi (fun y7 e8 => ?_)
    have hE := zbnd_cut hE e8
    have t9 := congrArg Int32.toInt e8
    refine zi_istore_n (pc := 24) (lv' := [(0, .ref (G.2.2 0 0)), (1, .int y1), (2, .int y7)]) F dX4_resolveTop_24 (by decide) rfl ?_
    refine zi_aload_n (pc := 25) F dX4_resolveTop_25 0 rfl ?_
    refine zi_get (pc := 26) (C := RX4) (T := TX4) (N := 11) (v := .ref (G.2.2 2 0)) F (hw_X4_resolveTop_X4) 0 rfl rfl 2 (by decide) (List.mem_of_getElem? (i := 1) rfl) rfl rfl dX4_resolveTop_26 ?_
    refine zi_get (pc := 29) (C := RX0) (T := TX0) (N := 6) (v := .ref (G.2.2 2 2)) F (hw_X4_resolveTop_X0) 2 rfl rfl 1 (by decide) (List.mem_of_getElem? (i := 4) rfl) rfl rfl dX4_resolveTop_29 ?_
    refine zi_iload_n (pc := 32) F dX4_resolveTop_32 1 rfl ?_
    refine zi_zald (pc := 33) (v := (E 1 y1.toNatClampNeg)) F 4 1 rfl rfl (zin (a := y1) (by omega) (by omega)) rfl dX4_resolveTop_33 ?_
    refine zi_topi (fun y10 e11 => ?_)
    have hE := zbnd_cut hE e11
    have t12 := congrArg Int32.toInt e11
    have y10_b := hIE_b1 y1.toNatClampNeg
    rw [e11] at y10_b
    refine zi_istore_n (pc := 34) (lv' := [(0, .ref (G.2.2 0 0)), (1, .int y1), (2, .int y7), (3, .int y10)]) F dX4_resolveTop_34 (by decide) rfl ?_
    refine zi_aload_n (pc := 35) F dX4_resolveTop_35 0 rfl ?_
    refine zi_get (pc := 36) (C := RX4) (T := TX4) (N := 11) (v := .ref (G.2.2 2 0)) F (hw_X4_resolveTop_X4) 0 rfl rfl 2 (by decide) (List.mem_of_getElem? (i := 1) rfl) rfl rfl dX4_resolveTop_36 ?_
    refine zi_get (pc := 39) (C := RX0) (T := TX0) (N := 6) (v := .ref (G.2.2 2 3)) F (hw_X4_resolveTop_X0) 2 rfl rfl 2 (by decide) (List.mem_of_getElem? (i := 5) rfl) rfl rfl dX4_resolveTop_39 ?_
    refine zi_iload_n (pc := 42) F dX4_resolveTop_42 1 rfl ?_
    refine zi_iald (pc := 43) (v := (E 2 y1.toNatClampNeg)) F 5 0 rfl rfl (zin (a := y1) (by omega) (by omega)) rfl dX4_resolveTop_43 ?_
    refine zi_topi (fun y13 e14 => ?_)
    have hE := zbnd_cut hE e14
    have t15 := congrArg Int32.toInt e14
    refine zi_istore (pc := 44) (lv' := [(0, .ref (G.2.2 0 0)), (1, .int y1), (2, .int y7), (3, .int y10), (4, .int y13)]) F dX4_resolveTop_44 (by decide) rfl ?_
    refine zi_aload_n (pc := 46) F dX4_resolveTop_46 0 rfl ?_
    refine zi_get (pc := 47) (C := RX4) (T := TX4) (N := 11) (v := .ref (G.2.2 2 0)) F (hw_X4_resolveTop_X4) 0 rfl rfl 2 (by decide) (List.mem_of_getElem? (i := 1) rfl) rfl rfl dX4_resolveTop_47 ?_
    refine zi_get (pc := 50) (C := RX0) (T := TX0) (N := 6) (v := .ref (G.2.2 2 4)) F (hw_X4_resolveTop_X0) 2 rfl rfl 3 (by decide) (List.mem_of_getElem? (i := 6) rfl) rfl rfl dX4_resolveTop_50 ?_
    refine zi_iload_n (pc := 53) F dX4_resolveTop_53 1 rfl ?_
    refine zi_iald (pc := 54) (v := (E 3 y1.toNatClampNeg)) F 6 0 rfl rfl (zin (a := y1) (by omega) (by omega)) rfl dX4_resolveTop_54 ?_
    refine zi_topi (fun y16 e17 => ?_)
    have hE := zbnd_cut hE e17
    have t18 := congrArg Int32.toInt e17
    refine zi_istore (pc := 55) (lv' := [(0, .ref (G.2.2 0 0)), (1, .int y1), (2, .int y7), (3, .int y10), (4, .int y13), (5, .int y16)]) F dX4_resolveTop_55 (by decide) rfl ?_
    refine zi_aload_n (pc := 57) F dX4_resolveTop_57 0 rfl ?_
    refine zi_get (pc := 58) (C := RX4) (T := TX4) (N := 11) (v := .ref (G.2.2 2 0)) F (hw_X4_resolveTop_X4) 0 rfl rfl 2 (by decide) (List.mem_of_getElem? (i := 1) rfl) rfl rfl dX4_resolveTop_58 ?_
    refine zi_iload_n (pc := 61) F dX4_resolveTop_61 1 rfl ?_
    have hM21 := c_X0_remove l G y1 E (hIE)
    have pp22 := pp_X0_remove y1 E (hIE)
    obtain ⟨E19, e20⟩ : ∃ z, mX0_remove y1 E = z := ⟨_, rfl⟩
    have hE := zbnd_cut hE e20
    rw [e20] at hM21
    rw [e20] at pp22
    have hIE19 := pp22
    obtain ⟨⟨i23, i24⟩, hIE19_b1⟩ := id hIE19
    refine zi_callVV (pc := 62) (rest := []) (ws' := zWL G L T E19 V M K) F hM21 (cwV 1 F.1.2.2.2.2 gX4_resolveTop_X0_remove rfl rfl rfl hd_X0_remove ⟨Nat.le_of_ble_eq_true rfl, Nat.le_of_ble_eq_true rfl⟩) 0 rfl rfl _ _ (zwL_E G L T E V M K) (zwL_E G L T E19 V M K).symm rfl rfl (Nat.le_of_ble_eq_true rfl) dX4_resolveTop_62 ⟨Nat.zero_le _, Nat.zero_le _⟩ ?_
    refine zi_aload_n (pc := 65) F dX4_resolveTop_65 0 rfl ?_
    obtain ⟨⟨w48, L49, T50, E51, V52⟩, e53⟩ : ∃ z, mX4_resolveTop_S66 y7 y10 y13 y16 L T E19 V = z := ⟨_, rfl⟩
    have hE := zbnd5_cut hE e53
    have hQ54 : (zIT T50) ∧ (zIE E51) := by
      have hE := e53
      unfold mX4_resolveTop_S66 at hE
      by_cases c55 : y10 = 0
      · have hE := zite_t hE c55
        have t56 := congrArg Int32.toInt c55
        have pp64 := pp_X4_cardEffect y7 y13 y16 L T E19 V (hIT) (hIE19)
        obtain ⟨⟨r57, L58, T59, E60, V61⟩, e62⟩ : ∃ z, mX4_cardEffect y7 y13 y16 L T E19 V = z := ⟨_, rfl⟩
        have hE := zbnd5_cut hE e62
        rw [e62] at pp64
        obtain ⟨hIT59, hIE60⟩ := pp64
        have hIT59 : zIT T59 := hIT59
        have hIE60 : zIE E60 := hIE60
        obtain ⟨i65, i66⟩ := id hIT59
        obtain ⟨⟨i67, i68⟩, hIE60_b1⟩ := id hIE60
        obtain ⟨q69, hq70⟩ := zpair hE
        obtain ⟨q71, hq72⟩ := zpair hq70
        obtain ⟨q73, hq74⟩ := zpair hq72
        obtain ⟨q75, hq76⟩ := zpair hq74
        subst q69
        subst q71
        subst q73
        subst q75
        subst hq76
        exact ⟨hIT59, hIE60⟩
      · have hE := zite_f hE c55
        have t77 := zt_ne c55
        have pp83 := pp_X4_triggerEffect y7 y13 L T (hIT)
        obtain ⟨⟨r78, L79, T80⟩, e81⟩ : ∃ z, mX4_triggerEffect y7 y13 L T = z := ⟨_, rfl⟩
        have hE := zbnd3_cut hE e81
        rw [e81] at pp83
        have hIT80 := pp83
        have hIT80 : zIT T80 := hIT80
        obtain ⟨i84, i85⟩ := id hIT80
        obtain ⟨q86, hq87⟩ := zpair hE
        obtain ⟨q88, hq89⟩ := zpair hq87
        obtain ⟨q90, hq91⟩ := zpair hq89
        obtain ⟨q92, hq93⟩ := zpair hq91
        subst q86
        subst q88
        subst q90
        subst q92
        subst hq93
        exact ⟨hIT80, hIE19⟩
    obtain ⟨hIT50, hIE51⟩ := hQ54
    obtain ⟨i94, i95⟩ := id hIT50
    obtain ⟨⟨i96, i97⟩, hIE51_b1⟩ := id hIE51
    have hK98 : zW p l e rmX4_resolveTop s m args below meth c 0 0 Q G.1 A 6 (zWL G L49 T50 E51 V52 M K) [(0, .ref (G.2.2 0 0)), (1, .int y1), (2, .int y7), (3, .int y10), (4, .int y13), (5, .int y16)] 89 [.int w48, .ref (G.2.2 0 0)] → zW p l e rmX4_resolveTop s m args below meth c 0 0 Q G.1 A 6 (zWL G L T E19 V M K) [(0, .ref (G.2.2 0 0)), (1, .int y1), (2, .int y7), (3, .int y10), (4, .int y13), (5, .int y16)] 66 [.ref (G.2.2 0 0)] := by
      intro hK
      have hE := e53
      unfold mX4_resolveTop_S66 at hE
      refine zi_iload_n (pc := 66) F dX4_resolveTop_66 3 rfl ?_
      refine zi_if_eq (pc := 67) (tgt := 80) F dX4_resolveTop_67 (by decide) (fun c99 => ?_) (fun c99 => ?_)
      · have hE := zite_t hE c99
        have t100 := congrArg Int32.toInt c99
        refine zi_aload_n (pc := 80) F dX4_resolveTop_80 0 rfl ?_
        refine zi_iload_n (pc := 81) F dX4_resolveTop_81 2 rfl ?_
        refine zi_iload (pc := 82) F dX4_resolveTop_82 4 rfl ?_
        refine zi_iload (pc := 84) F dX4_resolveTop_84 5 rfl ?_
        have hM107 := c_X4_cardEffect l G y7 y13 y16 L T E19 V M K (hIT) (hIE19)
        have pp108 := pp_X4_cardEffect y7 y13 y16 L T E19 V (hIT) (hIE19)
        obtain ⟨⟨r101, L102, T103, E104, V105⟩, e106⟩ : ∃ z, mX4_cardEffect y7 y13 y16 L T E19 V = z := ⟨_, rfl⟩
        have hE := zbnd5_cut hE e106
        rw [e106] at hM107
        rw [e106] at pp108
        obtain ⟨hIT103, hIE104⟩ := pp108
        have hIT103 : zIT T103 := hIT103
        have hIE104 : zIE E104 := hIE104
        obtain ⟨i109, i110⟩ := id hIT103
        obtain ⟨⟨i111, i112⟩, hIE104_b1⟩ := id hIE104
        refine zi_callVI (pc := 86) (rest := [.ref (G.2.2 0 0)]) (ws' := zWL G L102 T103 E104 V105 M K) F hM107 (cwV 3 F.1.2.2.2.2 gX4_resolveTop_X4_cardEffect rfl rfl rfl hd_X4_cardEffect ⟨Nat.le_of_ble_eq_true rfl, Nat.le_of_ble_eq_true rfl⟩) 0 rfl rfl _ _ (zw_nil _) (zw_nil _).symm rfl rfl (Nat.le_of_ble_eq_true rfl) dX4_resolveTop_86 ⟨Nat.zero_le _, Nat.zero_le _⟩ ?_
        obtain ⟨q113, hq114⟩ := zpair hE
        obtain ⟨q115, hq116⟩ := zpair hq114
        obtain ⟨q117, hq118⟩ := zpair hq116
        obtain ⟨q119, hq120⟩ := zpair hq118
        subst q113
        subst q115
        subst q117
        subst q119
        subst hq120
        exact zi_sub [0, 1, 2, 3, 4, 5] rfl hK
      · have hE := zite_f hE c99
        have t121 := zt_ne c99
        refine zi_aload_n (pc := 70) F dX4_resolveTop_70 0 rfl ?_
        refine zi_iload_n (pc := 71) F dX4_resolveTop_71 2 rfl ?_
        refine zi_iload (pc := 72) F dX4_resolveTop_72 4 rfl ?_
        have hM126 := c_X4_triggerEffect l G y7 y13 L T E19 V M K (hIT)
        have pp127 := pp_X4_triggerEffect y7 y13 L T (hIT)
        obtain ⟨⟨r122, L123, T124⟩, e125⟩ : ∃ z, mX4_triggerEffect y7 y13 L T = z := ⟨_, rfl⟩
        have hE := zbnd3_cut hE e125
        rw [e125] at hM126
        rw [e125] at pp127
        have hIT124 := pp127
        have hIT124 : zIT T124 := hIT124
        obtain ⟨i128, i129⟩ := id hIT124
        refine zi_callVI (pc := 74) (rest := [.ref (G.2.2 0 0)]) (ws' := zWL G L123 T124 E19 V M K) F hM126 (cwV 2 F.1.2.2.2.2 gX4_resolveTop_X4_triggerEffect rfl rfl rfl hd_X4_triggerEffect ⟨Nat.le_of_ble_eq_true rfl, Nat.le_of_ble_eq_true rfl⟩) 0 rfl rfl _ _ (zw_nil _) (zw_nil _).symm rfl rfl (Nat.le_of_ble_eq_true rfl) dX4_resolveTop_74 ⟨Nat.zero_le _, Nat.zero_le _⟩ ?_
        refine zi_goto (pc := 77) (tgt := 89) F dX4_resolveTop_77 (by decide) ?_
        obtain ⟨q130, hq131⟩ := zpair hE
        obtain ⟨q132, hq133⟩ := zpair hq131
        obtain ⟨q134, hq135⟩ := zpair hq133
        obtain ⟨q136, hq137⟩ := zpair hq135
        subst q130
        subst q132
        subst q134
        subst q136
        subst hq137
        exact zi_sub [0, 1, 2, 3, 4, 5] rfl hK
    refine hK98 ?_
    have hM142 := c_X4_raiseTriggers l G w48 L49 T50 E51 V52 M K (hIT50) (hIE51)
    have pp143 := pp_X4_raiseTriggers w48 L49 T50 E51 V52 (hIT50) (hIE51)
    obtain ⟨⟨L138, E139, V140⟩, e141⟩ : ∃ z, mX4_raiseTriggers w48 L49 T50 E51 V52 = z := ⟨_, rfl⟩
    have hE := zbnd3_cut hE e141
    rw [e141] at hM142
    rw [e141] at pp143
    have hIE139 := pp143
    have hIE139 : zIE E139 := hIE139
    obtain ⟨⟨i144, i145⟩, hIE139_b1⟩ := id hIE139
    refine zi_callVV (pc := 89) (rest := []) (ws' := zWL G L138 T50 E139 V140 M K) F hM142 (cwV 1 F.1.2.2.2.2 gX4_resolveTop_X4_raiseTriggers rfl rfl rfl hd_X4_raiseTriggers ⟨Nat.le_of_ble_eq_true rfl, Nat.le_of_ble_eq_true rfl⟩) 0 rfl rfl _ _ (zw_nil _) (zw_nil _).symm rfl rfl (Nat.le_of_ble_eq_true rfl) dX4_resolveTop_89 ⟨Nat.zero_le _, Nat.zero_le _⟩ ?_
    refine zi_aload_n (pc := 92) F dX4_resolveTop_92 0 rfl ?_
    have hM151 := c_X4_breakLoop l G  L138 T50 E139 V140 M K (hIT50) (hIE139) (hIM)
    have pp152 := pp_X4_breakLoop  L138 T50 E139 M K (hIT50) (hIE139) (hIM)
    obtain ⟨⟨L146, E147, M148, K149⟩, e150⟩ : ∃ z, mX4_breakLoop L138 T50 E139 M K = z := ⟨_, rfl⟩
    have hE := zbnd4_cut hE e150
    rw [e150] at hM151
    rw [e150] at pp152
    obtain ⟨hIE147, hIM148⟩ := pp152
    have hIE147 : zIE E147 := hIE147
    have hIM148 : zIM M148 := hIM148
    obtain ⟨⟨i153, i154⟩, hIE147_b1⟩ := id hIE147
    obtain ⟨⟨i155, i156⟩, ⟨i157, i158⟩, ⟨i159, i160⟩⟩ := id hIM148
    refine zi_callVV (pc := 93) (rest := []) (ws' := zWL G L146 T50 E147 V140 M148 K149) F hM151 (cwV 0 F.1.2.2.2.2 gX4_resolveTop_X4_breakLoop rfl rfl rfl hd_X4_breakLoop ⟨Nat.le_of_ble_eq_true rfl, Nat.le_of_ble_eq_true rfl⟩) 0 rfl rfl _ _ (zw_nil _) (zw_nil _).symm rfl rfl (Nat.le_of_ble_eq_true rfl) dX4_resolveTop_93 ⟨Nat.zero_le _, Nat.zero_le _⟩ ?_
    refine zi_aload_n (pc := 96) F dX4_resolveTop_96 0 rfl ?_
    refine zi_iconst (pc := 97) (v := 0) F dX4_resolveTop_97 rfl ?_
    refine zi_put (pc := 98) (C := RX4) (T := TX4) (N := 11) (ty := .int) (ws' := zWL G (zsI L146 7 0) T50 E147 V140 M148 K149) F (hw_X4_resolveTop_X4) tyX4 tyX4_ok nmX4 0 rfl rfl 7 (by decide) (List.mem_of_getElem? (i := 7) rfl) rfl rfl rfl rfl rfl (Nat.le_of_ble_eq_true rfl) rfl dX4_resolveTop_98 ?_
    refine zi_aload_n (pc := 101) F dX4_resolveTop_101 0 rfl ?_
    refine zi_aload_n (pc := 102) F dX4_resolveTop_102 0 rfl ?_
    refine zi_get (pc := 103) (C := RX4) (T := TX4) (N := 11) (v := .int (L146 5 0)) F (hw_X4_resolveTop_X4) 0 rfl rfl 5 (by decide) (List.mem_of_getElem? (i := 8) rfl) rfl rfl dX4_resolveTop_103 ?_
    refine zi_put (pc := 106) (C := RX4) (T := TX4) (N := 11) (ty := .int) (ws' := zWL G (zsI (zsI L146 6 (L146 5 0)) 7 0) T50 E147 V140 M148 K149) F (hw_X4_resolveTop_X4) tyX4 tyX4_ok nmX4 0 rfl rfl 6 (by decide) (List.mem_of_getElem? (i := 9) rfl) rfl rfl rfl rfl rfl (Nat.le_of_ble_eq_true rfl) rfl dX4_resolveTop_106 ?_
    subst hE
    exact hret _ _ dX4_resolveTop_109
  · have hE := zite_f hE c5
    have t161 := zt_nle c5
    subst hE
    exact hret _ _ dX4_resolveTop_14
/-! X4_beginTurn -/
def mX4_beginTurn  (L : zS_t) (T : zS_t) (E : zS_t) (V : zS_t) (M : zS_t) : zS_t × zS_t × zS_t × zS_t := zbnd (mX4_nextPlayer (L 5 0)) (fun r1 => zbnd (mX1_forget M) (fun M4 => zbnd (mX4_pay r1 3 (zsI (zsI (zsI (zsI L 5 r1) 6 r1) 7 0) 8 ((L 8 0) + 1))) (fun L14 => zbnd3 (mX4_raiseTriggers 3 L14 T E V) (fun L17 E18 V19 => (L17, E18, V19, M4)))))
set_option maxHeartbeats 4000000 in
set_option maxRecDepth 100000 in
theorem pp_X4_beginTurn  (L : zS_t) (T : zS_t) (E : zS_t) (V : zS_t) (M : zS_t) (hIT : zIT T) (hIE : zIE E) (hIM : zIM M) : (zIE ((mX4_beginTurn L T E V M).2.1)) ∧ (zIM ((mX4_beginTurn L T E V M).2.2.2)) := by
  obtain ⟨X, hE⟩ : ∃ z, mX4_beginTurn L T E V M = z := ⟨_, rfl⟩
  rw [hE]
  have k_0 : Int32.toInt 0 = 0 := by decide
  have k_1 : Int32.toInt 1 = 1 := by decide
  have k_3 : Int32.toInt 3 = 3 := by decide
  obtain ⟨i25, i26⟩ := id hIT
  obtain ⟨⟨i27, i28⟩, hIE_b1⟩ := id hIE
  obtain ⟨⟨i29, i30⟩, ⟨i31, i32⟩, ⟨i33, i34⟩⟩ := id hIM
  unfold mX4_beginTurn at hE
  obtain ⟨r1, e2⟩ : ∃ z, mX4_nextPlayer (L 5 0) = z := ⟨_, rfl⟩
  have hE := zbnd_cut hE e2
  have pp7 := pp_X1_forget  M (hIM)
  obtain ⟨M4, e5⟩ : ∃ z, mX1_forget M = z := ⟨_, rfl⟩
  have hE := zbnd_cut hE e5
  rw [e5] at pp7
  have hIM4 := pp7
  obtain ⟨⟨i8, i9⟩, ⟨i10, i11⟩, ⟨i12, i13⟩⟩ := id hIM4
  obtain ⟨L14, e15⟩ : ∃ z, mX4_pay r1 3 (zsI (zsI (zsI (zsI L 5 r1) 6 r1) 7 0) 8 ((L 8 0) + 1)) = z := ⟨_, rfl⟩
  have hE := zbnd_cut hE e15
  have pp22 := pp_X4_raiseTriggers 3 L14 T E V (hIT) (hIE)
  obtain ⟨⟨L17, E18, V19⟩, e20⟩ : ∃ z, mX4_raiseTriggers 3 L14 T E V = z := ⟨_, rfl⟩
  have hE := zbnd3_cut hE e20
  rw [e20] at pp22
  have hIE18 := pp22
  have hIE18 : zIE E18 := hIE18
  obtain ⟨⟨i23, i24⟩, hIE18_b1⟩ := id hIE18
  subst hE
  exact ⟨hIE18, hIM4⟩
theorem hw_X4_beginTurn_X4 : ∀ w ∈ wsX40, w ∈ wsX4_beginTurn := fun w h => List.mem_cons_of_mem _ (List.mem_append_left _ (List.mem_append_left _ (List.mem_append_left _ (List.mem_append_left _ (List.mem_append_right _ (h))))))
abbrev rmX4_beginTurn : Room := { frames := 4, cells := 0, slots := 0, locals := 99 }
theorem hd_X4_beginTurn : yX4_beginTurn.cls = RX4 ∧ yX4_beginTurn.cls ≠ "java/lang/invoke/MethodHandle" ∧ yX4_beginTurn.cls ≠ "java/lang/invoke/VarHandle" ∧ (parseMethodDescriptor yX4_beginTurn.desc).map (fun d => d.parameters.length) = some 0 := by decide +kernel
set_option maxHeartbeats 4000000 in
set_option maxRecDepth 100000 in
theorem c_X4_beginTurn (l : Launch) (G : zG_t)  (L : zS_t) (T : zS_t) (E : zS_t) (V : zS_t) (M : zS_t) (K : zS_t) (hIT : zIT T) (hIE : zIE E) (hIM : zIM M) : zCV l G.1 (zty G) yX4_beginTurn wsX4_beginTurn rmX4_beginTurn [.ref (G.2.2 0 0)] (zWL G L T E V M K) (zWL G ((mX4_beginTurn L T E V M).1) T ((mX4_beginTurn L T E V M).2.1) ((mX4_beginTurn L T E V M).2.2.1) ((mX4_beginTurn L T E V M).2.2.2) K) := by
  obtain ⟨X, hE⟩ : ∃ z, mX4_beginTurn L T E V M = z := ⟨_, rfl⟩
  rw [hE]
  refine zb_V (cc := cX4_beginTurn) (maxL := 1) (by decide) rfl (Nat.le_of_ble_eq_true rfl) ?_
  intro p e s m args below meth c Q A F hret
  show zW p l e rmX4_beginTurn s m args below meth c 0 0 Q G.1 A 1 (zWL G L T E V M K) [(0, .ref (G.2.2 0 0))] 0 []
  have k_0 : Int32.toInt 0 = 0 := by decide
  have k_1 : Int32.toInt 1 = 1 := by decide
  have k_3 : Int32.toInt 3 = 3 := by decide
  obtain ⟨i35, i36⟩ := id hIT
  obtain ⟨⟨i37, i38⟩, hIE_b1⟩ := id hIE
  obtain ⟨⟨i39, i40⟩, ⟨i41, i42⟩, ⟨i43, i44⟩⟩ := id hIM
  unfold mX4_beginTurn at hE
  refine zi_aload_n (pc := 0) F dX4_beginTurn_0 0 rfl ?_
  refine zi_aload_n (pc := 1) F dX4_beginTurn_1 0 rfl ?_
  refine zi_get (pc := 2) (C := RX4) (T := TX4) (N := 11) (v := .int (L 5 0)) F (hw_X4_beginTurn_X4) 0 rfl rfl 5 (by decide) (List.mem_of_getElem? (i := 1) rfl) rfl rfl dX4_beginTurn_2 ?_
  have hM3 := c_X4_nextPlayer l G (L 5 0)  
  obtain ⟨r1, e2⟩ : ∃ z, mX4_nextPlayer (L 5 0) = z := ⟨_, rfl⟩
  have hE := zbnd_cut hE e2
  rw [e2] at hM3
  refine zi_callSI (pc := 5) (rest := [.ref (G.2.2 0 0)]) (ws' := zWL G L T E V M K) F hM3 (va_cwS 1 F.1.2.2.2.2 gX4_beginTurn_X4_nextPlayer rfl rfl rfl hd_X4_nextPlayer.2 ⟨Nat.le_of_ble_eq_true rfl, Nat.le_of_ble_eq_true rfl⟩) _ _ rfl rfl rfl rfl (Nat.le_of_ble_eq_true rfl) dX4_beginTurn_5 ⟨Nat.zero_le _, Nat.zero_le _⟩ ?_
  refine zi_put (pc := 8) (C := RX4) (T := TX4) (N := 11) (ty := .int) (ws' := zWL G (zsI L 5 r1) T E V M K) F (hw_X4_beginTurn_X4) tyX4 tyX4_ok nmX4 0 rfl rfl 5 (by decide) (List.mem_of_getElem? (i := 1) rfl) rfl rfl rfl rfl rfl (Nat.le_of_ble_eq_true rfl) rfl dX4_beginTurn_8 ?_
  refine zi_aload_n (pc := 11) F dX4_beginTurn_11 0 rfl ?_
  refine zi_aload_n (pc := 12) F dX4_beginTurn_12 0 rfl ?_
  refine zi_get (pc := 13) (C := RX4) (T := TX4) (N := 11) (v := .int r1) F (hw_X4_beginTurn_X4) 0 rfl rfl 5 (by decide) (List.mem_of_getElem? (i := 1) rfl) rfl rfl dX4_beginTurn_13 ?_
  refine zi_put (pc := 16) (C := RX4) (T := TX4) (N := 11) (ty := .int) (ws' := zWL G (zsI (zsI L 5 r1) 6 r1) T E V M K) F (hw_X4_beginTurn_X4) tyX4 tyX4_ok nmX4 0 rfl rfl 6 (by decide) (List.mem_of_getElem? (i := 2) rfl) rfl rfl rfl rfl rfl (Nat.le_of_ble_eq_true rfl) rfl dX4_beginTurn_16 ?_
  refine zi_aload_n (pc := 19) F dX4_beginTurn_19 0 rfl ?_
  refine zi_iconst (pc := 20) (v := 0) F dX4_beginTurn_20 rfl ?_
  refine zi_put (pc := 21) (C := RX4) (T := TX4) (N := 11) (ty := .int) (ws' := zWL G (zsI (zsI (zsI L 5 r1) 6 r1) 7 0) T E V M K) F (hw_X4_beginTurn_X4) tyX4 tyX4_ok nmX4 0 rfl rfl 7 (by decide) (List.mem_of_getElem? (i := 3) rfl) rfl rfl rfl rfl rfl (Nat.le_of_ble_eq_true rfl) rfl dX4_beginTurn_21 ?_
  refine zi_aload_n (pc := 24) F dX4_beginTurn_24 0 rfl ?_
  refine zi_dup (pc := 25) F dX4_beginTurn_25 rfl ?_
  refine zi_get (pc := 26) (C := RX4) (T := TX4) (N := 11) (v := .int (L 8 0)) F (hw_X4_beginTurn_X4) 0 rfl rfl 8 (by decide) (List.mem_of_getElem? (i := 4) rfl) rfl rfl dX4_beginTurn_26 ?_
  refine zi_iconst (pc := 29) (v := 1) F dX4_beginTurn_29 rfl ?_
  refine zi_iadd (pc := 30) F dX4_beginTurn_30 ?_
  refine zi_put (pc := 31) (C := RX4) (T := TX4) (N := 11) (ty := .int) (ws' := zWL G (zsI (zsI (zsI (zsI L 5 r1) 6 r1) 7 0) 8 ((L 8 0) + 1)) T E V M K) F (hw_X4_beginTurn_X4) tyX4 tyX4_ok nmX4 0 rfl rfl 8 (by decide) (List.mem_of_getElem? (i := 4) rfl) rfl rfl rfl rfl rfl (Nat.le_of_ble_eq_true rfl) rfl dX4_beginTurn_31 ?_
  refine zi_aload_n (pc := 34) F dX4_beginTurn_34 0 rfl ?_
  refine zi_get (pc := 35) (C := RX4) (T := TX4) (N := 11) (v := .ref (G.2.2 4 0)) F (hw_X4_beginTurn_X4) 0 rfl rfl 4 (by decide) (List.mem_of_getElem? (i := 5) rfl) rfl rfl dX4_beginTurn_35 ?_
  have hM6 := c_X1_forget l G  M K (hIM)
  have pp7 := pp_X1_forget  M (hIM)
  obtain ⟨M4, e5⟩ : ∃ z, mX1_forget M = z := ⟨_, rfl⟩
  have hE := zbnd_cut hE e5
  rw [e5] at hM6
  rw [e5] at pp7
  have hIM4 := pp7
  obtain ⟨⟨i8, i9⟩, ⟨i10, i11⟩, ⟨i12, i13⟩⟩ := id hIM4
  refine zi_callVV (pc := 38) (rest := []) (ws' := zWL G (zsI (zsI (zsI (zsI L 5 r1) 6 r1) 7 0) 8 ((L 8 0) + 1)) T E V M4 K) F hM6 (cwV 0 F.1.2.2.2.2 gX4_beginTurn_X1_forget rfl rfl rfl hd_X1_forget ⟨Nat.le_of_ble_eq_true rfl, Nat.le_of_ble_eq_true rfl⟩) 0 rfl rfl _ _ (zwL_M G (zsI (zsI (zsI (zsI L 5 r1) 6 r1) 7 0) 8 ((L 8 0) + 1)) T E V M K) (zwL_M G (zsI (zsI (zsI (zsI L 5 r1) 6 r1) 7 0) 8 ((L 8 0) + 1)) T E V M4 K).symm rfl rfl (Nat.le_of_ble_eq_true rfl) dX4_beginTurn_38 ⟨Nat.zero_le _, Nat.zero_le _⟩ ?_
  refine zi_aload_n (pc := 41) F dX4_beginTurn_41 0 rfl ?_
  refine zi_aload_n (pc := 42) F dX4_beginTurn_42 0 rfl ?_
  refine zi_get (pc := 43) (C := RX4) (T := TX4) (N := 11) (v := .int r1) F (hw_X4_beginTurn_X4) 0 rfl rfl 5 (by decide) (List.mem_of_getElem? (i := 1) rfl) rfl rfl dX4_beginTurn_43 ?_
  refine zi_iconst (pc := 46) (v := 3) F dX4_beginTurn_46 rfl ?_
  have hM16 := c_X4_pay l G r1 3 (zsI (zsI (zsI (zsI L 5 r1) 6 r1) 7 0) 8 ((L 8 0) + 1)) T E V M4 K 
  obtain ⟨L14, e15⟩ : ∃ z, mX4_pay r1 3 (zsI (zsI (zsI (zsI L 5 r1) 6 r1) 7 0) 8 ((L 8 0) + 1)) = z := ⟨_, rfl⟩
  have hE := zbnd_cut hE e15
  rw [e15] at hM16
  refine zi_callVV (pc := 47) (rest := []) (ws' := zWL G L14 T E V M4 K) F hM16 (cwV 2 F.1.2.2.2.2 gX4_beginTurn_X4_pay rfl rfl rfl hd_X4_pay ⟨Nat.le_of_ble_eq_true rfl, Nat.le_of_ble_eq_true rfl⟩) 0 rfl rfl _ _ (zw_nil _) (zw_nil _).symm rfl rfl (Nat.le_of_ble_eq_true rfl) dX4_beginTurn_47 ⟨Nat.zero_le _, Nat.zero_le _⟩ ?_
  refine zi_aload_n (pc := 50) F dX4_beginTurn_50 0 rfl ?_
  refine zi_iconst (pc := 51) (v := 3) F dX4_beginTurn_51 rfl ?_
  have hM21 := c_X4_raiseTriggers l G 3 L14 T E V M4 K (hIT) (hIE)
  have pp22 := pp_X4_raiseTriggers 3 L14 T E V (hIT) (hIE)
  obtain ⟨⟨L17, E18, V19⟩, e20⟩ : ∃ z, mX4_raiseTriggers 3 L14 T E V = z := ⟨_, rfl⟩
  have hE := zbnd3_cut hE e20
  rw [e20] at hM21
  rw [e20] at pp22
  have hIE18 := pp22
  have hIE18 : zIE E18 := hIE18
  obtain ⟨⟨i23, i24⟩, hIE18_b1⟩ := id hIE18
  refine zi_callVV (pc := 52) (rest := []) (ws' := zWL G L17 T E18 V19 M4 K) F hM21 (cwV 1 F.1.2.2.2.2 gX4_beginTurn_X4_raiseTriggers rfl rfl rfl hd_X4_raiseTriggers ⟨Nat.le_of_ble_eq_true rfl, Nat.le_of_ble_eq_true rfl⟩) 0 rfl rfl _ _ (zw_nil _) (zw_nil _).symm rfl rfl (Nat.le_of_ble_eq_true rfl) dX4_beginTurn_52 ⟨Nat.zero_le _, Nat.zero_le _⟩ ?_
  subst hE
  exact hret _ _ dX4_beginTurn_55
/-! X4_pass -/
def mX4_pass  (L : zS_t) (T : zS_t) (E : zS_t) (V : zS_t) (M : zS_t) (K : zS_t) : Int32 × zS_t × zS_t × zS_t × zS_t × zS_t × zS_t := if 3 ≤ ((L 7 0) + 1) then (if (E 5 0) ≤ 0 then (zbnd4 (mX4_beginTurn (zsI L 7 ((L 7 0) + 1)) T E V M) (fun L6 E7 V8 M9 => (2, L6, T, E7, V8, M9, K))) else (zbnd6 (mX4_resolveTop (zsI L 7 ((L 7 0) + 1)) T E V M K) (fun L22 T23 E24 V25 M26 K27 => (1, L22, T23, E24, V25, M26, K27)))) else (zbnd (mX4_nextPlayer (L 6 0)) (fun r43 => (0, (zsI (zsI L 6 r43) 7 ((L 7 0) + 1)), T, E, V, M, K)))
set_option maxHeartbeats 4000000 in
set_option maxRecDepth 100000 in
theorem pp_X4_pass  (L : zS_t) (T : zS_t) (E : zS_t) (V : zS_t) (M : zS_t) (K : zS_t) (hIT : zIT T) (hIE : zIE E) (hIM : zIM M) : (zIT ((mX4_pass L T E V M K).2.2.1)) ∧ (zIE ((mX4_pass L T E V M K).2.2.2.1)) ∧ (zIM ((mX4_pass L T E V M K).2.2.2.2.2.1)) := by
  obtain ⟨X, hE⟩ : ∃ z, mX4_pass L T E V M K = z := ⟨_, rfl⟩
  rw [hE]
  have k_0 : Int32.toInt 0 = 0 := by decide
  have k_1 : Int32.toInt 1 = 1 := by decide
  have k_2 : Int32.toInt 2 = 2 := by decide
  have k_3 : Int32.toInt 3 = 3 := by decide
  obtain ⟨i46, i47⟩ := id hIT
  obtain ⟨⟨i48, i49⟩, hIE_b1⟩ := id hIE
  obtain ⟨⟨i50, i51⟩, ⟨i52, i53⟩, ⟨i54, i55⟩⟩ := id hIM
  unfold mX4_pass at hE
  by_cases c1 : 3 ≤ ((L 7 0) + 1)
  · have hE := zite_t hE c1
    try have t2 := zt_add (a := (L 7 0)) (b := 1) (by omega) (by omega)
    have t3 := zt_le c1
    by_cases c4 : (E 5 0) ≤ 0
    · have hE := zite_t hE c4
      have t5 := zt_le c4
      have pp12 := pp_X4_beginTurn  (zsI L 7 ((L 7 0) + 1)) T E V M (hIT) (hIE) (hIM)
      obtain ⟨⟨L6, E7, V8, M9⟩, e10⟩ : ∃ z, mX4_beginTurn (zsI L 7 ((L 7 0) + 1)) T E V M = z := ⟨_, rfl⟩
      have hE := zbnd4_cut hE e10
      rw [e10] at pp12
      obtain ⟨hIE7, hIM9⟩ := pp12
      have hIE7 : zIE E7 := hIE7
      have hIM9 : zIM M9 := hIM9
      obtain ⟨⟨i13, i14⟩, hIE7_b1⟩ := id hIE7
      obtain ⟨⟨i15, i16⟩, ⟨i17, i18⟩, ⟨i19, i20⟩⟩ := id hIM9
      subst hE
      exact ⟨hIT, hIE7, hIM9⟩
    · have hE := zite_f hE c4
      have t21 := zt_nle c4
      have pp30 := pp_X4_resolveTop  (zsI L 7 ((L 7 0) + 1)) T E V M K (hIT) (hIE) (hIM)
      obtain ⟨⟨L22, T23, E24, V25, M26, K27⟩, e28⟩ : ∃ z, mX4_resolveTop (zsI L 7 ((L 7 0) + 1)) T E V M K = z := ⟨_, rfl⟩
      have hE := zbnd6_cut hE e28
      rw [e28] at pp30
      obtain ⟨hIT23, hIE24, hIM26⟩ := pp30
      have hIT23 : zIT T23 := hIT23
      have hIE24 : zIE E24 := hIE24
      have hIM26 : zIM M26 := hIM26
      obtain ⟨i31, i32⟩ := id hIT23
      obtain ⟨⟨i33, i34⟩, hIE24_b1⟩ := id hIE24
      obtain ⟨⟨i35, i36⟩, ⟨i37, i38⟩, ⟨i39, i40⟩⟩ := id hIM26
      subst hE
      exact ⟨hIT23, hIE24, hIM26⟩
  · have hE := zite_f hE c1
    try have t41 := zt_add (a := (L 7 0)) (b := 1) (by omega) (by omega)
    have t42 := zt_nle c1
    obtain ⟨r43, e44⟩ : ∃ z, mX4_nextPlayer (L 6 0) = z := ⟨_, rfl⟩
    have hE := zbnd_cut hE e44
    subst hE
    exact ⟨hIT, hIE, hIM⟩
theorem hw_X4_pass_X0 : ∀ w ∈ wsX00, w ∈ wsX4_pass := fun w h => List.mem_cons_of_mem _ (List.mem_append_left _ (List.mem_append_left _ (List.mem_append_left _ (List.mem_append_right _ (h)))))
theorem hw_X4_pass_X4 : ∀ w ∈ wsX40, w ∈ wsX4_pass := fun w h => List.mem_cons_of_mem _ (List.mem_append_left _ (List.mem_append_left _ (List.mem_append_left _ (List.mem_append_left _ (List.mem_append_right _ (h))))))
abbrev rmX4_pass : Room := { frames := 6, cells := 0, slots := 0, locals := 142 }
theorem hd_X4_pass : yX4_pass.cls = RX4 ∧ yX4_pass.cls ≠ "java/lang/invoke/MethodHandle" ∧ yX4_pass.cls ≠ "java/lang/invoke/VarHandle" ∧ (parseMethodDescriptor yX4_pass.desc).map (fun d => d.parameters.length) = some 0 := by decide +kernel
set_option maxHeartbeats 4000000 in
set_option maxRecDepth 100000 in
theorem c_X4_pass (l : Launch) (G : zG_t)  (L : zS_t) (T : zS_t) (E : zS_t) (V : zS_t) (M : zS_t) (K : zS_t) (hIT : zIT T) (hIE : zIE E) (hIM : zIM M) : zCI l G.1 (zty G) yX4_pass wsX4_pass rmX4_pass [.ref (G.2.2 0 0)] (zWL G L T E V M K) ((mX4_pass L T E V M K).1) (zWL G ((mX4_pass L T E V M K).2.1) ((mX4_pass L T E V M K).2.2.1) ((mX4_pass L T E V M K).2.2.2.1) ((mX4_pass L T E V M K).2.2.2.2.1) ((mX4_pass L T E V M K).2.2.2.2.2.1) ((mX4_pass L T E V M K).2.2.2.2.2.2)) := by
  obtain ⟨X, hE⟩ : ∃ z, mX4_pass L T E V M K = z := ⟨_, rfl⟩
  rw [hE]
  refine zb_I (cc := cX4_pass) (maxL := 1) (by decide) rfl (Nat.le_of_ble_eq_true rfl) ?_
  intro p e s m args below meth c Q A F hret
  show zW p l e rmX4_pass s m args below meth c 0 0 Q G.1 A 1 (zWL G L T E V M K) [(0, .ref (G.2.2 0 0))] 0 []
  have k_0 : Int32.toInt 0 = 0 := by decide
  have k_1 : Int32.toInt 1 = 1 := by decide
  have k_2 : Int32.toInt 2 = 2 := by decide
  have k_3 : Int32.toInt 3 = 3 := by decide
  obtain ⟨i56, i57⟩ := id hIT
  obtain ⟨⟨i58, i59⟩, hIE_b1⟩ := id hIE
  obtain ⟨⟨i60, i61⟩, ⟨i62, i63⟩, ⟨i64, i65⟩⟩ := id hIM
  unfold mX4_pass at hE
  refine zi_aload_n (pc := 0) F dX4_pass_0 0 rfl ?_
  refine zi_dup (pc := 1) F dX4_pass_1 rfl ?_
  refine zi_get (pc := 2) (C := RX4) (T := TX4) (N := 11) (v := .int (L 7 0)) F (hw_X4_pass_X4) 0 rfl rfl 7 (by decide) (List.mem_of_getElem? (i := 1) rfl) rfl rfl dX4_pass_2 ?_
  refine zi_iconst (pc := 5) (v := 1) F dX4_pass_5 rfl ?_
  refine zi_iadd (pc := 6) F dX4_pass_6 ?_
  refine zi_put (pc := 7) (C := RX4) (T := TX4) (N := 11) (ty := .int) (ws' := zWL G (zsI L 7 ((L 7 0) + 1)) T E V M K) F (hw_X4_pass_X4) tyX4 tyX4_ok nmX4 0 rfl rfl 7 (by decide) (List.mem_of_getElem? (i := 1) rfl) rfl rfl rfl rfl rfl (Nat.le_of_ble_eq_true rfl) rfl dX4_pass_7 ?_
  refine zi_aload_n (pc := 10) F dX4_pass_10 0 rfl ?_
  refine zi_get (pc := 11) (C := RX4) (T := TX4) (N := 11) (v := .int ((L 7 0) + 1)) F (hw_X4_pass_X4) 0 rfl rfl 7 (by decide) (List.mem_of_getElem? (i := 1) rfl) rfl rfl dX4_pass_11 ?_
  refine zi_iconst (pc := 14) (v := 3) F dX4_pass_14 rfl ?_
  refine zi_icmp_ge (pc := 15) (tgt := 31) F dX4_pass_15 (by decide) (fun c1 => ?_) (fun c1 => ?_)
  · have hE := zite_t hE c1
    try have t2 := zt_add (a := (L 7 0)) (b := 1) (by omega) (by omega)
    have t3 := zt_le c1
    refine zi_aload_n (pc := 31) F dX4_pass_31 0 rfl ?_
    refine zi_get (pc := 32) (C := RX4) (T := TX4) (N := 11) (v := .ref (G.2.2 2 0)) F (hw_X4_pass_X4) 0 rfl rfl 2 (by decide) (List.mem_of_getElem? (i := 3) rfl) rfl rfl dX4_pass_32 ?_
    refine zi_get (pc := 35) (C := RX0) (T := TX0) (N := 6) (v := .int (E 5 0)) F (hw_X4_pass_X0) 2 rfl rfl 5 (by decide) (List.mem_of_getElem? (i := 4) rfl) rfl rfl dX4_pass_35 ?_
    refine zi_if_le (pc := 38) (tgt := 47) F dX4_pass_38 (by decide) (fun c4 => ?_) (fun c4 => ?_)
    · have hE := zite_t hE c4
      have t5 := zt_le c4
      refine zi_aload_n (pc := 47) F dX4_pass_47 0 rfl ?_
      have hM11 := c_X4_beginTurn l G  (zsI L 7 ((L 7 0) + 1)) T E V M K (hIT) (hIE) (hIM)
      have pp12 := pp_X4_beginTurn  (zsI L 7 ((L 7 0) + 1)) T E V M (hIT) (hIE) (hIM)
      obtain ⟨⟨L6, E7, V8, M9⟩, e10⟩ : ∃ z, mX4_beginTurn (zsI L 7 ((L 7 0) + 1)) T E V M = z := ⟨_, rfl⟩
      have hE := zbnd4_cut hE e10
      rw [e10] at hM11
      rw [e10] at pp12
      obtain ⟨hIE7, hIM9⟩ := pp12
      have hIE7 : zIE E7 := hIE7
      have hIM9 : zIM M9 := hIM9
      obtain ⟨⟨i13, i14⟩, hIE7_b1⟩ := id hIE7
      obtain ⟨⟨i15, i16⟩, ⟨i17, i18⟩, ⟨i19, i20⟩⟩ := id hIM9
      refine zi_callVV (pc := 48) (rest := []) (ws' := zWL G L6 T E7 V8 M9 K) F hM11 (cwV 0 F.1.2.2.2.2 gX4_pass_X4_beginTurn rfl rfl rfl hd_X4_beginTurn ⟨Nat.le_of_ble_eq_true rfl, Nat.le_of_ble_eq_true rfl⟩) 0 rfl rfl _ _ (zw_nil _) (zw_nil _).symm rfl rfl (Nat.le_of_ble_eq_true rfl) dX4_pass_48 ⟨Nat.zero_le _, Nat.zero_le _⟩ ?_
      refine zi_iconst (pc := 51) (v := 2) F dX4_pass_51 rfl ?_
      subst hE
      exact hret _ _ dX4_pass_52
    · have hE := zite_f hE c4
      have t21 := zt_nle c4
      refine zi_aload_n (pc := 41) F dX4_pass_41 0 rfl ?_
      have hM29 := c_X4_resolveTop l G  (zsI L 7 ((L 7 0) + 1)) T E V M K (hIT) (hIE) (hIM)
      have pp30 := pp_X4_resolveTop  (zsI L 7 ((L 7 0) + 1)) T E V M K (hIT) (hIE) (hIM)
      obtain ⟨⟨L22, T23, E24, V25, M26, K27⟩, e28⟩ : ∃ z, mX4_resolveTop (zsI L 7 ((L 7 0) + 1)) T E V M K = z := ⟨_, rfl⟩
      have hE := zbnd6_cut hE e28
      rw [e28] at hM29
      rw [e28] at pp30
      obtain ⟨hIT23, hIE24, hIM26⟩ := pp30
      have hIT23 : zIT T23 := hIT23
      have hIE24 : zIE E24 := hIE24
      have hIM26 : zIM M26 := hIM26
      obtain ⟨i31, i32⟩ := id hIT23
      obtain ⟨⟨i33, i34⟩, hIE24_b1⟩ := id hIE24
      obtain ⟨⟨i35, i36⟩, ⟨i37, i38⟩, ⟨i39, i40⟩⟩ := id hIM26
      refine zi_callVV (pc := 42) (rest := []) (ws' := zWL G L22 T23 E24 V25 M26 K27) F hM29 (cwV 0 F.1.2.2.2.2 gX4_pass_X4_resolveTop rfl rfl rfl hd_X4_resolveTop ⟨Nat.le_of_ble_eq_true rfl, Nat.le_of_ble_eq_true rfl⟩) 0 rfl rfl _ _ (zw_nil _) (zw_nil _).symm rfl rfl (Nat.le_of_ble_eq_true rfl) dX4_pass_42 ⟨Nat.zero_le _, Nat.zero_le _⟩ ?_
      refine zi_iconst (pc := 45) (v := 1) F dX4_pass_45 rfl ?_
      subst hE
      exact hret _ _ dX4_pass_46
  · have hE := zite_f hE c1
    try have t41 := zt_add (a := (L 7 0)) (b := 1) (by omega) (by omega)
    have t42 := zt_nle c1
    refine zi_aload_n (pc := 18) F dX4_pass_18 0 rfl ?_
    refine zi_aload_n (pc := 19) F dX4_pass_19 0 rfl ?_
    refine zi_get (pc := 20) (C := RX4) (T := TX4) (N := 11) (v := .int (L 6 0)) F (hw_X4_pass_X4) 0 rfl rfl 6 (by decide) (List.mem_of_getElem? (i := 2) rfl) rfl rfl dX4_pass_20 ?_
    have hM45 := c_X4_nextPlayer l G (L 6 0)  
    obtain ⟨r43, e44⟩ : ∃ z, mX4_nextPlayer (L 6 0) = z := ⟨_, rfl⟩
    have hE := zbnd_cut hE e44
    rw [e44] at hM45
    refine zi_callSI (pc := 23) (rest := [.ref (G.2.2 0 0)]) (ws' := zWL G (zsI L 7 ((L 7 0) + 1)) T E V M K) F hM45 (va_cwS 1 F.1.2.2.2.2 gX4_pass_X4_nextPlayer rfl rfl rfl hd_X4_nextPlayer.2 ⟨Nat.le_of_ble_eq_true rfl, Nat.le_of_ble_eq_true rfl⟩) _ _ rfl rfl rfl rfl (Nat.le_of_ble_eq_true rfl) dX4_pass_23 ⟨Nat.zero_le _, Nat.zero_le _⟩ ?_
    refine zi_put (pc := 26) (C := RX4) (T := TX4) (N := 11) (ty := .int) (ws' := zWL G (zsI (zsI L 6 r43) 7 ((L 7 0) + 1)) T E V M K) F (hw_X4_pass_X4) tyX4 tyX4_ok nmX4 0 rfl rfl 6 (by decide) (List.mem_of_getElem? (i := 2) rfl) rfl rfl rfl rfl rfl (Nat.le_of_ble_eq_true rfl) rfl dX4_pass_26 ?_
    refine zi_iconst (pc := 29) (v := 0) F dX4_pass_29 rfl ?_
    subst hE
    exact hret _ _ dX4_pass_30
/-! X4_turn -/
def mX4_turn  (L : zS_t) : Int32 := (L 5 0)
theorem hw_X4_turn_X4 : ∀ w ∈ wsX40, w ∈ wsX4_turn := fun w h => List.mem_cons_of_mem _ (List.mem_append_right _ (h))
abbrev rmX4_turn : Room := { frames := 0, cells := 0, slots := 0, locals := 0 }
theorem hd_X4_turn : yX4_turn.cls = RX4 ∧ yX4_turn.cls ≠ "java/lang/invoke/MethodHandle" ∧ yX4_turn.cls ≠ "java/lang/invoke/VarHandle" ∧ (parseMethodDescriptor yX4_turn.desc).map (fun d => d.parameters.length) = some 0 := by decide +kernel
set_option maxHeartbeats 4000000 in
set_option maxRecDepth 100000 in
theorem c_X4_turn (l : Launch) (G : zG_t)  (L : zS_t) (T : zS_t) (E : zS_t) (V : zS_t) (M : zS_t) (K : zS_t)  : zCI l G.1 (zty G) yX4_turn wsX4_turn rmX4_turn [.ref (G.2.2 0 0)] (zWL G L T E V M K) ((mX4_turn L)) (zWL G L T E V M K) := by
  obtain ⟨X, hE⟩ : ∃ z, mX4_turn L = z := ⟨_, rfl⟩
  rw [hE]
  refine zb_I (cc := cX4_turn) (maxL := 1) (by decide) rfl (Nat.le_of_ble_eq_true rfl) ?_
  intro p e s m args below meth c Q A F hret
  show zW p l e rmX4_turn s m args below meth c 0 0 Q G.1 A 1 (zWL G L T E V M K) [(0, .ref (G.2.2 0 0))] 0 []
  have k_0 : Int32.toInt 0 = 0 := by decide
  have k_1 : Int32.toInt 1 = 1 := by decide
  unfold mX4_turn at hE
  refine zi_aload_n (pc := 0) F dX4_turn_0 0 rfl ?_
  refine zi_get (pc := 1) (C := RX4) (T := TX4) (N := 11) (v := .int (L 5 0)) F (hw_X4_turn_X4) 0 rfl rfl 5 (by decide) (List.mem_of_getElem? (i := 1) rfl) rfl rfl dX4_turn_1 ?_
  subst hE
  exact hret _ _ dX4_turn_4
/-! X4_acting -/
def mX4_acting  (L : zS_t) : Int32 := (L 6 0)
theorem hw_X4_acting_X4 : ∀ w ∈ wsX40, w ∈ wsX4_acting := fun w h => List.mem_cons_of_mem _ (List.mem_append_right _ (h))
abbrev rmX4_acting : Room := { frames := 0, cells := 0, slots := 0, locals := 0 }
theorem hd_X4_acting : yX4_acting.cls = RX4 ∧ yX4_acting.cls ≠ "java/lang/invoke/MethodHandle" ∧ yX4_acting.cls ≠ "java/lang/invoke/VarHandle" ∧ (parseMethodDescriptor yX4_acting.desc).map (fun d => d.parameters.length) = some 0 := by decide +kernel
set_option maxHeartbeats 4000000 in
set_option maxRecDepth 100000 in
theorem c_X4_acting (l : Launch) (G : zG_t)  (L : zS_t) (T : zS_t) (E : zS_t) (V : zS_t) (M : zS_t) (K : zS_t)  : zCI l G.1 (zty G) yX4_acting wsX4_acting rmX4_acting [.ref (G.2.2 0 0)] (zWL G L T E V M K) ((mX4_acting L)) (zWL G L T E V M K) := by
  obtain ⟨X, hE⟩ : ∃ z, mX4_acting L = z := ⟨_, rfl⟩
  rw [hE]
  refine zb_I (cc := cX4_acting) (maxL := 1) (by decide) rfl (Nat.le_of_ble_eq_true rfl) ?_
  intro p e s m args below meth c Q A F hret
  show zW p l e rmX4_acting s m args below meth c 0 0 Q G.1 A 1 (zWL G L T E V M K) [(0, .ref (G.2.2 0 0))] 0 []
  have k_0 : Int32.toInt 0 = 0 := by decide
  have k_1 : Int32.toInt 1 = 1 := by decide
  unfold mX4_acting at hE
  refine zi_aload_n (pc := 0) F dX4_acting_0 0 rfl ?_
  refine zi_get (pc := 1) (C := RX4) (T := TX4) (N := 11) (v := .int (L 6 0)) F (hw_X4_acting_X4) 0 rfl rfl 6 (by decide) (List.mem_of_getElem? (i := 1) rfl) rfl rfl dX4_acting_1 ?_
  subst hE
  exact hret _ _ dX4_acting_4
/-! X4_rounds -/
def mX4_rounds  (L : zS_t) : Int32 := (L 8 0)
theorem hw_X4_rounds_X4 : ∀ w ∈ wsX40, w ∈ wsX4_rounds := fun w h => List.mem_cons_of_mem _ (List.mem_append_right _ (h))
abbrev rmX4_rounds : Room := { frames := 0, cells := 0, slots := 0, locals := 0 }
theorem hd_X4_rounds : yX4_rounds.cls = RX4 ∧ yX4_rounds.cls ≠ "java/lang/invoke/MethodHandle" ∧ yX4_rounds.cls ≠ "java/lang/invoke/VarHandle" ∧ (parseMethodDescriptor yX4_rounds.desc).map (fun d => d.parameters.length) = some 0 := by decide +kernel
set_option maxHeartbeats 4000000 in
set_option maxRecDepth 100000 in
theorem c_X4_rounds (l : Launch) (G : zG_t)  (L : zS_t) (T : zS_t) (E : zS_t) (V : zS_t) (M : zS_t) (K : zS_t)  : zCI l G.1 (zty G) yX4_rounds wsX4_rounds rmX4_rounds [.ref (G.2.2 0 0)] (zWL G L T E V M K) ((mX4_rounds L)) (zWL G L T E V M K) := by
  obtain ⟨X, hE⟩ : ∃ z, mX4_rounds L = z := ⟨_, rfl⟩
  rw [hE]
  refine zb_I (cc := cX4_rounds) (maxL := 1) (by decide) rfl (Nat.le_of_ble_eq_true rfl) ?_
  intro p e s m args below meth c Q A F hret
  show zW p l e rmX4_rounds s m args below meth c 0 0 Q G.1 A 1 (zWL G L T E V M K) [(0, .ref (G.2.2 0 0))] 0 []
  have k_0 : Int32.toInt 0 = 0 := by decide
  have k_1 : Int32.toInt 1 = 1 := by decide
  unfold mX4_rounds at hE
  refine zi_aload_n (pc := 0) F dX4_rounds_0 0 rfl ?_
  refine zi_get (pc := 1) (C := RX4) (T := TX4) (N := 11) (v := .int (L 8 0)) F (hw_X4_rounds_X4) 0 rfl rfl 8 (by decide) (List.mem_of_getElem? (i := 1) rfl) rfl rfl dX4_rounds_1 ?_
  subst hE
  exact hret _ _ dX4_rounds_4
/-! X4_loops -/
def mX4_loops  (L : zS_t) : Int32 := (L 9 0)
theorem hw_X4_loops_X4 : ∀ w ∈ wsX40, w ∈ wsX4_loops := fun w h => List.mem_cons_of_mem _ (List.mem_append_right _ (h))
abbrev rmX4_loops : Room := { frames := 0, cells := 0, slots := 0, locals := 0 }
theorem hd_X4_loops : yX4_loops.cls = RX4 ∧ yX4_loops.cls ≠ "java/lang/invoke/MethodHandle" ∧ yX4_loops.cls ≠ "java/lang/invoke/VarHandle" ∧ (parseMethodDescriptor yX4_loops.desc).map (fun d => d.parameters.length) = some 0 := by decide +kernel
set_option maxHeartbeats 4000000 in
set_option maxRecDepth 100000 in
theorem c_X4_loops (l : Launch) (G : zG_t)  (L : zS_t) (T : zS_t) (E : zS_t) (V : zS_t) (M : zS_t) (K : zS_t)  : zCI l G.1 (zty G) yX4_loops wsX4_loops rmX4_loops [.ref (G.2.2 0 0)] (zWL G L T E V M K) ((mX4_loops L)) (zWL G L T E V M K) := by
  obtain ⟨X, hE⟩ : ∃ z, mX4_loops L = z := ⟨_, rfl⟩
  rw [hE]
  refine zb_I (cc := cX4_loops) (maxL := 1) (by decide) rfl (Nat.le_of_ble_eq_true rfl) ?_
  intro p e s m args below meth c Q A F hret
  show zW p l e rmX4_loops s m args below meth c 0 0 Q G.1 A 1 (zWL G L T E V M K) [(0, .ref (G.2.2 0 0))] 0 []
  have k_0 : Int32.toInt 0 = 0 := by decide
  have k_1 : Int32.toInt 1 = 1 := by decide
  unfold mX4_loops at hE
  refine zi_aload_n (pc := 0) F dX4_loops_0 0 rfl ?_
  refine zi_get (pc := 1) (C := RX4) (T := TX4) (N := 11) (v := .int (L 9 0)) F (hw_X4_loops_X4) 0 rfl rfl 9 (by decide) (List.mem_of_getElem? (i := 1) rfl) rfl rfl dX4_loops_1 ?_
  subst hE
  exact hret _ _ dX4_loops_4
/-! X4_things -/
def mX4_things  (T : zS_t) : Int32 := (T 4 0)
theorem hw_X4_things_X2 : ∀ w ∈ wsX20, w ∈ wsX4_things := fun w h => List.mem_cons_of_mem _ (List.mem_append_right _ (h))
theorem hw_X4_things_X4 : ∀ w ∈ wsX40, w ∈ wsX4_things := fun w h => List.mem_cons_of_mem _ (List.mem_append_left _ (List.mem_append_right _ (h)))
abbrev rmX4_things : Room := { frames := 0, cells := 0, slots := 0, locals := 0 }
theorem hd_X4_things : yX4_things.cls = RX4 ∧ yX4_things.cls ≠ "java/lang/invoke/MethodHandle" ∧ yX4_things.cls ≠ "java/lang/invoke/VarHandle" ∧ (parseMethodDescriptor yX4_things.desc).map (fun d => d.parameters.length) = some 0 := by decide +kernel
set_option maxHeartbeats 4000000 in
set_option maxRecDepth 100000 in
theorem c_X4_things (l : Launch) (G : zG_t)  (L : zS_t) (T : zS_t) (E : zS_t) (V : zS_t) (M : zS_t) (K : zS_t)  : zCI l G.1 (zty G) yX4_things wsX4_things rmX4_things [.ref (G.2.2 0 0)] (zWL G L T E V M K) ((mX4_things T)) (zWL G L T E V M K) := by
  obtain ⟨X, hE⟩ : ∃ z, mX4_things T = z := ⟨_, rfl⟩
  rw [hE]
  refine zb_I (cc := cX4_things) (maxL := 1) (by decide) rfl (Nat.le_of_ble_eq_true rfl) ?_
  intro p e s m args below meth c Q A F hret
  show zW p l e rmX4_things s m args below meth c 0 0 Q G.1 A 1 (zWL G L T E V M K) [(0, .ref (G.2.2 0 0))] 0 []
  have k_0 : Int32.toInt 0 = 0 := by decide
  have k_1 : Int32.toInt 1 = 1 := by decide
  unfold mX4_things at hE
  refine zi_aload_n (pc := 0) F dX4_things_0 0 rfl ?_
  refine zi_get (pc := 1) (C := RX4) (T := TX4) (N := 11) (v := .ref (G.2.2 1 0)) F (hw_X4_things_X4) 0 rfl rfl 1 (by decide) (List.mem_of_getElem? (i := 1) rfl) rfl rfl dX4_things_1 ?_
  refine zi_get (pc := 4) (C := RX2) (T := TX2) (N := 5) (v := .int (T 4 0)) F (hw_X4_things_X2) 8 rfl rfl 4 (by decide) (List.mem_of_getElem? (i := 2) rfl) rfl rfl dX4_things_4 ?_
  subst hE
  exact hret _ _ dX4_things_7
/-! X4_stack -/
def mX4_stack  (E : zS_t) : Int32 := (E 5 0)
theorem hw_X4_stack_X0 : ∀ w ∈ wsX00, w ∈ wsX4_stack := fun w h => List.mem_cons_of_mem _ (List.mem_append_right _ (h))
theorem hw_X4_stack_X4 : ∀ w ∈ wsX40, w ∈ wsX4_stack := fun w h => List.mem_cons_of_mem _ (List.mem_append_left _ (List.mem_append_right _ (h)))
abbrev rmX4_stack : Room := { frames := 0, cells := 0, slots := 0, locals := 0 }
theorem hd_X4_stack : yX4_stack.cls = RX4 ∧ yX4_stack.cls ≠ "java/lang/invoke/MethodHandle" ∧ yX4_stack.cls ≠ "java/lang/invoke/VarHandle" ∧ (parseMethodDescriptor yX4_stack.desc).map (fun d => d.parameters.length) = some 0 := by decide +kernel
set_option maxHeartbeats 4000000 in
set_option maxRecDepth 100000 in
theorem c_X4_stack (l : Launch) (G : zG_t)  (L : zS_t) (T : zS_t) (E : zS_t) (V : zS_t) (M : zS_t) (K : zS_t)  : zCI l G.1 (zty G) yX4_stack wsX4_stack rmX4_stack [.ref (G.2.2 0 0)] (zWL G L T E V M K) ((mX4_stack E)) (zWL G L T E V M K) := by
  obtain ⟨X, hE⟩ : ∃ z, mX4_stack E = z := ⟨_, rfl⟩
  rw [hE]
  refine zb_I (cc := cX4_stack) (maxL := 1) (by decide) rfl (Nat.le_of_ble_eq_true rfl) ?_
  intro p e s m args below meth c Q A F hret
  show zW p l e rmX4_stack s m args below meth c 0 0 Q G.1 A 1 (zWL G L T E V M K) [(0, .ref (G.2.2 0 0))] 0 []
  have k_0 : Int32.toInt 0 = 0 := by decide
  have k_1 : Int32.toInt 1 = 1 := by decide
  unfold mX4_stack at hE
  refine zi_aload_n (pc := 0) F dX4_stack_0 0 rfl ?_
  refine zi_get (pc := 1) (C := RX4) (T := TX4) (N := 11) (v := .ref (G.2.2 2 0)) F (hw_X4_stack_X4) 0 rfl rfl 2 (by decide) (List.mem_of_getElem? (i := 1) rfl) rfl rfl dX4_stack_1 ?_
  refine zi_get (pc := 4) (C := RX0) (T := TX0) (N := 6) (v := .int (E 5 0)) F (hw_X4_stack_X0) 2 rfl rfl 5 (by decide) (List.mem_of_getElem? (i := 2) rfl) rfl rfl dX4_stack_4 ?_
  subst hE
  exact hret _ _ dX4_stack_7
