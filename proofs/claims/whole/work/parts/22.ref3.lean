/-! X5_laysState -/
def mX5_laysState_L2  : Nat → Int32 → zS_t → Int32 × zS_t
  | 0, k1_8, R9 => (k1_8, R9)
  | n10 + 1, k1_8, R9 => if 24 ≤ k1_8 then (k1_8, R9) else (zbnd ((k1_8 + 1)) (fun y39 => mX5_laysState_L2  n10 y39 (zsF R9 25 (upd (R9 25) k1_8.toNatClampNeg 0))))
def mX5_laysState_S51 (k1_103 : Int32) (R104 : zS_t) : Int32 := if (R104 7 k1_103.toNatClampNeg) = 7 then (zbnd (mX5_thingOf (R104 10 k1_103.toNatClampNeg) R104) (fun r148 => r148)) else (-1)
def mX5_laysState_L43  : Nat → Int32 → zS_t → Int32 × zS_t
  | 0, k1_103, R104 => (k1_103, R104)
  | n105 + 1, k1_103, R104 => if (R104 6 0) ≤ k1_103 then (k1_103, R104) else (zbnd (mX5_laysState_S51 k1_103 R104) (fun w142 => zbnd ((k1_103 + 1)) (fun y154 => mX5_laysState_L43  n105 y154 (zsF R104 25 (upd (R104 25) (2 + k1_103).toNatClampNeg ((((100 * (R104 7 k1_103.toNatClampNeg)) + (20 * (R104 8 k1_103.toNatClampNeg))) + w142) + 1))))))
def mX5_laysState_S142 (k1_194 : Int32) (R195 : zS_t) : Int32 := if (R195 14 k1_194.toNatClampNeg) = 0 then 0 else 500
def mX5_laysState_L116  : Nat → Int32 → zS_t → Int32 × zS_t
  | 0, k1_194, R195 => (k1_194, R195)
  | n196 + 1, k1_194, R195 => if (R195 12 0) ≤ k1_194 then (k1_194, R195) else (zbnd (mX5_laysState_S142 k1_194 R195) (fun w228 => zbnd (mX5_targetOf k1_194 R195) (fun r236 => zbnd ((k1_194 + 1)) (fun y240 => mX5_laysState_L116  n196 y240 (zsF R195 25 (upd (R195 25) (12 + k1_194).toNatClampNeg (((((1000 * (R195 13 k1_194.toNatClampNeg)) + w228) + (20 * (R195 15 k1_194.toNatClampNeg))) + r236) + 1)))))))
def mX5_laysState  (R : zS_t) : zS_t := zbnd2 (mX5_laysState_L2  25 0 R) (fun k1_43 R44 => zbnd ((zsF R44 25 (upd (upd (R44 25) (0 : Int32).toNatClampNeg (R44 6 0)) (1 : Int32).toNatClampNeg (R44 12 0)))) (fun R59 => zbnd2 (mX5_laysState_L43  11 0 R59) (fun k1_158 R159 => zbnd2 (mX5_laysState_L116  13 0 R159) (fun k1_244 R245 => R245))))
set_option maxHeartbeats 4000000 in
set_option maxRecDepth 100000 in
theorem pp_X5_laysState  (R : zS_t) (hIR : zIR R) : (zIR (mX5_laysState R)) := by
  obtain ⟨X, hE⟩ : ∃ z, mX5_laysState R = z := ⟨_, rfl⟩
  rw [hE]
  have k_m1 : Int32.toInt (-1) = -1 := by decide
  have k_0 : Int32.toInt 0 = 0 := by decide
  have k_1 : Int32.toInt 1 = 1 := by decide
  have k_2 : Int32.toInt 2 = 2 := by decide
  have k_7 : Int32.toInt 7 = 7 := by decide
  have k_12 : Int32.toInt 12 = 12 := by decide
  have k_20 : Int32.toInt 20 = 20 := by decide
  have k_24 : Int32.toInt 24 = 24 := by decide
  have k_100 : Int32.toInt 100 = 100 := by decide
  have k_500 : Int32.toInt 500 = 500 := by decide
  have k_1000 : Int32.toInt 1000 = 1000 := by decide
  obtain ⟨⟨i256, i257⟩, ⟨i258, i259⟩, ⟨i260, i261⟩, ⟨i262, i263⟩, ⟨i264, i265⟩, hIR_b14, hIR_p15⟩ := id hIR
  unfold mX5_laysState at hE
  have hL2 : ∀ (n10 : Nat) (k1_8 : Int32) (R9 : zS_t), (0 ≤ Int32.toInt k1_8) ∧ (Int32.toInt k1_8 ≤ 24) ∧ (zIR R9) → 25 - Int32.toInt k1_8 ≤ (n10 : Int) → ∀ Y11, mX5_laysState_L2  n10 k1_8 R9 = Y11 → (0 ≤ Int32.toInt Y11.1) ∧ (Int32.toInt Y11.1 ≤ 24) ∧ (zIR (Y11.2)) := by
    intro n10
    induction n10 with
    | zero =>
      intro k1_8 R9 hI hM9
      obtain ⟨i12, i13, hIR9⟩ := id hI
      obtain ⟨⟨i14, i15⟩, ⟨i16, i17⟩, ⟨i18, i19⟩, ⟨i20, i21⟩, ⟨i22, i23⟩, hIR9_b14, hIR9_p15⟩ := id hIR9
      exact absurd hM9 (by omega)
    | succ n10 ih =>
      intro k1_8 R9 hI hM9 Y11 hE
      obtain ⟨i24, i25, hIR9⟩ := id hI
      obtain ⟨⟨i26, i27⟩, ⟨i28, i29⟩, ⟨i30, i31⟩, ⟨i32, i33⟩, ⟨i34, i35⟩, hIR9_b14, hIR9_p15⟩ := id hIR9
      rw [mX5_laysState_L2.eq_2] at hE
      by_cases c36 : 24 ≤ k1_8
      · have hE := zite_t hE c36
        have t37 := zt_le c36
        subst hE
        exact ⟨by (show 0 ≤ Int32.toInt k1_8; omega), by (show Int32.toInt k1_8 ≤ 24; omega), hIR9⟩
      · have hE := zite_f hE c36
        have t38 := zt_nle c36
        try have t41 := zt_add (a := k1_8) (b := 1) (by omega) (by omega)
        obtain ⟨y39, e40⟩ : ∃ z : Int32, (k1_8 + 1) = z := ⟨_, rfl⟩
        have hE := zbnd_cut hE e40
        have t42 := congrArg Int32.toInt e40
        exact ih y39 (zsF R9 25 (upd (R9 25) k1_8.toNatClampNeg 0)) (⟨by (show 0 ≤ Int32.toInt y39; omega), by (show Int32.toInt y39 ≤ 24; omega), hIR9⟩) (by omega) _ hE
  obtain ⟨⟨k1_43, R44⟩, e45⟩ : ∃ z, mX5_laysState_L2  25 0 R = z := ⟨_, rfl⟩
  have hE := zbnd2_cut hE e45
  have hI46 := hL2 25 0 R (⟨by (show 0 ≤ Int32.toInt 0; omega), by (show Int32.toInt 0 ≤ 24; omega), hIR⟩) (by omega) _ e45
  have hI46 : (0 ≤ Int32.toInt k1_43) ∧ (Int32.toInt k1_43 ≤ 24) ∧ (zIR R44) := hI46
  obtain ⟨i47, i48, hIR44⟩ := id hI46
  obtain ⟨⟨i49, i50⟩, ⟨i51, i52⟩, ⟨i53, i54⟩, ⟨i55, i56⟩, ⟨i57, i58⟩, hIR44_b14, hIR44_p15⟩ := id hIR44
  have hIR59 : zIR (zsF R44 25 (upd (upd (R44 25) (0 : Int32).toNatClampNeg (R44 6 0)) (1 : Int32).toNatClampNeg (R44 12 0))) := hIR44
  obtain ⟨R59, e60⟩ : ∃ z, (zsF R44 25 (upd (upd (R44 25) (0 : Int32).toNatClampNeg (R44 6 0)) (1 : Int32).toNatClampNeg (R44 12 0))) = z := ⟨_, rfl⟩
  have hE := zbnd_cut hE e60
  have t61 : Int32.toInt (R59 6 0) = Int32.toInt (R44 6 0) := by rw [← e60]; rfl
  have t62 : Int32.toInt (R59 12 0) = Int32.toInt (R44 12 0) := by rw [← e60]; rfl
  have t63 : Int32.toInt (R59 23 0) = Int32.toInt (R44 23 0) := by rw [← e60]; rfl
  have t64 : Int32.toInt (R59 0 0) = Int32.toInt (R44 0 0) := by rw [← e60]; rfl
  have t65 : Int32.toInt (R59 1 0) = Int32.toInt (R44 1 0) := by rw [← e60]; rfl
  rw [e60] at hIR59
  obtain ⟨⟨i66, i67⟩, ⟨i68, i69⟩, ⟨i70, i71⟩, ⟨i72, i73⟩, ⟨i74, i75⟩, hIR59_b14, hIR59_p15⟩ := id hIR59
  have hL43 : ∀ (n104 : Nat) (k1_102 : Int32) (R103 : zS_t), (0 ≤ Int32.toInt k1_102) ∧ (Int32.toInt k1_102 ≤ 10) ∧ (zIR R103) → 11 - Int32.toInt k1_102 ≤ (n104 : Int) → ∀ Y105, mX5_laysState_L43  n104 k1_102 R103 = Y105 → (0 ≤ Int32.toInt Y105.1) ∧ (Int32.toInt Y105.1 ≤ 10) ∧ (zIR (Y105.2)) := by
    intro n104
    induction n104 with
    | zero =>
      intro k1_102 R103 hI hM9
      obtain ⟨i106, i107, hIR103⟩ := id hI
      obtain ⟨⟨i108, i109⟩, ⟨i110, i111⟩, ⟨i112, i113⟩, ⟨i114, i115⟩, ⟨i116, i117⟩, hIR103_b14, hIR103_p15⟩ := id hIR103
      exact absurd hM9 (by omega)
    | succ n104 ih =>
      intro k1_102 R103 hI hM9 Y105 hE
      obtain ⟨i118, i119, hIR103⟩ := id hI
      obtain ⟨⟨i120, i121⟩, ⟨i122, i123⟩, ⟨i124, i125⟩, ⟨i126, i127⟩, ⟨i128, i129⟩, hIR103_b14, hIR103_p15⟩ := id hIR103
      rw [mX5_laysState_L43.eq_2] at hE
      by_cases c130 : (R103 6 0) ≤ k1_102
      · have hE := zite_t hE c130
        have t131 := zt_le c130
        subst hE
        exact ⟨by (show 0 ≤ Int32.toInt k1_102; omega), by (show Int32.toInt k1_102 ≤ 10; omega), hIR103⟩
      · have hE := zite_f hE c130
        have t132 := zt_nle c130
        obtain ⟨w141, e142⟩ : ∃ z, mX5_laysState_S51 k1_102 R103 = z := ⟨_, rfl⟩
        have hE := zbnd_cut hE e142
        try have t151 := zt_add (a := 2) (b := k1_102) (by omega) (by omega)
        try have t154 := zt_add (a := k1_102) (b := 1) (by omega) (by omega)
        obtain ⟨y152, e153⟩ : ∃ z : Int32, (k1_102 + 1) = z := ⟨_, rfl⟩
        have hE := zbnd_cut hE e153
        have t155 := congrArg Int32.toInt e153
        exact ih y152 (zsF R103 25 (upd (R103 25) (2 + k1_102).toNatClampNeg ((((100 * (R103 7 k1_102.toNatClampNeg)) + (20 * (R103 8 k1_102.toNatClampNeg))) + w141) + 1))) (⟨by (show 0 ≤ Int32.toInt y152; omega), by (show Int32.toInt y152 ≤ 10; omega), hIR103⟩) (by omega) _ hE
  obtain ⟨⟨k1_156, R157⟩, e158⟩ : ∃ z, mX5_laysState_L43  11 0 R59 = z := ⟨_, rfl⟩
  have hE := zbnd2_cut hE e158
  have hI159 := hL43 11 0 R59 (⟨by (show 0 ≤ Int32.toInt 0; omega), by (show Int32.toInt 0 ≤ 10; omega), hIR59⟩) (by omega) _ e158
  have hI159 : (0 ≤ Int32.toInt k1_156) ∧ (Int32.toInt k1_156 ≤ 10) ∧ (zIR R157) := hI159
  obtain ⟨i160, i161, hIR157⟩ := id hI159
  obtain ⟨⟨i162, i163⟩, ⟨i164, i165⟩, ⟨i166, i167⟩, ⟨i168, i169⟩, ⟨i170, i171⟩, hIR157_b14, hIR157_p15⟩ := id hIR157
  have hL116 : ∀ (n193 : Nat) (k1_191 : Int32) (R192 : zS_t), (0 ≤ Int32.toInt k1_191) ∧ (Int32.toInt k1_191 ≤ 12) ∧ (zIR R192) → 13 - Int32.toInt k1_191 ≤ (n193 : Int) → ∀ Y194, mX5_laysState_L116  n193 k1_191 R192 = Y194 → (0 ≤ Int32.toInt Y194.1) ∧ (Int32.toInt Y194.1 ≤ 12) ∧ (zIR (Y194.2)) := by
    intro n193
    induction n193 with
    | zero =>
      intro k1_191 R192 hI hM9
      obtain ⟨i195, i196, hIR192⟩ := id hI
      obtain ⟨⟨i197, i198⟩, ⟨i199, i200⟩, ⟨i201, i202⟩, ⟨i203, i204⟩, ⟨i205, i206⟩, hIR192_b14, hIR192_p15⟩ := id hIR192
      exact absurd hM9 (by omega)
    | succ n193 ih =>
      intro k1_191 R192 hI hM9 Y194 hE
      obtain ⟨i207, i208, hIR192⟩ := id hI
      obtain ⟨⟨i209, i210⟩, ⟨i211, i212⟩, ⟨i213, i214⟩, ⟨i215, i216⟩, ⟨i217, i218⟩, hIR192_b14, hIR192_p15⟩ := id hIR192
      rw [mX5_laysState_L116.eq_2] at hE
      by_cases c219 : (R192 12 0) ≤ k1_191
      · have hE := zite_t hE c219
        have t220 := zt_le c219
        subst hE
        exact ⟨by (show 0 ≤ Int32.toInt k1_191; omega), by (show Int32.toInt k1_191 ≤ 12; omega), hIR192⟩
      · have hE := zite_f hE c219
        have t221 := zt_nle c219
        obtain ⟨w225, e226⟩ : ∃ z, mX5_laysState_S142 k1_191 R192 = z := ⟨_, rfl⟩
        have hE := zbnd_cut hE e226
        obtain ⟨t230, t231⟩ := hIR192_p15 k1_191.toNatClampNeg
        obtain ⟨r232, e233⟩ : ∃ z, mX5_targetOf k1_191 R192 = z := ⟨_, rfl⟩
        have hE := zbnd_cut hE e233
        try have t235 := zt_add (a := 12) (b := k1_191) (by omega) (by omega)
        try have t238 := zt_add (a := k1_191) (b := 1) (by omega) (by omega)
        obtain ⟨y236, e237⟩ : ∃ z : Int32, (k1_191 + 1) = z := ⟨_, rfl⟩
        have hE := zbnd_cut hE e237
        have t239 := congrArg Int32.toInt e237
        exact ih y236 (zsF R192 25 (upd (R192 25) (12 + k1_191).toNatClampNeg (((((1000 * (R192 13 k1_191.toNatClampNeg)) + w225) + (20 * (R192 15 k1_191.toNatClampNeg))) + r232) + 1))) (⟨by (show 0 ≤ Int32.toInt y236; omega), by (show Int32.toInt y236 ≤ 12; omega), hIR192⟩) (by omega) _ hE
  obtain ⟨⟨k1_240, R241⟩, e242⟩ : ∃ z, mX5_laysState_L116  13 0 R157 = z := ⟨_, rfl⟩
  have hE := zbnd2_cut hE e242
  have hI243 := hL116 13 0 R157 (⟨by (show 0 ≤ Int32.toInt 0; omega), by (show Int32.toInt 0 ≤ 12; omega), hIR157⟩) (by omega) _ e242
  have hI243 : (0 ≤ Int32.toInt k1_240) ∧ (Int32.toInt k1_240 ≤ 12) ∧ (zIR R241) := hI243
  obtain ⟨i244, i245, hIR241⟩ := id hI243
  obtain ⟨⟨i246, i247⟩, ⟨i248, i249⟩, ⟨i250, i251⟩, ⟨i252, i253⟩, ⟨i254, i255⟩, hIR241_b14, hIR241_p15⟩ := id hIR241
  subst hE
  exact hIR241
theorem hw_X5_laysState_X5 : ∀ w ∈ wsX50, w ∈ wsX5_laysState := fun w h => List.mem_cons_of_mem _ (List.mem_append_right _ (h))
abbrev rmX5_laysState : Room := { frames := 2, cells := 0, slots := 0, locals := 45 }
theorem hd_X5_laysState : yX5_laysState.cls = RX5 ∧ yX5_laysState.cls ≠ "java/lang/invoke/MethodHandle" ∧ yX5_laysState.cls ≠ "java/lang/invoke/VarHandle" ∧ (parseMethodDescriptor yX5_laysState.desc).map (fun d => d.parameters.length) = some 0 := by decide +kernel
set_option maxHeartbeats 4000000 in
set_option maxRecDepth 100000 in
theorem c_X5_laysState (l : Launch) (G : zG_t)  (R : zS_t) (hIR : zIR R) : zCV l G.1 (zty G) yX5_laysState wsX5_laysState rmX5_laysState [.ref (G.2.2 6 0)] (zWR G R) (zWR G (mX5_laysState R)) := by
  obtain ⟨X, hE⟩ : ∃ z, mX5_laysState R = z := ⟨_, rfl⟩
  rw [hE]
  refine zb_V (cc := cX5_laysState) (maxL := 3) (by decide) rfl (Nat.le_of_ble_eq_true rfl) ?_
  intro p e s m args below meth c Q A F hret
  show zW p l e rmX5_laysState s m args below meth c 0 0 Q G.1 A 3 (zWR G R) [(0, .ref (G.2.2 6 0))] 0 []
  have k_m1 : Int32.toInt (-1) = -1 := by decide
  have k_0 : Int32.toInt 0 = 0 := by decide
  have k_1 : Int32.toInt 1 = 1 := by decide
  have k_2 : Int32.toInt 2 = 2 := by decide
  have k_7 : Int32.toInt 7 = 7 := by decide
  have k_12 : Int32.toInt 12 = 12 := by decide
  have k_20 : Int32.toInt 20 = 20 := by decide
  have k_24 : Int32.toInt 24 = 24 := by decide
  have k_100 : Int32.toInt 100 = 100 := by decide
  have k_500 : Int32.toInt 500 = 500 := by decide
  have k_1000 : Int32.toInt 1000 = 1000 := by decide
  obtain ⟨⟨i266, i267⟩, ⟨i268, i269⟩, ⟨i270, i271⟩, ⟨i272, i273⟩, ⟨i274, i275⟩, hIR_b14, hIR_p15⟩ := id hIR
  unfold mX5_laysState at hE
  refine zi_iconst (pc := 0) (v := 0) F dX5_laysState_0 rfl ?_
  refine zi_istore_n (pc := 1) (lv' := [(0, .ref (G.2.2 6 0)), (1, .int 0)]) F dX5_laysState_1 (by decide) rfl ?_
  have hL2 : ∀ (n10 : Nat) (k1_8 : Int32) (R9 : zS_t), (0 ≤ Int32.toInt k1_8) ∧ (Int32.toInt k1_8 ≤ 24) ∧ (zIR R9) → 25 - Int32.toInt k1_8 ≤ (n10 : Int) → ∀ Y11, mX5_laysState_L2  n10 k1_8 R9 = Y11 → (((0 ≤ Int32.toInt Y11.1) ∧ (Int32.toInt Y11.1 ≤ 24) ∧ (zIR (Y11.2))) → zW p l e rmX5_laysState s m args below meth c 0 0 Q G.1 A 3 (zWR G (Y11.2)) [(0, .ref (G.2.2 6 0)), (1, .int Y11.1)] 21 []) → zW p l e rmX5_laysState s m args below meth c 0 0 Q G.1 A 3 (zWR G R9) [(0, .ref (G.2.2 6 0)), (1, .int k1_8)] 2 [] := by
    intro n10
    induction n10 with
    | zero =>
      intro k1_8 R9 hI hM9
      obtain ⟨i12, i13, hIR9⟩ := id hI
      obtain ⟨⟨i14, i15⟩, ⟨i16, i17⟩, ⟨i18, i19⟩, ⟨i20, i21⟩, ⟨i22, i23⟩, hIR9_b14, hIR9_p15⟩ := id hIR9
      exact absurd hM9 (by omega)
    | succ n10 ih =>
      intro k1_8 R9 hI hM9 Y11 hE hK
      obtain ⟨i24, i25, hIR9⟩ := id hI
      obtain ⟨⟨i26, i27⟩, ⟨i28, i29⟩, ⟨i30, i31⟩, ⟨i32, i33⟩, ⟨i34, i35⟩, hIR9_b14, hIR9_p15⟩ := id hIR9
      rw [mX5_laysState_L2.eq_2] at hE
      refine zi_iload_n (pc := 2) F dX5_laysState_2 1 rfl ?_
      refine zi_bipush (pc := 3) (v := 24) F dX5_laysState_3 rfl ?_
      refine zi_icmp_ge (pc := 5) (tgt := 21) F dX5_laysState_5 (by decide) (fun c36 => ?_) (fun c36 => ?_)
      · have hE := zite_t hE c36
        have t37 := zt_le c36
        subst hE
        refine zi_sub [0, 1] rfl ?_
        exact hK (⟨by (show 0 ≤ Int32.toInt k1_8; omega), by (show Int32.toInt k1_8 ≤ 24; omega), hIR9⟩)
      · have hE := zite_f hE c36
        have t38 := zt_nle c36
        refine zi_aload_n (pc := 8) F dX5_laysState_8 0 rfl ?_
        refine zi_get (pc := 9) (C := RX5) (T := TX5) (N := 27) (v := .ref (G.2.2 6 17)) F (hw_X5_laysState_X5) 0 rfl rfl 25 (by decide) (List.mem_of_getElem? (i := 1) rfl) rfl rfl dX5_laysState_9 ?_
        refine zi_iload_n (pc := 12) F dX5_laysState_12 1 rfl ?_
        refine zi_iconst (pc := 13) (v := 0) F dX5_laysState_13 rfl ?_
        refine zi_iast (pc := 14) (ws' := zWR G (zsF R9 25 (upd (R9 25) k1_8.toNatClampNeg 0))) F 17 0 rfl rfl (zin (a := k1_8) (by omega) (by omega)) rfl dX5_laysState_14 ?_
        try have t41 := zt_add (a := k1_8) (b := 1) (by omega) (by omega)
        obtain ⟨y39, e40⟩ : ∃ z : Int32, (k1_8 + 1) = z := ⟨_, rfl⟩
        have hE := zbnd_cut hE e40
        have t42 := congrArg Int32.toInt e40
        refine zi_iinc (pc := 15) (lv' := [(0, .ref (G.2.2 6 0)), (1, .int y39)]) F dX5_laysState_15 1 rfl e40 (by decide) rfl ?_
        refine zi_goto (pc := 18) (tgt := 2) F dX5_laysState_18 (by decide) ?_
        refine zi_sub [0, 1] rfl ?_
        exact ih y39 (zsF R9 25 (upd (R9 25) k1_8.toNatClampNeg 0)) (⟨by (show 0 ≤ Int32.toInt y39; omega), by (show Int32.toInt y39 ≤ 24; omega), hIR9⟩) (by omega) _ hE hK
  obtain ⟨⟨k1_43, R44⟩, e45⟩ : ∃ z, mX5_laysState_L2  25 0 R = z := ⟨_, rfl⟩
  have hE := zbnd2_cut hE e45
  refine hL2 25 0 R (⟨by (show 0 ≤ Int32.toInt 0; omega), by (show Int32.toInt 0 ≤ 24; omega), hIR⟩) (by omega) _ e45 (fun hI46 => ?_)
  have hI46 : (0 ≤ Int32.toInt k1_43) ∧ (Int32.toInt k1_43 ≤ 24) ∧ (zIR R44) := hI46
  obtain ⟨i47, i48, hIR44⟩ := id hI46
  obtain ⟨⟨i49, i50⟩, ⟨i51, i52⟩, ⟨i53, i54⟩, ⟨i55, i56⟩, ⟨i57, i58⟩, hIR44_b14, hIR44_p15⟩ := id hIR44
  show zW p l e rmX5_laysState s m args below meth c 0 0 Q G.1 A 3 (zWR G R44) [(0, .ref (G.2.2 6 0)), (1, .int k1_43)] 21 []
  refine zi_aload_n (pc := 21) F dX5_laysState_21 0 rfl ?_
  refine zi_get (pc := 22) (C := RX5) (T := TX5) (N := 27) (v := .ref (G.2.2 6 17)) F (hw_X5_laysState_X5) 0 rfl rfl 25 (by decide) (List.mem_of_getElem? (i := 1) rfl) rfl rfl dX5_laysState_22 ?_
  refine zi_iconst (pc := 25) (v := 0) F dX5_laysState_25 rfl ?_
  refine zi_aload_n (pc := 26) F dX5_laysState_26 0 rfl ?_
  refine zi_get (pc := 27) (C := RX5) (T := TX5) (N := 27) (v := .int (R44 6 0)) F (hw_X5_laysState_X5) 0 rfl rfl 6 (by decide) (List.mem_of_getElem? (i := 2) rfl) rfl rfl dX5_laysState_27 ?_
  refine zi_iast (pc := 30) (ws' := zWR G (zsF R44 25 (upd (R44 25) (0 : Int32).toNatClampNeg (R44 6 0)))) F 17 0 rfl rfl (zin (by decide) (by decide)) rfl dX5_laysState_30 ?_
  refine zi_aload_n (pc := 31) F dX5_laysState_31 0 rfl ?_
  refine zi_get (pc := 32) (C := RX5) (T := TX5) (N := 27) (v := .ref (G.2.2 6 17)) F (hw_X5_laysState_X5) 0 rfl rfl 25 (by decide) (List.mem_of_getElem? (i := 1) rfl) rfl rfl dX5_laysState_32 ?_
  refine zi_iconst (pc := 35) (v := 1) F dX5_laysState_35 rfl ?_
  refine zi_aload_n (pc := 36) F dX5_laysState_36 0 rfl ?_
  refine zi_get (pc := 37) (C := RX5) (T := TX5) (N := 27) (v := .int (R44 12 0)) F (hw_X5_laysState_X5) 0 rfl rfl 12 (by decide) (List.mem_of_getElem? (i := 3) rfl) rfl rfl dX5_laysState_37 ?_
  refine zi_iast (pc := 40) (ws' := zWR G (zsF R44 25 (upd (upd (R44 25) (0 : Int32).toNatClampNeg (R44 6 0)) (1 : Int32).toNatClampNeg (R44 12 0)))) F 17 0 rfl rfl (zin (by decide) (by decide)) rfl dX5_laysState_40 ?_
  refine zi_iconst (pc := 41) (v := 0) F dX5_laysState_41 rfl ?_
  refine zi_istore_n (pc := 42) (lv' := [(0, .ref (G.2.2 6 0)), (1, .int 0)]) F dX5_laysState_42 (by decide) rfl ?_
  have hIR59 : zIR (zsF R44 25 (upd (upd (R44 25) (0 : Int32).toNatClampNeg (R44 6 0)) (1 : Int32).toNatClampNeg (R44 12 0))) := hIR44
  refine zi_nameW (w := fun Z9 => zWR G Z9) (S := (zsF R44 25 (upd (upd (R44 25) (0 : Int32).toNatClampNeg (R44 6 0)) (1 : Int32).toNatClampNeg (R44 12 0)))) (fun R59 e60 => ?_)
  have hE := zbnd_cut hE e60
  have t61 : Int32.toInt (R59 6 0) = Int32.toInt (R44 6 0) := by rw [← e60]; rfl
  have t62 : Int32.toInt (R59 12 0) = Int32.toInt (R44 12 0) := by rw [← e60]; rfl
  have t63 : Int32.toInt (R59 23 0) = Int32.toInt (R44 23 0) := by rw [← e60]; rfl
  have t64 : Int32.toInt (R59 0 0) = Int32.toInt (R44 0 0) := by rw [← e60]; rfl
  have t65 : Int32.toInt (R59 1 0) = Int32.toInt (R44 1 0) := by rw [← e60]; rfl
  rw [e60] at hIR59
  obtain ⟨⟨i66, i67⟩, ⟨i68, i69⟩, ⟨i70, i71⟩, ⟨i72, i73⟩, ⟨i74, i75⟩, hIR59_b14, hIR59_p15⟩ := id hIR59
  have hL43 : ∀ (n105 : Nat) (k1_103 : Int32) (R104 : zS_t), (0 ≤ Int32.toInt k1_103) ∧ (Int32.toInt k1_103 ≤ 10) ∧ (zIR R104) → 11 - Int32.toInt k1_103 ≤ (n105 : Int) → ∀ Y106, mX5_laysState_L43  n105 k1_103 R104 = Y106 → (((0 ≤ Int32.toInt Y106.1) ∧ (Int32.toInt Y106.1 ≤ 10) ∧ (zIR (Y106.2))) → zW p l e rmX5_laysState s m args below meth c 0 0 Q G.1 A 3 (zWR G (Y106.2)) [(0, .ref (G.2.2 6 0)), (1, .int Y106.1)] 114 []) → zW p l e rmX5_laysState s m args below meth c 0 0 Q G.1 A 3 (zWR G R104) [(0, .ref (G.2.2 6 0)), (1, .int k1_103)] 43 [] := by
    intro n105
    induction n105 with
    | zero =>
      intro k1_103 R104 hI hM9
      obtain ⟨i107, i108, hIR104⟩ := id hI
      obtain ⟨⟨i109, i110⟩, ⟨i111, i112⟩, ⟨i113, i114⟩, ⟨i115, i116⟩, ⟨i117, i118⟩, hIR104_b14, hIR104_p15⟩ := id hIR104
      exact absurd hM9 (by omega)
    | succ n105 ih =>
      intro k1_103 R104 hI hM9 Y106 hE hK
      obtain ⟨i119, i120, hIR104⟩ := id hI
      obtain ⟨⟨i121, i122⟩, ⟨i123, i124⟩, ⟨i125, i126⟩, ⟨i127, i128⟩, ⟨i129, i130⟩, hIR104_b14, hIR104_p15⟩ := id hIR104
      rw [mX5_laysState_L43.eq_2] at hE
      refine zi_iload_n (pc := 43) F dX5_laysState_43 1 rfl ?_
      refine zi_aload_n (pc := 44) F dX5_laysState_44 0 rfl ?_
      refine zi_get (pc := 45) (C := RX5) (T := TX5) (N := 27) (v := .int (R104 6 0)) F (hw_X5_laysState_X5) 0 rfl rfl 6 (by decide) (List.mem_of_getElem? (i := 2) rfl) rfl rfl dX5_laysState_45 ?_
      refine zi_icmp_ge (pc := 48) (tgt := 114) F dX5_laysState_48 (by decide) (fun c131 => ?_) (fun c131 => ?_)
      · have hE := zite_t hE c131
        have t132 := zt_le c131
        subst hE
        refine zi_sub [0, 1] rfl ?_
        exact hK (⟨by (show 0 ≤ Int32.toInt k1_103; omega), by (show Int32.toInt k1_103 ≤ 10; omega), hIR104⟩)
      · have hE := zite_f hE c131
        have t133 := zt_nle c131
        obtain ⟨w142, e143⟩ : ∃ z, mX5_laysState_S51 k1_103 R104 = z := ⟨_, rfl⟩
        have hE := zbnd_cut hE e143
        have hK144 : zW p l e rmX5_laysState s m args below meth c 0 0 Q G.1 A 3 (zWR G R104) [(0, .ref (G.2.2 6 0)), (1, .int k1_103)] 76 [.int w142] → zW p l e rmX5_laysState s m args below meth c 0 0 Q G.1 A 3 (zWR G R104) [(0, .ref (G.2.2 6 0)), (1, .int k1_103)] 51 [] := by
          intro hK
          have hE := e143
          unfold mX5_laysState_S51 at hE
          refine zi_aload_n (pc := 51) F dX5_laysState_51 0 rfl ?_
          refine zi_get (pc := 52) (C := RX5) (T := TX5) (N := 27) (v := .ref (G.2.2 6 2)) F (hw_X5_laysState_X5) 0 rfl rfl 7 (by decide) (List.mem_of_getElem? (i := 4) rfl) rfl rfl dX5_laysState_52 ?_
          refine zi_iload_n (pc := 55) F dX5_laysState_55 1 rfl ?_
          refine zi_iald (pc := 56) (v := (R104 7 k1_103.toNatClampNeg)) F 2 0 rfl rfl (zin (a := k1_103) (by omega) (by omega)) rfl dX5_laysState_56 ?_
          refine zi_bipush (pc := 57) (v := 7) F dX5_laysState_57 rfl ?_
          refine zi_icmp_ne (pc := 59) (tgt := 75) F dX5_laysState_59 (by decide) (fun c145 => ?_) (fun c145 => ?_)
          · have hE := zite_f hE c145
            have t146 := zt_ne c145
            refine zi_iconst (pc := 75) (v := (-1)) F dX5_laysState_75 rfl ?_
            subst hE
            exact zi_sub [0, 1] rfl hK
          · have hE := zite_t hE c145
            have t147 := congrArg Int32.toInt c145
            refine zi_aload_n (pc := 62) F dX5_laysState_62 0 rfl ?_
            refine zi_aload_n (pc := 63) F dX5_laysState_63 0 rfl ?_
            refine zi_get (pc := 64) (C := RX5) (T := TX5) (N := 27) (v := .ref (G.2.2 6 5)) F (hw_X5_laysState_X5) 0 rfl rfl 10 (by decide) (List.mem_of_getElem? (i := 5) rfl) rfl rfl dX5_laysState_64 ?_
            refine zi_iload_n (pc := 67) F dX5_laysState_67 1 rfl ?_
            refine zi_iald (pc := 68) (v := (R104 10 k1_103.toNatClampNeg)) F 5 0 rfl rfl (zin (a := k1_103) (by omega) (by omega)) rfl dX5_laysState_68 ?_
            have hM150 := c_X5_thingOf l G (R104 10 k1_103.toNatClampNeg) R104 (hIR104)
            have pp151 := pp_X5_thingOf (R104 10 k1_103.toNatClampNeg) R104 (hIR104)
            obtain ⟨r148, e149⟩ : ∃ z, mX5_thingOf (R104 10 k1_103.toNatClampNeg) R104 = z := ⟨_, rfl⟩
            have hE := zbnd_cut hE e149
            rw [e149] at hM150
            rw [e149] at pp151
            have q152 := pp151
            refine zi_callVI (pc := 69) (rest := []) (ws' := zWR G R104) F hM150 (cwV 1 F.1.2.2.2.2 gX5_laysState_X5_thingOf rfl rfl rfl hd_X5_thingOf ⟨Nat.le_of_ble_eq_true rfl, Nat.le_of_ble_eq_true rfl⟩) 0 rfl rfl _ _ (zw_nil _) (zw_nil _).symm rfl rfl (Nat.le_of_ble_eq_true rfl) dX5_laysState_69 ⟨Nat.zero_le _, Nat.zero_le _⟩ ?_
            refine zi_goto (pc := 72) (tgt := 76) F dX5_laysState_72 (by decide) ?_
            subst hE
            exact zi_sub [0, 1] rfl hK
        refine hK144 ?_
        refine zi_istore_n (pc := 76) (lv' := [(0, .ref (G.2.2 6 0)), (1, .int k1_103), (2, .int w142)]) F dX5_laysState_76 (by decide) rfl ?_
        refine zi_aload_n (pc := 77) F dX5_laysState_77 0 rfl ?_
        refine zi_get (pc := 78) (C := RX5) (T := TX5) (N := 27) (v := .ref (G.2.2 6 17)) F (hw_X5_laysState_X5) 0 rfl rfl 25 (by decide) (List.mem_of_getElem? (i := 1) rfl) rfl rfl dX5_laysState_78 ?_
        refine zi_iconst (pc := 81) (v := 2) F dX5_laysState_81 rfl ?_
        refine zi_iload_n (pc := 82) F dX5_laysState_82 1 rfl ?_
        refine zi_iadd (pc := 83) F dX5_laysState_83 ?_
        refine zi_bipush (pc := 84) (v := 100) F dX5_laysState_84 rfl ?_
        refine zi_aload_n (pc := 86) F dX5_laysState_86 0 rfl ?_
        refine zi_get (pc := 87) (C := RX5) (T := TX5) (N := 27) (v := .ref (G.2.2 6 2)) F (hw_X5_laysState_X5) 0 rfl rfl 7 (by decide) (List.mem_of_getElem? (i := 4) rfl) rfl rfl dX5_laysState_87 ?_
        refine zi_iload_n (pc := 90) F dX5_laysState_90 1 rfl ?_
        refine zi_iald (pc := 91) (v := (R104 7 k1_103.toNatClampNeg)) F 2 0 rfl rfl (zin (a := k1_103) (by omega) (by omega)) rfl dX5_laysState_91 ?_
        refine zi_imul (pc := 92) F dX5_laysState_92 ?_
        refine zi_bipush (pc := 93) (v := 20) F dX5_laysState_93 rfl ?_
        refine zi_aload_n (pc := 95) F dX5_laysState_95 0 rfl ?_
        refine zi_get (pc := 96) (C := RX5) (T := TX5) (N := 27) (v := .ref (G.2.2 6 3)) F (hw_X5_laysState_X5) 0 rfl rfl 8 (by decide) (List.mem_of_getElem? (i := 6) rfl) rfl rfl dX5_laysState_96 ?_
        refine zi_iload_n (pc := 99) F dX5_laysState_99 1 rfl ?_
        refine zi_iald (pc := 100) (v := (R104 8 k1_103.toNatClampNeg)) F 3 0 rfl rfl (zin (a := k1_103) (by omega) (by omega)) rfl dX5_laysState_100 ?_
        refine zi_imul (pc := 101) F dX5_laysState_101 ?_
        refine zi_iadd (pc := 102) F dX5_laysState_102 ?_
        refine zi_iload_n (pc := 103) F dX5_laysState_103 2 rfl ?_
        refine zi_iadd (pc := 104) F dX5_laysState_104 ?_
        refine zi_iconst (pc := 105) (v := 1) F dX5_laysState_105 rfl ?_
        refine zi_iadd (pc := 106) F dX5_laysState_106 ?_
        try have t153 := zt_add (a := 2) (b := k1_103) (by omega) (by omega)
        refine zi_iast (pc := 107) (ws' := zWR G (zsF R104 25 (upd (R104 25) (2 + k1_103).toNatClampNeg ((((100 * (R104 7 k1_103.toNatClampNeg)) + (20 * (R104 8 k1_103.toNatClampNeg))) + w142) + 1)))) F 17 0 rfl rfl (zin (a := (2 + k1_103)) (by omega) (by omega)) rfl dX5_laysState_107 ?_
        try have t156 := zt_add (a := k1_103) (b := 1) (by omega) (by omega)
        obtain ⟨y154, e155⟩ : ∃ z : Int32, (k1_103 + 1) = z := ⟨_, rfl⟩
        have hE := zbnd_cut hE e155
        have t157 := congrArg Int32.toInt e155
        refine zi_iinc (pc := 108) (lv' := [(0, .ref (G.2.2 6 0)), (1, .int y154), (2, .int w142)]) F dX5_laysState_108 1 rfl e155 (by decide) rfl ?_
        refine zi_goto (pc := 111) (tgt := 43) F dX5_laysState_111 (by decide) ?_
        refine zi_sub [0, 1] rfl ?_
        exact ih y154 (zsF R104 25 (upd (R104 25) (2 + k1_103).toNatClampNeg ((((100 * (R104 7 k1_103.toNatClampNeg)) + (20 * (R104 8 k1_103.toNatClampNeg))) + w142) + 1))) (⟨by (show 0 ≤ Int32.toInt y154; omega), by (show Int32.toInt y154 ≤ 10; omega), hIR104⟩) (by omega) _ hE hK
  obtain ⟨⟨k1_158, R159⟩, e160⟩ : ∃ z, mX5_laysState_L43  11 0 R59 = z := ⟨_, rfl⟩
  have hE := zbnd2_cut hE e160
  refine hL43 11 0 R59 (⟨by (show 0 ≤ Int32.toInt 0; omega), by (show Int32.toInt 0 ≤ 10; omega), hIR59⟩) (by omega) _ e160 (fun hI161 => ?_)
  have hI161 : (0 ≤ Int32.toInt k1_158) ∧ (Int32.toInt k1_158 ≤ 10) ∧ (zIR R159) := hI161
  obtain ⟨i162, i163, hIR159⟩ := id hI161
  obtain ⟨⟨i164, i165⟩, ⟨i166, i167⟩, ⟨i168, i169⟩, ⟨i170, i171⟩, ⟨i172, i173⟩, hIR159_b14, hIR159_p15⟩ := id hIR159
  show zW p l e rmX5_laysState s m args below meth c 0 0 Q G.1 A 3 (zWR G R159) [(0, .ref (G.2.2 6 0)), (1, .int k1_158)] 114 []
  refine zi_iconst (pc := 114) (v := 0) F dX5_laysState_114 rfl ?_
  refine zi_istore_n (pc := 115) (lv' := [(0, .ref (G.2.2 6 0)), (1, .int 0)]) F dX5_laysState_115 (by decide) rfl ?_
  have hL116 : ∀ (n196 : Nat) (k1_194 : Int32) (R195 : zS_t), (0 ≤ Int32.toInt k1_194) ∧ (Int32.toInt k1_194 ≤ 12) ∧ (zIR R195) → 13 - Int32.toInt k1_194 ≤ (n196 : Int) → ∀ Y197, mX5_laysState_L116  n196 k1_194 R195 = Y197 → (((0 ≤ Int32.toInt Y197.1) ∧ (Int32.toInt Y197.1 ≤ 12) ∧ (zIR (Y197.2))) → zW p l e rmX5_laysState s m args below meth c 0 0 Q G.1 A 3 (zWR G (Y197.2)) [(0, .ref (G.2.2 6 0)), (1, .int Y197.1)] 184 []) → zW p l e rmX5_laysState s m args below meth c 0 0 Q G.1 A 3 (zWR G R195) [(0, .ref (G.2.2 6 0)), (1, .int k1_194)] 116 [] := by
    intro n196
    induction n196 with
    | zero =>
      intro k1_194 R195 hI hM9
      obtain ⟨i198, i199, hIR195⟩ := id hI
      obtain ⟨⟨i200, i201⟩, ⟨i202, i203⟩, ⟨i204, i205⟩, ⟨i206, i207⟩, ⟨i208, i209⟩, hIR195_b14, hIR195_p15⟩ := id hIR195
      exact absurd hM9 (by omega)
    | succ n196 ih =>
      intro k1_194 R195 hI hM9 Y197 hE hK
      obtain ⟨i210, i211, hIR195⟩ := id hI
      obtain ⟨⟨i212, i213⟩, ⟨i214, i215⟩, ⟨i216, i217⟩, ⟨i218, i219⟩, ⟨i220, i221⟩, hIR195_b14, hIR195_p15⟩ := id hIR195
      rw [mX5_laysState_L116.eq_2] at hE
      refine zi_iload_n (pc := 116) F dX5_laysState_116 1 rfl ?_
      refine zi_aload_n (pc := 117) F dX5_laysState_117 0 rfl ?_
      refine zi_get (pc := 118) (C := RX5) (T := TX5) (N := 27) (v := .int (R195 12 0)) F (hw_X5_laysState_X5) 0 rfl rfl 12 (by decide) (List.mem_of_getElem? (i := 3) rfl) rfl rfl dX5_laysState_118 ?_
      refine zi_icmp_ge (pc := 121) (tgt := 184) F dX5_laysState_121 (by decide) (fun c222 => ?_) (fun c222 => ?_)
      · have hE := zite_t hE c222
        have t223 := zt_le c222
        subst hE
        refine zi_sub [0, 1] rfl ?_
        exact hK (⟨by (show 0 ≤ Int32.toInt k1_194; omega), by (show Int32.toInt k1_194 ≤ 12; omega), hIR195⟩)
      · have hE := zite_f hE c222
        have t224 := zt_nle c222
        refine zi_aload_n (pc := 124) F dX5_laysState_124 0 rfl ?_
        refine zi_get (pc := 125) (C := RX5) (T := TX5) (N := 27) (v := .ref (G.2.2 6 17)) F (hw_X5_laysState_X5) 0 rfl rfl 25 (by decide) (List.mem_of_getElem? (i := 1) rfl) rfl rfl dX5_laysState_125 ?_
        refine zi_bipush (pc := 128) (v := 12) F dX5_laysState_128 rfl ?_
        refine zi_iload_n (pc := 130) F dX5_laysState_130 1 rfl ?_
        refine zi_iadd (pc := 131) F dX5_laysState_131 ?_
        refine zi_sipush (pc := 132) (v := 1000) F dX5_laysState_132 rfl ?_
        refine zi_aload_n (pc := 135) F dX5_laysState_135 0 rfl ?_
        refine zi_get (pc := 136) (C := RX5) (T := TX5) (N := 27) (v := .ref (G.2.2 6 6)) F (hw_X5_laysState_X5) 0 rfl rfl 13 (by decide) (List.mem_of_getElem? (i := 7) rfl) rfl rfl dX5_laysState_136 ?_
        refine zi_iload_n (pc := 139) F dX5_laysState_139 1 rfl ?_
        refine zi_iald (pc := 140) (v := (R195 13 k1_194.toNatClampNeg)) F 6 0 rfl rfl (zin (a := k1_194) (by omega) (by omega)) rfl dX5_laysState_140 ?_
        refine zi_imul (pc := 141) F dX5_laysState_141 ?_
        obtain ⟨w228, e229⟩ : ∃ z, mX5_laysState_S142 k1_194 R195 = z := ⟨_, rfl⟩
        have hE := zbnd_cut hE e229
        have hK230 : zW p l e rmX5_laysState s m args below meth c 0 0 Q G.1 A 3 (zWR G R195) [(0, .ref (G.2.2 6 0)), (1, .int k1_194)] 158 [.int w228, .int (1000 * (R195 13 k1_194.toNatClampNeg)), .int (12 + k1_194), .ref (G.2.2 6 17)] → zW p l e rmX5_laysState s m args below meth c 0 0 Q G.1 A 3 (zWR G R195) [(0, .ref (G.2.2 6 0)), (1, .int k1_194)] 142 [.int (1000 * (R195 13 k1_194.toNatClampNeg)), .int (12 + k1_194), .ref (G.2.2 6 17)] := by
          intro hK
          have hE := e229
          unfold mX5_laysState_S142 at hE
          refine zi_aload_n (pc := 142) F dX5_laysState_142 0 rfl ?_
          refine zi_get (pc := 143) (C := RX5) (T := TX5) (N := 27) (v := .ref (G.2.2 6 7)) F (hw_X5_laysState_X5) 0 rfl rfl 14 (by decide) (List.mem_of_getElem? (i := 8) rfl) rfl rfl dX5_laysState_143 ?_
          refine zi_iload_n (pc := 146) F dX5_laysState_146 1 rfl ?_
          refine zi_zald (pc := 147) (v := (R195 14 k1_194.toNatClampNeg)) F 7 1 rfl rfl (zin (a := k1_194) (by omega) (by omega)) rfl dX5_laysState_147 ?_
          refine zi_if_eq (pc := 148) (tgt := 157) F dX5_laysState_148 (by decide) (fun c231 => ?_) (fun c231 => ?_)
          · have hE := zite_t hE c231
            have t232 := congrArg Int32.toInt c231
            refine zi_iconst (pc := 157) (v := 0) F dX5_laysState_157 rfl ?_
            subst hE
            exact zi_sub [0, 1] rfl hK
          · have hE := zite_f hE c231
            have t233 := zt_ne c231
            refine zi_sipush (pc := 151) (v := 500) F dX5_laysState_151 rfl ?_
            refine zi_goto (pc := 154) (tgt := 158) F dX5_laysState_154 (by decide) ?_
            subst hE
            exact zi_sub [0, 1] rfl hK
        refine hK230 ?_
        refine zi_iadd (pc := 158) F dX5_laysState_158 ?_
        refine zi_bipush (pc := 159) (v := 20) F dX5_laysState_159 rfl ?_
        refine zi_aload_n (pc := 161) F dX5_laysState_161 0 rfl ?_
        refine zi_get (pc := 162) (C := RX5) (T := TX5) (N := 27) (v := .ref (G.2.2 6 8)) F (hw_X5_laysState_X5) 0 rfl rfl 15 (by decide) (List.mem_of_getElem? (i := 9) rfl) rfl rfl dX5_laysState_162 ?_
        refine zi_iload_n (pc := 165) F dX5_laysState_165 1 rfl ?_
        obtain ⟨t234, t235⟩ := hIR195_p15 k1_194.toNatClampNeg
        refine zi_iald (pc := 166) (v := (R195 15 k1_194.toNatClampNeg)) F 8 0 rfl rfl (zin (a := k1_194) (by omega) (by omega)) rfl dX5_laysState_166 ?_
        refine zi_imul (pc := 167) F dX5_laysState_167 ?_
        refine zi_iadd (pc := 168) F dX5_laysState_168 ?_
        refine zi_aload_n (pc := 169) F dX5_laysState_169 0 rfl ?_
        refine zi_iload_n (pc := 170) F dX5_laysState_170 1 rfl ?_
        have hM238 := c_X5_targetOf l G k1_194 R195 (hIR195) (by first | omega | (show 0 ≤ Int32.toInt k1_194 ∧ Int32.toInt k1_194 < 12; omega))
        obtain ⟨r236, e237⟩ : ∃ z, mX5_targetOf k1_194 R195 = z := ⟨_, rfl⟩
        have hE := zbnd_cut hE e237
        rw [e237] at hM238
        refine zi_callVI (pc := 171) (rest := [.int (((1000 * (R195 13 k1_194.toNatClampNeg)) + w228) + (20 * (R195 15 k1_194.toNatClampNeg))), .int (12 + k1_194), .ref (G.2.2 6 17)]) (ws' := zWR G R195) F hM238 (cwV 1 F.1.2.2.2.2 gX5_laysState_X5_targetOf rfl rfl rfl hd_X5_targetOf ⟨Nat.le_of_ble_eq_true rfl, Nat.le_of_ble_eq_true rfl⟩) 0 rfl rfl _ _ (zw_nil _) (zw_nil _).symm rfl rfl (Nat.le_of_ble_eq_true rfl) dX5_laysState_171 ⟨Nat.zero_le _, Nat.zero_le _⟩ ?_
        refine zi_iadd (pc := 174) F dX5_laysState_174 ?_
        refine zi_iconst (pc := 175) (v := 1) F dX5_laysState_175 rfl ?_
        refine zi_iadd (pc := 176) F dX5_laysState_176 ?_
        try have t239 := zt_add (a := 12) (b := k1_194) (by omega) (by omega)
        refine zi_iast (pc := 177) (ws' := zWR G (zsF R195 25 (upd (R195 25) (12 + k1_194).toNatClampNeg (((((1000 * (R195 13 k1_194.toNatClampNeg)) + w228) + (20 * (R195 15 k1_194.toNatClampNeg))) + r236) + 1)))) F 17 0 rfl rfl (zin (a := (12 + k1_194)) (by omega) (by omega)) rfl dX5_laysState_177 ?_
        try have t242 := zt_add (a := k1_194) (b := 1) (by omega) (by omega)
        obtain ⟨y240, e241⟩ : ∃ z : Int32, (k1_194 + 1) = z := ⟨_, rfl⟩
        have hE := zbnd_cut hE e241
        have t243 := congrArg Int32.toInt e241
        refine zi_iinc (pc := 178) (lv' := [(0, .ref (G.2.2 6 0)), (1, .int y240)]) F dX5_laysState_178 1 rfl e241 (by decide) rfl ?_
        refine zi_goto (pc := 181) (tgt := 116) F dX5_laysState_181 (by decide) ?_
        refine zi_sub [0, 1] rfl ?_
        exact ih y240 (zsF R195 25 (upd (R195 25) (12 + k1_194).toNatClampNeg (((((1000 * (R195 13 k1_194.toNatClampNeg)) + w228) + (20 * (R195 15 k1_194.toNatClampNeg))) + r236) + 1))) (⟨by (show 0 ≤ Int32.toInt y240; omega), by (show Int32.toInt y240 ≤ 12; omega), hIR195⟩) (by omega) _ hE hK
  obtain ⟨⟨k1_244, R245⟩, e246⟩ : ∃ z, mX5_laysState_L116  13 0 R159 = z := ⟨_, rfl⟩
  have hE := zbnd2_cut hE e246
  refine hL116 13 0 R159 (⟨by (show 0 ≤ Int32.toInt 0; omega), by (show Int32.toInt 0 ≤ 12; omega), hIR159⟩) (by omega) _ e246 (fun hI247 => ?_)
  have hI247 : (0 ≤ Int32.toInt k1_244) ∧ (Int32.toInt k1_244 ≤ 12) ∧ (zIR R245) := hI247
  obtain ⟨i248, i249, hIR245⟩ := id hI247
  obtain ⟨⟨i250, i251⟩, ⟨i252, i253⟩, ⟨i254, i255⟩, ⟨i256, i257⟩, ⟨i258, i259⟩, hIR245_b14, hIR245_p15⟩ := id hIR245
  show zW p l e rmX5_laysState s m args below meth c 0 0 Q G.1 A 3 (zWR G R245) [(0, .ref (G.2.2 6 0)), (1, .int k1_244)] 184 []
  subst hE
  exact hret _ _ dX5_laysState_184
/-! X5_remembers -/
def mX5_remembers_L21 (k2_84 : Int32) (R1 : zS_t) : Nat → Int32 → Int32 → Int32 × Int32
  | 0, k3_116, k4_117 => (k3_116, k4_117)
  | n118 + 1, k3_116, k4_117 => if 24 ≤ k4_117 then (k3_116, k4_117) else (if (R1 24 ((24 * k2_84) + k4_117).toNatClampNeg) = (R1 25 k4_117.toNatClampNeg) then (zbnd ((k3_116 &&& 1)) (fun y139 => zbnd ((k4_117 + 1)) (fun y142 => mX5_remembers_L21 k2_84 R1 n118 y139 y142))) else (zbnd ((k3_116 &&& 0)) (fun y131 => zbnd ((k4_117 + 1)) (fun y134 => mX5_remembers_L21 k2_84 R1 n118 y131 y134))))
def mX5_remembers_L8 (R1 : zS_t) : Nat → Int32 → Int32 → Int32 × Int32
  | 0, k1_83, k2_84 => (k1_83, k2_84)
  | n85 + 1, k1_83, k2_84 => if (R1 23 0) ≤ k2_84 then (k1_83, k2_84) else (zbnd2 (mX5_remembers_L21 k2_84 R1 25 1 0) (fun k3_146 k4_147 => zbnd ((k1_83 ||| k3_146)) (fun y152 => zbnd ((k2_84 + 1)) (fun y155 => mX5_remembers_L8 R1 n85 y152 y155))))
def mX5_remembers_L120  : Nat → Int32 → zS_t → Int32 × zS_t
  | 0, k2_289, R290 => (k2_289, R290)
  | n291 + 1, k2_289, R290 => if (24 * (R290 23 0)) ≤ k2_289 then (k2_289, R290) else (zbnd ((k2_289 + 1)) (fun y325 => mX5_remembers_L120  n291 y325 (zsF R290 24 (upd (R290 24) k2_289.toNatClampNeg (R290 24 (k2_289 + 24).toNatClampNeg)))))
def mX5_remembers_S99 (k2_160 : Int32) (R1 : zS_t) : Int32 × zS_t := if (R1 23 0) = 40 then (zbnd ((zsI R1 23 ((R1 23 0) - 1))) (fun R368 => zbnd2 (mX5_remembers_L120  937 0 R368) (fun k2_436 R437 => (k2_436, R437)))) else (k2_160, R1)
def mX5_remembers_L154  : Nat → Int32 → zS_t → Int32 × zS_t
  | 0, k2_464, R465 => (k2_464, R465)
  | n466 + 1, k2_464, R465 => if 24 ≤ k2_464 then (k2_464, R465) else (zbnd ((k2_464 + 1)) (fun y499 => mX5_remembers_L154  n466 y499 (zsF R465 24 (upd (R465 24) ((24 * (R465 23 0)) + k2_464).toNatClampNeg (R465 25 k2_464.toNatClampNeg)))))
def mX5_remembers  (R : zS_t) : zS_t := zbnd (mX5_laysState R) (fun R1 => zbnd2 (mX5_remembers_L8 R1 41 0 0) (fun k1_159 k2_160 => if k1_159 = 0 then (zbnd2 (mX5_remembers_S99 k2_160 R1) (fun k2_255 R256 => zbnd2 (mX5_remembers_L154  25 0 R256) (fun k2_503 R504 => (zsI R504 23 ((R504 23 0) + 1))))) else (zsI (zsI (zsI R1 4 ((R1 4 0) + 1)) 12 0) 23 0)))
set_option maxHeartbeats 4000000 in
set_option maxRecDepth 100000 in
theorem pp_X5_remembers  (R : zS_t) (hIR : zIR R) : (zIR (mX5_remembers R)) := by
  obtain ⟨X, hE⟩ : ∃ z, mX5_remembers R = z := ⟨_, rfl⟩
  rw [hE]
  have k_0 : Int32.toInt 0 = 0 := by decide
  have k_1 : Int32.toInt 1 = 1 := by decide
  have k_24 : Int32.toInt 24 = 24 := by decide
  have k_40 : Int32.toInt 40 = 40 := by decide
  obtain ⟨⟨i429, i430⟩, ⟨i431, i432⟩, ⟨i433, i434⟩, ⟨i435, i436⟩, ⟨i437, i438⟩, hIR_b14, hIR_p15⟩ := id hIR
  unfold mX5_remembers at hE
  have pp4 := pp_X5_laysState  R (hIR)
  obtain ⟨R1, e2⟩ : ∃ z, mX5_laysState R = z := ⟨_, rfl⟩
  have hE := zbnd_cut hE e2
  rw [e2] at pp4
  have hIR1 := pp4
  obtain ⟨⟨i5, i6⟩, ⟨i7, i8⟩, ⟨i9, i10⟩, ⟨i11, i12⟩, ⟨i13, i14⟩, hIR1_b14, hIR1_p15⟩ := id hIR1
  have hL8 : ∀ (n85 : Nat) (k1_83 : Int32) (k2_84 : Int32), (0 ≤ Int32.toInt k2_84) ∧ (Int32.toInt k2_84 ≤ 40) → 41 - Int32.toInt k2_84 ≤ (n85 : Int) → ∀ Y86, mX5_remembers_L8 R1 n85 k1_83 k2_84 = Y86 → (0 ≤ Int32.toInt Y86.2) ∧ (Int32.toInt Y86.2 ≤ 40) := by
    intro n85
    induction n85 with
    | zero =>
      intro k1_83 k2_84 hI hM9
      obtain ⟨i87, i88⟩ := id hI
      exact absurd hM9 (by omega)
    | succ n85 ih =>
      intro k1_83 k2_84 hI hM9 Y86 hE
      obtain ⟨i89, i90⟩ := id hI
      rw [mX5_remembers_L8.eq_2] at hE
      by_cases c91 : (R1 23 0) ≤ k2_84
      · have hE := zite_t hE c91
        have t92 := zt_le c91
        subst hE
        exact ⟨by (show 0 ≤ Int32.toInt k2_84; omega), by (show Int32.toInt k2_84 ≤ 40; omega)⟩
      · have hE := zite_f hE c91
        have t93 := zt_nle c91
        have hL21 : ∀ (n118 : Nat) (k3_116 : Int32) (k4_117 : Int32), (0 ≤ Int32.toInt k4_117) ∧ (Int32.toInt k4_117 ≤ 24) → 25 - Int32.toInt k4_117 ≤ (n118 : Int) → ∀ Y119, mX5_remembers_L21 k2_84 R1 n118 k3_116 k4_117 = Y119 → (0 ≤ Int32.toInt Y119.2) ∧ (Int32.toInt Y119.2 ≤ 24) := by
          intro n118
          induction n118 with
          | zero =>
            intro k3_116 k4_117 hI hM9
            obtain ⟨i120, i121⟩ := id hI
            exact absurd hM9 (by omega)
          | succ n118 ih =>
            intro k3_116 k4_117 hI hM9 Y119 hE
            obtain ⟨i122, i123⟩ := id hI
            rw [mX5_remembers_L21.eq_2] at hE
            by_cases c124 : 24 ≤ k4_117
            · have hE := zite_t hE c124
              have t125 := zt_le c124
              subst hE
              exact ⟨by (show 0 ≤ Int32.toInt k4_117; omega), by (show Int32.toInt k4_117 ≤ 24; omega)⟩
            · have hE := zite_f hE c124
              have t126 := zt_nle c124
              try have t127 := zt_mulc (a := 24) (b := k2_84) (c := 24) rfl (by omega) (by omega)
              try have t128 := zt_add (a := (24 * k2_84)) (b := k4_117) (by omega) (by omega)
              by_cases c129 : (R1 24 ((24 * k2_84) + k4_117).toNatClampNeg) = (R1 25 k4_117.toNatClampNeg)
              · have hE := zite_t hE c129
                have t130 := congrArg Int32.toInt c129
                obtain ⟨y131, e132⟩ : ∃ z : Int32, (k3_116 &&& 1) = z := ⟨_, rfl⟩
                have hE := zbnd_cut hE e132
                have t133 := congrArg Int32.toInt e132
                try have t136 := zt_add (a := k4_117) (b := 1) (by omega) (by omega)
                obtain ⟨y134, e135⟩ : ∃ z : Int32, (k4_117 + 1) = z := ⟨_, rfl⟩
                have hE := zbnd_cut hE e135
                have t137 := congrArg Int32.toInt e135
                exact ih y131 y134 (⟨by (show 0 ≤ Int32.toInt y134; omega), by (show Int32.toInt y134 ≤ 24; omega)⟩) (by omega) _ hE
              · have hE := zite_f hE c129
                have t138 := zt_ne c129
                obtain ⟨y139, e140⟩ : ∃ z : Int32, (k3_116 &&& 0) = z := ⟨_, rfl⟩
                have hE := zbnd_cut hE e140
                have t141 := congrArg Int32.toInt e140
                try have t144 := zt_add (a := k4_117) (b := 1) (by omega) (by omega)
                obtain ⟨y142, e143⟩ : ∃ z : Int32, (k4_117 + 1) = z := ⟨_, rfl⟩
                have hE := zbnd_cut hE e143
                have t145 := congrArg Int32.toInt e143
                exact ih y139 y142 (⟨by (show 0 ≤ Int32.toInt y142; omega), by (show Int32.toInt y142 ≤ 24; omega)⟩) (by omega) _ hE
        obtain ⟨⟨k3_146, k4_147⟩, e148⟩ : ∃ z, mX5_remembers_L21 k2_84 R1 25 1 0 = z := ⟨_, rfl⟩
        have hE := zbnd2_cut hE e148
        have hI149 := hL21 25 1 0 (⟨by (show 0 ≤ Int32.toInt 0; omega), by (show Int32.toInt 0 ≤ 24; omega)⟩) (by omega) _ e148
        have hI149 : (0 ≤ Int32.toInt k4_147) ∧ (Int32.toInt k4_147 ≤ 24) := hI149
        obtain ⟨i150, i151⟩ := id hI149
        obtain ⟨y152, e153⟩ : ∃ z : Int32, (k1_83 ||| k3_146) = z := ⟨_, rfl⟩
        have hE := zbnd_cut hE e153
        have t154 := congrArg Int32.toInt e153
        try have t157 := zt_add (a := k2_84) (b := 1) (by omega) (by omega)
        obtain ⟨y155, e156⟩ : ∃ z : Int32, (k2_84 + 1) = z := ⟨_, rfl⟩
        have hE := zbnd_cut hE e156
        have t158 := congrArg Int32.toInt e156
        exact ih y152 y155 (⟨by (show 0 ≤ Int32.toInt y155; omega), by (show Int32.toInt y155 ≤ 40; omega)⟩) (by omega) _ hE
  obtain ⟨⟨k1_159, k2_160⟩, e161⟩ : ∃ z, mX5_remembers_L8 R1 41 0 0 = z := ⟨_, rfl⟩
  have hE := zbnd2_cut hE e161
  have hI162 := hL8 41 0 0 (⟨by (show 0 ≤ Int32.toInt 0; omega), by (show Int32.toInt 0 ≤ 40; omega)⟩) (by omega) _ e161
  have hI162 : (0 ≤ Int32.toInt k2_160) ∧ (Int32.toInt k2_160 ≤ 40) := hI162
  obtain ⟨i163, i164⟩ := id hI162
  by_cases c165 : k1_159 = 0
  · have hE := zite_t hE c165
    have t166 := congrArg Int32.toInt c165
    obtain ⟨⟨k2_255, R256⟩, e257⟩ : ∃ z, mX5_remembers_S99 k2_160 R1 = z := ⟨_, rfl⟩
    have hE := zbnd2_cut hE e257
    have hQ258 : (Int32.toInt (R256 23 0) ≤ 39) ∧ (zIR R256) := by
      have hE := e257
      unfold mX5_remembers_S99 at hE
      by_cases c259 : (R1 23 0) = 40
      · have hE := zite_t hE c259
        have t260 := congrArg Int32.toInt c259
        try have t263 := zt_sub (a := (R1 23 0)) (b := 1) (by omega) (by omega)
        have hIR261 : zIR (zsI R1 23 ((R1 23 0) - 1)) := ⟨⟨by (show (0:Int) ≤ Int32.toInt (R1 6 0)); omega, by (show Int32.toInt (R1 6 0) ≤ (10:Int)); omega⟩, ⟨by (show (0:Int) ≤ Int32.toInt (R1 12 0)); omega, by (show Int32.toInt (R1 12 0) ≤ (12:Int)); omega⟩, ⟨by (show (0:Int) ≤ Int32.toInt ((R1 23 0) - 1)); omega, by (show Int32.toInt ((R1 23 0) - 1) ≤ (40:Int)); omega⟩, ⟨by (show (0:Int) ≤ Int32.toInt (R1 0 0)); omega, by (show Int32.toInt (R1 0 0) ≤ (2:Int)); omega⟩, ⟨by (show (0:Int) ≤ Int32.toInt (R1 1 0)); omega, by (show Int32.toInt (R1 1 0) ≤ (2:Int)); omega⟩, hIR1_b14, hIR1_p15⟩
        obtain ⟨R261, e262⟩ : ∃ z, (zsI R1 23 ((R1 23 0) - 1)) = z := ⟨_, rfl⟩
        have hE := zbnd_cut hE e262
        have t264 : Int32.toInt (R261 6 0) = Int32.toInt (R1 6 0) := by rw [← e262]; rfl
        have t265 : Int32.toInt (R261 12 0) = Int32.toInt (R1 12 0) := by rw [← e262]; rfl
        have t266 : Int32.toInt (R261 23 0) = Int32.toInt ((R1 23 0) - 1) := by rw [← e262]; rfl
        have t267 : Int32.toInt (R261 0 0) = Int32.toInt (R1 0 0) := by rw [← e262]; rfl
        have t268 : Int32.toInt (R261 1 0) = Int32.toInt (R1 1 0) := by rw [← e262]; rfl
        rw [e262] at hIR261
        obtain ⟨⟨i269, i270⟩, ⟨i271, i272⟩, ⟨i273, i274⟩, ⟨i275, i276⟩, ⟨i277, i278⟩, hIR261_b14, hIR261_p15⟩ := id hIR261
        have hL120 : ∀ (n291 : Nat) (k2_289 : Int32) (R290 : zS_t), (0 ≤ Int32.toInt k2_289) ∧ (Int32.toInt k2_289 ≤ 936) ∧ (Int32.toInt (R290 23 0) ≤ 39) ∧ (zIR R290) → 937 - Int32.toInt k2_289 ≤ (n291 : Int) → ∀ Y292, mX5_remembers_L120  n291 k2_289 R290 = Y292 → (0 ≤ Int32.toInt Y292.1) ∧ (Int32.toInt Y292.1 ≤ 936) ∧ (Int32.toInt ((Y292.2) 23 0) ≤ 39) ∧ (zIR (Y292.2)) := by
          intro n291
          induction n291 with
          | zero =>
            intro k2_289 R290 hI hM9
            obtain ⟨i293, i294, i295, hIR290⟩ := id hI
            obtain ⟨⟨i296, i297⟩, ⟨i298, i299⟩, ⟨i300, i301⟩, ⟨i302, i303⟩, ⟨i304, i305⟩, hIR290_b14, hIR290_p15⟩ := id hIR290
            exact absurd hM9 (by omega)
          | succ n291 ih =>
            intro k2_289 R290 hI hM9 Y292 hE
            obtain ⟨i306, i307, i308, hIR290⟩ := id hI
            obtain ⟨⟨i309, i310⟩, ⟨i311, i312⟩, ⟨i313, i314⟩, ⟨i315, i316⟩, ⟨i317, i318⟩, hIR290_b14, hIR290_p15⟩ := id hIR290
            rw [mX5_remembers_L120.eq_2] at hE
            by_cases c319 : (24 * (R290 23 0)) ≤ k2_289
            · have hE := zite_t hE c319
              try have t320 := zt_mulc (a := 24) (b := (R290 23 0)) (c := 24) rfl (by omega) (by omega)
              have t321 := zt_le c319
              subst hE
              exact ⟨by (show 0 ≤ Int32.toInt k2_289; omega), by (show Int32.toInt k2_289 ≤ 936; omega), by (show Int32.toInt (R290 23 0) ≤ 39; omega), hIR290⟩
            · have hE := zite_f hE c319
              try have t322 := zt_mulc (a := 24) (b := (R290 23 0)) (c := 24) rfl (by omega) (by omega)
              have t323 := zt_nle c319
              try have t324 := zt_add (a := k2_289) (b := 24) (by omega) (by omega)
              try have t327 := zt_add (a := k2_289) (b := 1) (by omega) (by omega)
              obtain ⟨y325, e326⟩ : ∃ z : Int32, (k2_289 + 1) = z := ⟨_, rfl⟩
              have hE := zbnd_cut hE e326
              have t328 := congrArg Int32.toInt e326
              exact ih y325 (zsF R290 24 (upd (R290 24) k2_289.toNatClampNeg (R290 24 (k2_289 + 24).toNatClampNeg))) (⟨by (show 0 ≤ Int32.toInt y325; omega), by (show Int32.toInt y325 ≤ 936; omega), by (show Int32.toInt (R290 23 0) ≤ 39; omega), hIR290⟩) (by omega) _ hE
        obtain ⟨⟨k2_329, R330⟩, e331⟩ : ∃ z, mX5_remembers_L120  937 0 R261 = z := ⟨_, rfl⟩
        have hE := zbnd2_cut hE e331
        have hI332 := hL120 937 0 R261 (⟨by (show 0 ≤ Int32.toInt 0; omega), by (show Int32.toInt 0 ≤ 936; omega), by (show Int32.toInt (R261 23 0) ≤ 39; omega), hIR261⟩) (by omega) _ e331
        have hI332 : (0 ≤ Int32.toInt k2_329) ∧ (Int32.toInt k2_329 ≤ 936) ∧ (Int32.toInt (R330 23 0) ≤ 39) ∧ (zIR R330) := hI332
        obtain ⟨i333, i334, i335, hIR330⟩ := id hI332
        obtain ⟨⟨i336, i337⟩, ⟨i338, i339⟩, ⟨i340, i341⟩, ⟨i342, i343⟩, ⟨i344, i345⟩, hIR330_b14, hIR330_p15⟩ := id hIR330
        obtain ⟨q346, hq347⟩ := zpair hE
        subst q346
        subst hq347
        exact ⟨by (show Int32.toInt (R330 23 0) ≤ 39; omega), hIR330⟩
      · have hE := zite_f hE c259
        have t348 := zt_ne c259
        obtain ⟨q349, hq350⟩ := zpair hE
        subst q349
        subst hq350
        exact ⟨by (show Int32.toInt (R1 23 0) ≤ 39; omega), hIR1⟩
    obtain ⟨i351, hIR256⟩ := hQ258
    obtain ⟨⟨i352, i353⟩, ⟨i354, i355⟩, ⟨i356, i357⟩, ⟨i358, i359⟩, ⟨i360, i361⟩, hIR256_b14, hIR256_p15⟩ := id hIR256
    have hL154 : ∀ (n373 : Nat) (k2_371 : Int32) (R372 : zS_t), (0 ≤ Int32.toInt k2_371) ∧ (Int32.toInt k2_371 ≤ 24) ∧ (Int32.toInt (R372 23 0) ≤ 39) ∧ (zIR R372) → 25 - Int32.toInt k2_371 ≤ (n373 : Int) → ∀ Y374, mX5_remembers_L154  n373 k2_371 R372 = Y374 → (0 ≤ Int32.toInt Y374.1) ∧ (Int32.toInt Y374.1 ≤ 24) ∧ (Int32.toInt ((Y374.2) 23 0) ≤ 39) ∧ (zIR (Y374.2)) := by
      intro n373
      induction n373 with
      | zero =>
        intro k2_371 R372 hI hM9
        obtain ⟨i375, i376, i377, hIR372⟩ := id hI
        obtain ⟨⟨i378, i379⟩, ⟨i380, i381⟩, ⟨i382, i383⟩, ⟨i384, i385⟩, ⟨i386, i387⟩, hIR372_b14, hIR372_p15⟩ := id hIR372
        exact absurd hM9 (by omega)
      | succ n373 ih =>
        intro k2_371 R372 hI hM9 Y374 hE
        obtain ⟨i388, i389, i390, hIR372⟩ := id hI
        obtain ⟨⟨i391, i392⟩, ⟨i393, i394⟩, ⟨i395, i396⟩, ⟨i397, i398⟩, ⟨i399, i400⟩, hIR372_b14, hIR372_p15⟩ := id hIR372
        rw [mX5_remembers_L154.eq_2] at hE
        by_cases c401 : 24 ≤ k2_371
        · have hE := zite_t hE c401
          have t402 := zt_le c401
          subst hE
          exact ⟨by (show 0 ≤ Int32.toInt k2_371; omega), by (show Int32.toInt k2_371 ≤ 24; omega), by (show Int32.toInt (R372 23 0) ≤ 39; omega), hIR372⟩
        · have hE := zite_f hE c401
          have t403 := zt_nle c401
          try have t404 := zt_mulc (a := 24) (b := (R372 23 0)) (c := 24) rfl (by omega) (by omega)
          try have t405 := zt_add (a := (24 * (R372 23 0))) (b := k2_371) (by omega) (by omega)
          try have t408 := zt_add (a := k2_371) (b := 1) (by omega) (by omega)
          obtain ⟨y406, e407⟩ : ∃ z : Int32, (k2_371 + 1) = z := ⟨_, rfl⟩
          have hE := zbnd_cut hE e407
          have t409 := congrArg Int32.toInt e407
          exact ih y406 (zsF R372 24 (upd (R372 24) ((24 * (R372 23 0)) + k2_371).toNatClampNeg (R372 25 k2_371.toNatClampNeg))) (⟨by (show 0 ≤ Int32.toInt y406; omega), by (show Int32.toInt y406 ≤ 24; omega), by (show Int32.toInt (R372 23 0) ≤ 39; omega), hIR372⟩) (by omega) _ hE
    obtain ⟨⟨k2_410, R411⟩, e412⟩ : ∃ z, mX5_remembers_L154  25 0 R256 = z := ⟨_, rfl⟩
    have hE := zbnd2_cut hE e412
    have hI413 := hL154 25 0 R256 (⟨by (show 0 ≤ Int32.toInt 0; omega), by (show Int32.toInt 0 ≤ 24; omega), by (show Int32.toInt (R256 23 0) ≤ 39; omega), hIR256⟩) (by omega) _ e412
    have hI413 : (0 ≤ Int32.toInt k2_410) ∧ (Int32.toInt k2_410 ≤ 24) ∧ (Int32.toInt (R411 23 0) ≤ 39) ∧ (zIR R411) := hI413
    obtain ⟨i414, i415, i416, hIR411⟩ := id hI413
    obtain ⟨⟨i417, i418⟩, ⟨i419, i420⟩, ⟨i421, i422⟩, ⟨i423, i424⟩, ⟨i425, i426⟩, hIR411_b14, hIR411_p15⟩ := id hIR411
    subst hE
    try have t427 := zt_add (a := (R411 23 0)) (b := 1) (by omega) (by omega)
    exact ⟨⟨by (show (0:Int) ≤ Int32.toInt (R411 6 0)); omega, by (show Int32.toInt (R411 6 0) ≤ (10:Int)); omega⟩, ⟨by (show (0:Int) ≤ Int32.toInt (R411 12 0)); omega, by (show Int32.toInt (R411 12 0) ≤ (12:Int)); omega⟩, ⟨by (show (0:Int) ≤ Int32.toInt ((R411 23 0) + 1)); omega, by (show Int32.toInt ((R411 23 0) + 1) ≤ (40:Int)); omega⟩, ⟨by (show (0:Int) ≤ Int32.toInt (R411 0 0)); omega, by (show Int32.toInt (R411 0 0) ≤ (2:Int)); omega⟩, ⟨by (show (0:Int) ≤ Int32.toInt (R411 1 0)); omega, by (show Int32.toInt (R411 1 0) ≤ (2:Int)); omega⟩, hIR411_b14, hIR411_p15⟩
  · have hE := zite_f hE c165
    have t428 := zt_ne c165
    subst hE
    exact ⟨⟨by (show (0:Int) ≤ Int32.toInt (R1 6 0)); omega, by (show Int32.toInt (R1 6 0) ≤ (10:Int)); omega⟩, ⟨by (show (0:Int) ≤ Int32.toInt 0); omega, by (show Int32.toInt 0 ≤ (12:Int)); omega⟩, ⟨by (show (0:Int) ≤ Int32.toInt 0); omega, by (show Int32.toInt 0 ≤ (40:Int)); omega⟩, ⟨by (show (0:Int) ≤ Int32.toInt (R1 0 0)); omega, by (show Int32.toInt (R1 0 0) ≤ (2:Int)); omega⟩, ⟨by (show (0:Int) ≤ Int32.toInt (R1 1 0)); omega, by (show Int32.toInt (R1 1 0) ≤ (2:Int)); omega⟩, hIR1_b14, hIR1_p15⟩
theorem hw_X5_remembers_X5 : ∀ w ∈ wsX50, w ∈ wsX5_remembers := fun w h => List.mem_cons_of_mem _ (List.mem_append_right _ (h))
abbrev rmX5_remembers : Room := { frames := 3, cells := 0, slots := 0, locals := 67 }
theorem hd_X5_remembers : yX5_remembers.cls = RX5 ∧ yX5_remembers.cls ≠ "java/lang/invoke/MethodHandle" ∧ yX5_remembers.cls ≠ "java/lang/invoke/VarHandle" ∧ (parseMethodDescriptor yX5_remembers.desc).map (fun d => d.parameters.length) = some 0 := by decide +kernel
set_option maxHeartbeats 4000000 in
set_option maxRecDepth 100000 in
theorem c_X5_remembers (l : Launch) (G : zG_t)  (R : zS_t) (hIR : zIR R) : zCV l G.1 (zty G) yX5_remembers wsX5_remembers rmX5_remembers [.ref (G.2.2 6 0)] (zWR G R) (zWR G (mX5_remembers R)) := by
  obtain ⟨X, hE⟩ : ∃ z, mX5_remembers R = z := ⟨_, rfl⟩
  rw [hE]
  refine zb_V (cc := cX5_remembers) (maxL := 5) (by decide) rfl (Nat.le_of_ble_eq_true rfl) ?_
  intro p e s m args below meth c Q A F hret
  show zW p l e rmX5_remembers s m args below meth c 0 0 Q G.1 A 5 (zWR G R) [(0, .ref (G.2.2 6 0))] 0 []
  have k_0 : Int32.toInt 0 = 0 := by decide
  have k_1 : Int32.toInt 1 = 1 := by decide
  have k_24 : Int32.toInt 24 = 24 := by decide
  have k_40 : Int32.toInt 40 = 40 := by decide
  obtain ⟨⟨i439, i440⟩, ⟨i441, i442⟩, ⟨i443, i444⟩, ⟨i445, i446⟩, ⟨i447, i448⟩, hIR_b14, hIR_p15⟩ := id hIR
  unfold mX5_remembers at hE
  refine zi_aload_n (pc := 0) F dX5_remembers_0 0 rfl ?_
  have hM3 := c_X5_laysState l G  R (hIR)
  have pp4 := pp_X5_laysState  R (hIR)
  obtain ⟨R1, e2⟩ : ∃ z, mX5_laysState R = z := ⟨_, rfl⟩
  have hE := zbnd_cut hE e2
  rw [e2] at hM3
  rw [e2] at pp4
  have hIR1 := pp4
  obtain ⟨⟨i5, i6⟩, ⟨i7, i8⟩, ⟨i9, i10⟩, ⟨i11, i12⟩, ⟨i13, i14⟩, hIR1_b14, hIR1_p15⟩ := id hIR1
  refine zi_callVV (pc := 1) (rest := []) (ws' := zWR G R1) F hM3 (cwV 0 F.1.2.2.2.2 gX5_remembers_X5_laysState rfl rfl rfl hd_X5_laysState ⟨Nat.le_of_ble_eq_true rfl, Nat.le_of_ble_eq_true rfl⟩) 0 rfl rfl _ _ (zw_nil _) (zw_nil _).symm rfl rfl (Nat.le_of_ble_eq_true rfl) dX5_remembers_1 ⟨Nat.zero_le _, Nat.zero_le _⟩ ?_
  refine zi_iconst (pc := 4) (v := 0) F dX5_remembers_4 rfl ?_
  refine zi_istore_n (pc := 5) (lv' := [(0, .ref (G.2.2 6 0)), (1, .int 0)]) F dX5_remembers_5 (by decide) rfl ?_
  refine zi_iconst (pc := 6) (v := 0) F dX5_remembers_6 rfl ?_
  refine zi_istore_n (pc := 7) (lv' := [(0, .ref (G.2.2 6 0)), (1, .int 0), (2, .int 0)]) F dX5_remembers_7 (by decide) rfl ?_
  have hL8 : ∀ (n85 : Nat) (k1_83 : Int32) (k2_84 : Int32), (0 ≤ Int32.toInt k2_84) ∧ (Int32.toInt k2_84 ≤ 40) → 41 - Int32.toInt k2_84 ≤ (n85 : Int) → ∀ Y86, mX5_remembers_L8 R1 n85 k1_83 k2_84 = Y86 → (((0 ≤ Int32.toInt Y86.2) ∧ (Int32.toInt Y86.2 ≤ 40)) → zW p l e rmX5_remembers s m args below meth c 0 0 Q G.1 A 5 (zWR G R1) [(0, .ref (G.2.2 6 0)), (1, .int Y86.1), (2, .int Y86.2)] 74 []) → zW p l e rmX5_remembers s m args below meth c 0 0 Q G.1 A 5 (zWR G R1) [(0, .ref (G.2.2 6 0)), (1, .int k1_83), (2, .int k2_84)] 8 [] := by
    intro n85
    induction n85 with
    | zero =>
      intro k1_83 k2_84 hI hM9
      obtain ⟨i87, i88⟩ := id hI
      exact absurd hM9 (by omega)
    | succ n85 ih =>
      intro k1_83 k2_84 hI hM9 Y86 hE hK
      obtain ⟨i89, i90⟩ := id hI
      rw [mX5_remembers_L8.eq_2] at hE
      refine zi_iload_n (pc := 8) F dX5_remembers_8 2 rfl ?_
      refine zi_aload_n (pc := 9) F dX5_remembers_9 0 rfl ?_
      refine zi_get (pc := 10) (C := RX5) (T := TX5) (N := 27) (v := .int (R1 23 0)) F (hw_X5_remembers_X5) 0 rfl rfl 23 (by decide) (List.mem_of_getElem? (i := 1) rfl) rfl rfl dX5_remembers_10 ?_
      refine zi_icmp_ge (pc := 13) (tgt := 74) F dX5_remembers_13 (by decide) (fun c91 => ?_) (fun c91 => ?_)
      · have hE := zite_t hE c91
        have t92 := zt_le c91
        subst hE
        refine zi_sub [0, 1, 2] rfl ?_
        exact hK (⟨by (show 0 ≤ Int32.toInt k2_84; omega), by (show Int32.toInt k2_84 ≤ 40; omega)⟩)
      · have hE := zite_f hE c91
        have t93 := zt_nle c91
        refine zi_iconst (pc := 16) (v := 1) F dX5_remembers_16 rfl ?_
        refine zi_istore_n (pc := 17) (lv' := [(0, .ref (G.2.2 6 0)), (1, .int k1_83), (2, .int k2_84), (3, .int 1)]) F dX5_remembers_17 (by decide) rfl ?_
        refine zi_iconst (pc := 18) (v := 0) F dX5_remembers_18 rfl ?_
        refine zi_istore (pc := 19) (lv' := [(0, .ref (G.2.2 6 0)), (1, .int k1_83), (2, .int k2_84), (3, .int 1), (4, .int 0)]) F dX5_remembers_19 (by decide) rfl ?_
        have hL21 : ∀ (n118 : Nat) (k3_116 : Int32) (k4_117 : Int32), (0 ≤ Int32.toInt k4_117) ∧ (Int32.toInt k4_117 ≤ 24) → 25 - Int32.toInt k4_117 ≤ (n118 : Int) → ∀ Y119, mX5_remembers_L21 k2_84 R1 n118 k3_116 k4_117 = Y119 → (((0 ≤ Int32.toInt Y119.2) ∧ (Int32.toInt Y119.2 ≤ 24)) → zW p l e rmX5_remembers s m args below meth c 0 0 Q G.1 A 5 (zWR G R1) [(0, .ref (G.2.2 6 0)), (1, .int k1_83), (2, .int k2_84), (3, .int Y119.1), (4, .int Y119.2)] 64 []) → zW p l e rmX5_remembers s m args below meth c 0 0 Q G.1 A 5 (zWR G R1) [(0, .ref (G.2.2 6 0)), (1, .int k1_83), (2, .int k2_84), (3, .int k3_116), (4, .int k4_117)] 21 [] := by
          intro n118
          induction n118 with
          | zero =>
            intro k3_116 k4_117 hI hM9
            obtain ⟨i120, i121⟩ := id hI
            exact absurd hM9 (by omega)
          | succ n118 ih =>
            intro k3_116 k4_117 hI hM9 Y119 hE hK
            obtain ⟨i122, i123⟩ := id hI
            rw [mX5_remembers_L21.eq_2] at hE
            refine zi_iload (pc := 21) F dX5_remembers_21 4 rfl ?_
            refine zi_bipush (pc := 23) (v := 24) F dX5_remembers_23 rfl ?_
            refine zi_icmp_ge (pc := 25) (tgt := 64) F dX5_remembers_25 (by decide) (fun c124 => ?_) (fun c124 => ?_)
            · have hE := zite_t hE c124
              have t125 := zt_le c124
              subst hE
              refine zi_sub [0, 1, 2, 3, 4] rfl ?_
              exact hK (⟨by (show 0 ≤ Int32.toInt k4_117; omega), by (show Int32.toInt k4_117 ≤ 24; omega)⟩)
            · have hE := zite_f hE c124
              have t126 := zt_nle c124
              refine zi_iload_n (pc := 28) F dX5_remembers_28 3 rfl ?_
              refine zi_aload_n (pc := 29) F dX5_remembers_29 0 rfl ?_
              refine zi_get (pc := 30) (C := RX5) (T := TX5) (N := 27) (v := .ref (G.2.2 6 16)) F (hw_X5_remembers_X5) 0 rfl rfl 24 (by decide) (List.mem_of_getElem? (i := 2) rfl) rfl rfl dX5_remembers_30 ?_
              refine zi_bipush (pc := 33) (v := 24) F dX5_remembers_33 rfl ?_
              refine zi_iload_n (pc := 35) F dX5_remembers_35 2 rfl ?_
              refine zi_imul (pc := 36) F dX5_remembers_36 ?_
              refine zi_iload (pc := 37) F dX5_remembers_37 4 rfl ?_
              refine zi_iadd (pc := 39) F dX5_remembers_39 ?_
              try have t127 := zt_mulc (a := 24) (b := k2_84) (c := 24) rfl (by omega) (by omega)
              try have t128 := zt_add (a := (24 * k2_84)) (b := k4_117) (by omega) (by omega)
              refine zi_iald (pc := 40) (v := (R1 24 ((24 * k2_84) + k4_117).toNatClampNeg)) F 16 0 rfl rfl (zin (a := ((24 * k2_84) + k4_117)) (by omega) (by omega)) rfl dX5_remembers_40 ?_
              refine zi_aload_n (pc := 41) F dX5_remembers_41 0 rfl ?_
              refine zi_get (pc := 42) (C := RX5) (T := TX5) (N := 27) (v := .ref (G.2.2 6 17)) F (hw_X5_remembers_X5) 0 rfl rfl 25 (by decide) (List.mem_of_getElem? (i := 3) rfl) rfl rfl dX5_remembers_42 ?_
              refine zi_iload (pc := 45) F dX5_remembers_45 4 rfl ?_
              refine zi_iald (pc := 47) (v := (R1 25 k4_117.toNatClampNeg)) F 17 0 rfl rfl (zin (a := k4_117) (by omega) (by omega)) rfl dX5_remembers_47 ?_
              refine zi_icmp_ne (pc := 48) (tgt := 55) F dX5_remembers_48 (by decide) (fun c129 => ?_) (fun c129 => ?_)
              · have hE := zite_f hE c129
                have t130 := zt_ne c129
                refine zi_iconst (pc := 55) (v := 0) F dX5_remembers_55 rfl ?_
                refine zi_iand (pc := 56) F dX5_remembers_56 ?_
                refine zi_topi (fun y131 e132 => ?_)
                have hE := zbnd_cut hE e132
                have t133 := congrArg Int32.toInt e132
                refine zi_istore_n (pc := 57) (lv' := [(0, .ref (G.2.2 6 0)), (1, .int k1_83), (2, .int k2_84), (3, .int y131), (4, .int k4_117)]) F dX5_remembers_57 (by decide) rfl ?_
                try have t136 := zt_add (a := k4_117) (b := 1) (by omega) (by omega)
                obtain ⟨y134, e135⟩ : ∃ z : Int32, (k4_117 + 1) = z := ⟨_, rfl⟩
                have hE := zbnd_cut hE e135
                have t137 := congrArg Int32.toInt e135
                refine zi_iinc (pc := 58) (lv' := [(0, .ref (G.2.2 6 0)), (1, .int k1_83), (2, .int k2_84), (3, .int y131), (4, .int y134)]) F dX5_remembers_58 4 rfl e135 (by decide) rfl ?_
                refine zi_goto (pc := 61) (tgt := 21) F dX5_remembers_61 (by decide) ?_
                refine zi_sub [0, 1, 2, 3, 4] rfl ?_
                exact ih y131 y134 (⟨by (show 0 ≤ Int32.toInt y134; omega), by (show Int32.toInt y134 ≤ 24; omega)⟩) (by omega) _ hE hK
              · have hE := zite_t hE c129
                have t138 := congrArg Int32.toInt c129
                refine zi_iconst (pc := 51) (v := 1) F dX5_remembers_51 rfl ?_
                refine zi_goto (pc := 52) (tgt := 56) F dX5_remembers_52 (by decide) ?_
                refine zi_iand (pc := 56) F dX5_remembers_56 ?_
                refine zi_topi (fun y139 e140 => ?_)
                have hE := zbnd_cut hE e140
                have t141 := congrArg Int32.toInt e140
                refine zi_istore_n (pc := 57) (lv' := [(0, .ref (G.2.2 6 0)), (1, .int k1_83), (2, .int k2_84), (3, .int y139), (4, .int k4_117)]) F dX5_remembers_57 (by decide) rfl ?_
                try have t144 := zt_add (a := k4_117) (b := 1) (by omega) (by omega)
                obtain ⟨y142, e143⟩ : ∃ z : Int32, (k4_117 + 1) = z := ⟨_, rfl⟩
                have hE := zbnd_cut hE e143
                have t145 := congrArg Int32.toInt e143
                refine zi_iinc (pc := 58) (lv' := [(0, .ref (G.2.2 6 0)), (1, .int k1_83), (2, .int k2_84), (3, .int y139), (4, .int y142)]) F dX5_remembers_58 4 rfl e143 (by decide) rfl ?_
                refine zi_goto (pc := 61) (tgt := 21) F dX5_remembers_61 (by decide) ?_
                refine zi_sub [0, 1, 2, 3, 4] rfl ?_
                exact ih y139 y142 (⟨by (show 0 ≤ Int32.toInt y142; omega), by (show Int32.toInt y142 ≤ 24; omega)⟩) (by omega) _ hE hK
        obtain ⟨⟨k3_146, k4_147⟩, e148⟩ : ∃ z, mX5_remembers_L21 k2_84 R1 25 1 0 = z := ⟨_, rfl⟩
        have hE := zbnd2_cut hE e148
        refine hL21 25 1 0 (⟨by (show 0 ≤ Int32.toInt 0; omega), by (show Int32.toInt 0 ≤ 24; omega)⟩) (by omega) _ e148 (fun hI149 => ?_)
        have hI149 : (0 ≤ Int32.toInt k4_147) ∧ (Int32.toInt k4_147 ≤ 24) := hI149
        obtain ⟨i150, i151⟩ := id hI149
        show zW p l e rmX5_remembers s m args below meth c 0 0 Q G.1 A 5 (zWR G R1) [(0, .ref (G.2.2 6 0)), (1, .int k1_83), (2, .int k2_84), (3, .int k3_146), (4, .int k4_147)] 64 []
        refine zi_iload_n (pc := 64) F dX5_remembers_64 1 rfl ?_
        refine zi_iload_n (pc := 65) F dX5_remembers_65 3 rfl ?_
        refine zi_ior (pc := 66) F dX5_remembers_66 ?_
        refine zi_topi (fun y152 e153 => ?_)
        have hE := zbnd_cut hE e153
        have t154 := congrArg Int32.toInt e153
        refine zi_istore_n (pc := 67) (lv' := [(0, .ref (G.2.2 6 0)), (1, .int y152), (2, .int k2_84), (3, .int k3_146), (4, .int k4_147)]) F dX5_remembers_67 (by decide) rfl ?_
        try have t157 := zt_add (a := k2_84) (b := 1) (by omega) (by omega)
        obtain ⟨y155, e156⟩ : ∃ z : Int32, (k2_84 + 1) = z := ⟨_, rfl⟩
        have hE := zbnd_cut hE e156
        have t158 := congrArg Int32.toInt e156
        refine zi_iinc (pc := 68) (lv' := [(0, .ref (G.2.2 6 0)), (1, .int y152), (2, .int y155), (3, .int k3_146), (4, .int k4_147)]) F dX5_remembers_68 2 rfl e156 (by decide) rfl ?_
        refine zi_goto (pc := 71) (tgt := 8) F dX5_remembers_71 (by decide) ?_
        refine zi_sub [0, 1, 2] rfl ?_
        exact ih y152 y155 (⟨by (show 0 ≤ Int32.toInt y155; omega), by (show Int32.toInt y155 ≤ 40; omega)⟩) (by omega) _ hE hK
  obtain ⟨⟨k1_159, k2_160⟩, e161⟩ : ∃ z, mX5_remembers_L8 R1 41 0 0 = z := ⟨_, rfl⟩
  have hE := zbnd2_cut hE e161
  refine hL8 41 0 0 (⟨by (show 0 ≤ Int32.toInt 0; omega), by (show Int32.toInt 0 ≤ 40; omega)⟩) (by omega) _ e161 (fun hI162 => ?_)
  have hI162 : (0 ≤ Int32.toInt k2_160) ∧ (Int32.toInt k2_160 ≤ 40) := hI162
  obtain ⟨i163, i164⟩ := id hI162
  show zW p l e rmX5_remembers s m args below meth c 0 0 Q G.1 A 5 (zWR G R1) [(0, .ref (G.2.2 6 0)), (1, .int k1_159), (2, .int k2_160)] 74 []
  refine zi_iload_n (pc := 74) F dX5_remembers_74 1 rfl ?_
  refine zi_if_eq (pc := 75) (tgt := 99) F dX5_remembers_75 (by decide) (fun c165 => ?_) (fun c165 => ?_)
  · have hE := zite_t hE c165
    have t166 := congrArg Int32.toInt c165
    obtain ⟨⟨k2_255, R256⟩, e257⟩ : ∃ z, mX5_remembers_S99 k2_160 R1 = z := ⟨_, rfl⟩
    have hE := zbnd2_cut hE e257
    have hQ258 : (Int32.toInt (R256 23 0) ≤ 39) ∧ (zIR R256) := by
      have hE := e257
      unfold mX5_remembers_S99 at hE
      by_cases c259 : (R1 23 0) = 40
      · have hE := zite_t hE c259
        have t260 := congrArg Int32.toInt c259
        try have t263 := zt_sub (a := (R1 23 0)) (b := 1) (by omega) (by omega)
        have hIR261 : zIR (zsI R1 23 ((R1 23 0) - 1)) := ⟨⟨by (show (0:Int) ≤ Int32.toInt (R1 6 0)); omega, by (show Int32.toInt (R1 6 0) ≤ (10:Int)); omega⟩, ⟨by (show (0:Int) ≤ Int32.toInt (R1 12 0)); omega, by (show Int32.toInt (R1 12 0) ≤ (12:Int)); omega⟩, ⟨by (show (0:Int) ≤ Int32.toInt ((R1 23 0) - 1)); omega, by (show Int32.toInt ((R1 23 0) - 1) ≤ (40:Int)); omega⟩, ⟨by (show (0:Int) ≤ Int32.toInt (R1 0 0)); omega, by (show Int32.toInt (R1 0 0) ≤ (2:Int)); omega⟩, ⟨by (show (0:Int) ≤ Int32.toInt (R1 1 0)); omega, by (show Int32.toInt (R1 1 0) ≤ (2:Int)); omega⟩, hIR1_b14, hIR1_p15⟩
        obtain ⟨R261, e262⟩ : ∃ z, (zsI R1 23 ((R1 23 0) - 1)) = z := ⟨_, rfl⟩
        have hE := zbnd_cut hE e262
        have t264 : Int32.toInt (R261 6 0) = Int32.toInt (R1 6 0) := by rw [← e262]; rfl
        have t265 : Int32.toInt (R261 12 0) = Int32.toInt (R1 12 0) := by rw [← e262]; rfl
        have t266 : Int32.toInt (R261 23 0) = Int32.toInt ((R1 23 0) - 1) := by rw [← e262]; rfl
        have t267 : Int32.toInt (R261 0 0) = Int32.toInt (R1 0 0) := by rw [← e262]; rfl
        have t268 : Int32.toInt (R261 1 0) = Int32.toInt (R1 1 0) := by rw [← e262]; rfl
        rw [e262] at hIR261
        obtain ⟨⟨i269, i270⟩, ⟨i271, i272⟩, ⟨i273, i274⟩, ⟨i275, i276⟩, ⟨i277, i278⟩, hIR261_b14, hIR261_p15⟩ := id hIR261
        have hL120 : ∀ (n291 : Nat) (k2_289 : Int32) (R290 : zS_t), (0 ≤ Int32.toInt k2_289) ∧ (Int32.toInt k2_289 ≤ 936) ∧ (Int32.toInt (R290 23 0) ≤ 39) ∧ (zIR R290) → 937 - Int32.toInt k2_289 ≤ (n291 : Int) → ∀ Y292, mX5_remembers_L120  n291 k2_289 R290 = Y292 → (0 ≤ Int32.toInt Y292.1) ∧ (Int32.toInt Y292.1 ≤ 936) ∧ (Int32.toInt ((Y292.2) 23 0) ≤ 39) ∧ (zIR (Y292.2)) := by
          intro n291
          induction n291 with
          | zero =>
            intro k2_289 R290 hI hM9
            obtain ⟨i293, i294, i295, hIR290⟩ := id hI
            obtain ⟨⟨i296, i297⟩, ⟨i298, i299⟩, ⟨i300, i301⟩, ⟨i302, i303⟩, ⟨i304, i305⟩, hIR290_b14, hIR290_p15⟩ := id hIR290
            exact absurd hM9 (by omega)
          | succ n291 ih =>
            intro k2_289 R290 hI hM9 Y292 hE
            obtain ⟨i306, i307, i308, hIR290⟩ := id hI
            obtain ⟨⟨i309, i310⟩, ⟨i311, i312⟩, ⟨i313, i314⟩, ⟨i315, i316⟩, ⟨i317, i318⟩, hIR290_b14, hIR290_p15⟩ := id hIR290
            rw [mX5_remembers_L120.eq_2] at hE
            by_cases c319 : (24 * (R290 23 0)) ≤ k2_289
            · have hE := zite_t hE c319
              try have t320 := zt_mulc (a := 24) (b := (R290 23 0)) (c := 24) rfl (by omega) (by omega)
              have t321 := zt_le c319
              subst hE
              exact ⟨by (show 0 ≤ Int32.toInt k2_289; omega), by (show Int32.toInt k2_289 ≤ 936; omega), by (show Int32.toInt (R290 23 0) ≤ 39; omega), hIR290⟩
            · have hE := zite_f hE c319
              try have t322 := zt_mulc (a := 24) (b := (R290 23 0)) (c := 24) rfl (by omega) (by omega)
              have t323 := zt_nle c319
              try have t324 := zt_add (a := k2_289) (b := 24) (by omega) (by omega)
              try have t327 := zt_add (a := k2_289) (b := 1) (by omega) (by omega)
              obtain ⟨y325, e326⟩ : ∃ z : Int32, (k2_289 + 1) = z := ⟨_, rfl⟩
              have hE := zbnd_cut hE e326
              have t328 := congrArg Int32.toInt e326
              exact ih y325 (zsF R290 24 (upd (R290 24) k2_289.toNatClampNeg (R290 24 (k2_289 + 24).toNatClampNeg))) (⟨by (show 0 ≤ Int32.toInt y325; omega), by (show Int32.toInt y325 ≤ 936; omega), by (show Int32.toInt (R290 23 0) ≤ 39; omega), hIR290⟩) (by omega) _ hE
        obtain ⟨⟨k2_329, R330⟩, e331⟩ : ∃ z, mX5_remembers_L120  937 0 R261 = z := ⟨_, rfl⟩
        have hE := zbnd2_cut hE e331
        have hI332 := hL120 937 0 R261 (⟨by (show 0 ≤ Int32.toInt 0; omega), by (show Int32.toInt 0 ≤ 936; omega), by (show Int32.toInt (R261 23 0) ≤ 39; omega), hIR261⟩) (by omega) _ e331
        have hI332 : (0 ≤ Int32.toInt k2_329) ∧ (Int32.toInt k2_329 ≤ 936) ∧ (Int32.toInt (R330 23 0) ≤ 39) ∧ (zIR R330) := hI332
        obtain ⟨i333, i334, i335, hIR330⟩ := id hI332
        obtain ⟨⟨i336, i337⟩, ⟨i338, i339⟩, ⟨i340, i341⟩, ⟨i342, i343⟩, ⟨i344, i345⟩, hIR330_b14, hIR330_p15⟩ := id hIR330
        obtain ⟨q346, hq347⟩ := zpair hE
        subst q346
        subst hq347
        exact ⟨by (show Int32.toInt (R330 23 0) ≤ 39; omega), hIR330⟩
      · have hE := zite_f hE c259
        have t348 := zt_ne c259
        obtain ⟨q349, hq350⟩ := zpair hE
        subst q349
        subst hq350
        exact ⟨by (show Int32.toInt (R1 23 0) ≤ 39; omega), hIR1⟩
    obtain ⟨i351, hIR256⟩ := hQ258
    obtain ⟨⟨i352, i353⟩, ⟨i354, i355⟩, ⟨i356, i357⟩, ⟨i358, i359⟩, ⟨i360, i361⟩, hIR256_b14, hIR256_p15⟩ := id hIR256
    have hK362 : zW p l e rmX5_remembers s m args below meth c 0 0 Q G.1 A 5 (zWR G R256) [(0, .ref (G.2.2 6 0)), (1, .int k1_159), (2, .int k2_255)] 152 [] → zW p l e rmX5_remembers s m args below meth c 0 0 Q G.1 A 5 (zWR G R1) [(0, .ref (G.2.2 6 0)), (1, .int k1_159), (2, .int k2_160)] 99 [] := by
      intro hK
      have hE := e257
      unfold mX5_remembers_S99 at hE
      refine zi_aload_n (pc := 99) F dX5_remembers_99 0 rfl ?_
      refine zi_get (pc := 100) (C := RX5) (T := TX5) (N := 27) (v := .int (R1 23 0)) F (hw_X5_remembers_X5) 0 rfl rfl 23 (by decide) (List.mem_of_getElem? (i := 1) rfl) rfl rfl dX5_remembers_100 ?_
      refine zi_bipush (pc := 103) (v := 40) F dX5_remembers_103 rfl ?_
      refine zi_icmp_ne (pc := 105) (tgt := 152) F dX5_remembers_105 (by decide) (fun c363 => ?_) (fun c363 => ?_)
      · have hE := zite_f hE c363
        have t364 := zt_ne c363
        obtain ⟨q365, hq366⟩ := zpair hE
        subst q365
        subst hq366
        exact zi_sub [0, 1, 2] rfl hK
      · have hE := zite_t hE c363
        have t367 := congrArg Int32.toInt c363
        refine zi_aload_n (pc := 108) F dX5_remembers_108 0 rfl ?_
        refine zi_dup (pc := 109) F dX5_remembers_109 rfl ?_
        refine zi_get (pc := 110) (C := RX5) (T := TX5) (N := 27) (v := .int (R1 23 0)) F (hw_X5_remembers_X5) 0 rfl rfl 23 (by decide) (List.mem_of_getElem? (i := 1) rfl) rfl rfl dX5_remembers_110 ?_
        refine zi_iconst (pc := 113) (v := 1) F dX5_remembers_113 rfl ?_
        refine zi_isub (pc := 114) F dX5_remembers_114 ?_
        refine zi_put (pc := 115) (C := RX5) (T := TX5) (N := 27) (ty := .int) (ws' := zWR G (zsI R1 23 ((R1 23 0) - 1))) F (hw_X5_remembers_X5) tyX5 tyX5_ok nmX5 0 rfl rfl 23 (by decide) (List.mem_of_getElem? (i := 1) rfl) rfl rfl rfl rfl rfl (Nat.le_of_ble_eq_true rfl) rfl dX5_remembers_115 ?_
        refine zi_iconst (pc := 118) (v := 0) F dX5_remembers_118 rfl ?_
        refine zi_istore_n (pc := 119) (lv' := [(0, .ref (G.2.2 6 0)), (1, .int k1_159), (2, .int 0)]) F dX5_remembers_119 (by decide) rfl ?_
        try have t370 := zt_sub (a := (R1 23 0)) (b := 1) (by omega) (by omega)
        have hIR368 : zIR (zsI R1 23 ((R1 23 0) - 1)) := ⟨⟨by (show (0:Int) ≤ Int32.toInt (R1 6 0)); omega, by (show Int32.toInt (R1 6 0) ≤ (10:Int)); omega⟩, ⟨by (show (0:Int) ≤ Int32.toInt (R1 12 0)); omega, by (show Int32.toInt (R1 12 0) ≤ (12:Int)); omega⟩, ⟨by (show (0:Int) ≤ Int32.toInt ((R1 23 0) - 1)); omega, by (show Int32.toInt ((R1 23 0) - 1) ≤ (40:Int)); omega⟩, ⟨by (show (0:Int) ≤ Int32.toInt (R1 0 0)); omega, by (show Int32.toInt (R1 0 0) ≤ (2:Int)); omega⟩, ⟨by (show (0:Int) ≤ Int32.toInt (R1 1 0)); omega, by (show Int32.toInt (R1 1 0) ≤ (2:Int)); omega⟩, hIR1_b14, hIR1_p15⟩
        refine zi_nameW (w := fun Z9 => zWR G Z9) (S := (zsI R1 23 ((R1 23 0) - 1))) (fun R368 e369 => ?_)
        have hE := zbnd_cut hE e369
        have t371 : Int32.toInt (R368 6 0) = Int32.toInt (R1 6 0) := by rw [← e369]; rfl
        have t372 : Int32.toInt (R368 12 0) = Int32.toInt (R1 12 0) := by rw [← e369]; rfl
        have t373 : Int32.toInt (R368 23 0) = Int32.toInt ((R1 23 0) - 1) := by rw [← e369]; rfl
        have t374 : Int32.toInt (R368 0 0) = Int32.toInt (R1 0 0) := by rw [← e369]; rfl
        have t375 : Int32.toInt (R368 1 0) = Int32.toInt (R1 1 0) := by rw [← e369]; rfl
        rw [e369] at hIR368
        obtain ⟨⟨i376, i377⟩, ⟨i378, i379⟩, ⟨i380, i381⟩, ⟨i382, i383⟩, ⟨i384, i385⟩, hIR368_b14, hIR368_p15⟩ := id hIR368
        have hL120 : ∀ (n398 : Nat) (k2_396 : Int32) (R397 : zS_t), (0 ≤ Int32.toInt k2_396) ∧ (Int32.toInt k2_396 ≤ 936) ∧ (Int32.toInt (R397 23 0) ≤ 39) ∧ (zIR R397) → 937 - Int32.toInt k2_396 ≤ (n398 : Int) → ∀ Y399, mX5_remembers_L120  n398 k2_396 R397 = Y399 → (((0 ≤ Int32.toInt Y399.1) ∧ (Int32.toInt Y399.1 ≤ 936) ∧ (Int32.toInt ((Y399.2) 23 0) ≤ 39) ∧ (zIR (Y399.2))) → zW p l e rmX5_remembers s m args below meth c 0 0 Q G.1 A 5 (zWR G (Y399.2)) [(0, .ref (G.2.2 6 0)), (1, .int k1_159), (2, .int Y399.1)] 152 []) → zW p l e rmX5_remembers s m args below meth c 0 0 Q G.1 A 5 (zWR G R397) [(0, .ref (G.2.2 6 0)), (1, .int k1_159), (2, .int k2_396)] 120 [] := by
          intro n398
          induction n398 with
          | zero =>
            intro k2_396 R397 hI hM9
            obtain ⟨i400, i401, i402, hIR397⟩ := id hI
            obtain ⟨⟨i403, i404⟩, ⟨i405, i406⟩, ⟨i407, i408⟩, ⟨i409, i410⟩, ⟨i411, i412⟩, hIR397_b14, hIR397_p15⟩ := id hIR397
            exact absurd hM9 (by omega)
          | succ n398 ih =>
            intro k2_396 R397 hI hM9 Y399 hE hK
            obtain ⟨i413, i414, i415, hIR397⟩ := id hI
            obtain ⟨⟨i416, i417⟩, ⟨i418, i419⟩, ⟨i420, i421⟩, ⟨i422, i423⟩, ⟨i424, i425⟩, hIR397_b14, hIR397_p15⟩ := id hIR397
            rw [mX5_remembers_L120.eq_2] at hE
            refine zi_iload_n (pc := 120) F dX5_remembers_120 2 rfl ?_
            refine zi_bipush (pc := 121) (v := 24) F dX5_remembers_121 rfl ?_
            refine zi_aload_n (pc := 123) F dX5_remembers_123 0 rfl ?_
            refine zi_get (pc := 124) (C := RX5) (T := TX5) (N := 27) (v := .int (R397 23 0)) F (hw_X5_remembers_X5) 0 rfl rfl 23 (by decide) (List.mem_of_getElem? (i := 1) rfl) rfl rfl dX5_remembers_124 ?_
            refine zi_imul (pc := 127) F dX5_remembers_127 ?_
            refine zi_icmp_ge (pc := 128) (tgt := 152) F dX5_remembers_128 (by decide) (fun c426 => ?_) (fun c426 => ?_)
            · have hE := zite_t hE c426
              try have t427 := zt_mulc (a := 24) (b := (R397 23 0)) (c := 24) rfl (by omega) (by omega)
              have t428 := zt_le c426
              subst hE
              refine zi_sub [0, 1, 2] rfl ?_
              exact hK (⟨by (show 0 ≤ Int32.toInt k2_396; omega), by (show Int32.toInt k2_396 ≤ 936; omega), by (show Int32.toInt (R397 23 0) ≤ 39; omega), hIR397⟩)
            · have hE := zite_f hE c426
              try have t429 := zt_mulc (a := 24) (b := (R397 23 0)) (c := 24) rfl (by omega) (by omega)
              have t430 := zt_nle c426
              refine zi_aload_n (pc := 131) F dX5_remembers_131 0 rfl ?_
              refine zi_get (pc := 132) (C := RX5) (T := TX5) (N := 27) (v := .ref (G.2.2 6 16)) F (hw_X5_remembers_X5) 0 rfl rfl 24 (by decide) (List.mem_of_getElem? (i := 2) rfl) rfl rfl dX5_remembers_132 ?_
              refine zi_iload_n (pc := 135) F dX5_remembers_135 2 rfl ?_
              refine zi_aload_n (pc := 136) F dX5_remembers_136 0 rfl ?_
              refine zi_get (pc := 137) (C := RX5) (T := TX5) (N := 27) (v := .ref (G.2.2 6 16)) F (hw_X5_remembers_X5) 0 rfl rfl 24 (by decide) (List.mem_of_getElem? (i := 2) rfl) rfl rfl dX5_remembers_137 ?_
              refine zi_iload_n (pc := 140) F dX5_remembers_140 2 rfl ?_
              refine zi_bipush (pc := 141) (v := 24) F dX5_remembers_141 rfl ?_
              refine zi_iadd (pc := 143) F dX5_remembers_143 ?_
              try have t431 := zt_add (a := k2_396) (b := 24) (by omega) (by omega)
              refine zi_iald (pc := 144) (v := (R397 24 (k2_396 + 24).toNatClampNeg)) F 16 0 rfl rfl (zin (a := (k2_396 + 24)) (by omega) (by omega)) rfl dX5_remembers_144 ?_
              refine zi_iast (pc := 145) (ws' := zWR G (zsF R397 24 (upd (R397 24) k2_396.toNatClampNeg (R397 24 (k2_396 + 24).toNatClampNeg)))) F 16 0 rfl rfl (zin (a := k2_396) (by omega) (by omega)) rfl dX5_remembers_145 ?_
              try have t434 := zt_add (a := k2_396) (b := 1) (by omega) (by omega)
              obtain ⟨y432, e433⟩ : ∃ z : Int32, (k2_396 + 1) = z := ⟨_, rfl⟩
              have hE := zbnd_cut hE e433
              have t435 := congrArg Int32.toInt e433
              refine zi_iinc (pc := 146) (lv' := [(0, .ref (G.2.2 6 0)), (1, .int k1_159), (2, .int y432)]) F dX5_remembers_146 2 rfl e433 (by decide) rfl ?_
              refine zi_goto (pc := 149) (tgt := 120) F dX5_remembers_149 (by decide) ?_
              refine zi_sub [0, 1, 2] rfl ?_
              exact ih y432 (zsF R397 24 (upd (R397 24) k2_396.toNatClampNeg (R397 24 (k2_396 + 24).toNatClampNeg))) (⟨by (show 0 ≤ Int32.toInt y432; omega), by (show Int32.toInt y432 ≤ 936; omega), by (show Int32.toInt (R397 23 0) ≤ 39; omega), hIR397⟩) (by omega) _ hE hK
        obtain ⟨⟨k2_436, R437⟩, e438⟩ : ∃ z, mX5_remembers_L120  937 0 R368 = z := ⟨_, rfl⟩
        have hE := zbnd2_cut hE e438
        refine hL120 937 0 R368 (⟨by (show 0 ≤ Int32.toInt 0; omega), by (show Int32.toInt 0 ≤ 936; omega), by (show Int32.toInt (R368 23 0) ≤ 39; omega), hIR368⟩) (by omega) _ e438 (fun hI439 => ?_)
        have hI439 : (0 ≤ Int32.toInt k2_436) ∧ (Int32.toInt k2_436 ≤ 936) ∧ (Int32.toInt (R437 23 0) ≤ 39) ∧ (zIR R437) := hI439
        obtain ⟨i440, i441, i442, hIR437⟩ := id hI439
        obtain ⟨⟨i443, i444⟩, ⟨i445, i446⟩, ⟨i447, i448⟩, ⟨i449, i450⟩, ⟨i451, i452⟩, hIR437_b14, hIR437_p15⟩ := id hIR437
        show zW p l e rmX5_remembers s m args below meth c 0 0 Q G.1 A 5 (zWR G R437) [(0, .ref (G.2.2 6 0)), (1, .int k1_159), (2, .int k2_436)] 152 []
        obtain ⟨q453, hq454⟩ := zpair hE
        subst q453
        subst hq454
        exact zi_sub [0, 1, 2] rfl hK
    refine hK362 ?_
    refine zi_iconst (pc := 152) (v := 0) F dX5_remembers_152 rfl ?_
    refine zi_istore_n (pc := 153) (lv' := [(0, .ref (G.2.2 6 0)), (1, .int k1_159), (2, .int 0)]) F dX5_remembers_153 (by decide) rfl ?_
    have hL154 : ∀ (n466 : Nat) (k2_464 : Int32) (R465 : zS_t), (0 ≤ Int32.toInt k2_464) ∧ (Int32.toInt k2_464 ≤ 24) ∧ (Int32.toInt (R465 23 0) ≤ 39) ∧ (zIR R465) → 25 - Int32.toInt k2_464 ≤ (n466 : Int) → ∀ Y467, mX5_remembers_L154  n466 k2_464 R465 = Y467 → (((0 ≤ Int32.toInt Y467.1) ∧ (Int32.toInt Y467.1 ≤ 24) ∧ (Int32.toInt ((Y467.2) 23 0) ≤ 39) ∧ (zIR (Y467.2))) → zW p l e rmX5_remembers s m args below meth c 0 0 Q G.1 A 5 (zWR G (Y467.2)) [(0, .ref (G.2.2 6 0)), (1, .int k1_159), (2, .int Y467.1)] 186 []) → zW p l e rmX5_remembers s m args below meth c 0 0 Q G.1 A 5 (zWR G R465) [(0, .ref (G.2.2 6 0)), (1, .int k1_159), (2, .int k2_464)] 154 [] := by
      intro n466
      induction n466 with
      | zero =>
        intro k2_464 R465 hI hM9
        obtain ⟨i468, i469, i470, hIR465⟩ := id hI
        obtain ⟨⟨i471, i472⟩, ⟨i473, i474⟩, ⟨i475, i476⟩, ⟨i477, i478⟩, ⟨i479, i480⟩, hIR465_b14, hIR465_p15⟩ := id hIR465
        exact absurd hM9 (by omega)
      | succ n466 ih =>
        intro k2_464 R465 hI hM9 Y467 hE hK
        obtain ⟨i481, i482, i483, hIR465⟩ := id hI
        obtain ⟨⟨i484, i485⟩, ⟨i486, i487⟩, ⟨i488, i489⟩, ⟨i490, i491⟩, ⟨i492, i493⟩, hIR465_b14, hIR465_p15⟩ := id hIR465
        rw [mX5_remembers_L154.eq_2] at hE
        refine zi_iload_n (pc := 154) F dX5_remembers_154 2 rfl ?_
        refine zi_bipush (pc := 155) (v := 24) F dX5_remembers_155 rfl ?_
        refine zi_icmp_ge (pc := 157) (tgt := 186) F dX5_remembers_157 (by decide) (fun c494 => ?_) (fun c494 => ?_)
        · have hE := zite_t hE c494
          have t495 := zt_le c494
          subst hE
          refine zi_sub [0, 1, 2] rfl ?_
          exact hK (⟨by (show 0 ≤ Int32.toInt k2_464; omega), by (show Int32.toInt k2_464 ≤ 24; omega), by (show Int32.toInt (R465 23 0) ≤ 39; omega), hIR465⟩)
        · have hE := zite_f hE c494
          have t496 := zt_nle c494
          refine zi_aload_n (pc := 160) F dX5_remembers_160 0 rfl ?_
          refine zi_get (pc := 161) (C := RX5) (T := TX5) (N := 27) (v := .ref (G.2.2 6 16)) F (hw_X5_remembers_X5) 0 rfl rfl 24 (by decide) (List.mem_of_getElem? (i := 2) rfl) rfl rfl dX5_remembers_161 ?_
          refine zi_bipush (pc := 164) (v := 24) F dX5_remembers_164 rfl ?_
          refine zi_aload_n (pc := 166) F dX5_remembers_166 0 rfl ?_
          refine zi_get (pc := 167) (C := RX5) (T := TX5) (N := 27) (v := .int (R465 23 0)) F (hw_X5_remembers_X5) 0 rfl rfl 23 (by decide) (List.mem_of_getElem? (i := 1) rfl) rfl rfl dX5_remembers_167 ?_
          refine zi_imul (pc := 170) F dX5_remembers_170 ?_
          refine zi_iload_n (pc := 171) F dX5_remembers_171 2 rfl ?_
          refine zi_iadd (pc := 172) F dX5_remembers_172 ?_
          refine zi_aload_n (pc := 173) F dX5_remembers_173 0 rfl ?_
          refine zi_get (pc := 174) (C := RX5) (T := TX5) (N := 27) (v := .ref (G.2.2 6 17)) F (hw_X5_remembers_X5) 0 rfl rfl 25 (by decide) (List.mem_of_getElem? (i := 3) rfl) rfl rfl dX5_remembers_174 ?_
          refine zi_iload_n (pc := 177) F dX5_remembers_177 2 rfl ?_
          refine zi_iald (pc := 178) (v := (R465 25 k2_464.toNatClampNeg)) F 17 0 rfl rfl (zin (a := k2_464) (by omega) (by omega)) rfl dX5_remembers_178 ?_
          try have t497 := zt_mulc (a := 24) (b := (R465 23 0)) (c := 24) rfl (by omega) (by omega)
          try have t498 := zt_add (a := (24 * (R465 23 0))) (b := k2_464) (by omega) (by omega)
          refine zi_iast (pc := 179) (ws' := zWR G (zsF R465 24 (upd (R465 24) ((24 * (R465 23 0)) + k2_464).toNatClampNeg (R465 25 k2_464.toNatClampNeg)))) F 16 0 rfl rfl (zin (a := ((24 * (R465 23 0)) + k2_464)) (by omega) (by omega)) rfl dX5_remembers_179 ?_
          try have t501 := zt_add (a := k2_464) (b := 1) (by omega) (by omega)
          obtain ⟨y499, e500⟩ : ∃ z : Int32, (k2_464 + 1) = z := ⟨_, rfl⟩
          have hE := zbnd_cut hE e500
          have t502 := congrArg Int32.toInt e500
          refine zi_iinc (pc := 180) (lv' := [(0, .ref (G.2.2 6 0)), (1, .int k1_159), (2, .int y499)]) F dX5_remembers_180 2 rfl e500 (by decide) rfl ?_
          refine zi_goto (pc := 183) (tgt := 154) F dX5_remembers_183 (by decide) ?_
          refine zi_sub [0, 1, 2] rfl ?_
          exact ih y499 (zsF R465 24 (upd (R465 24) ((24 * (R465 23 0)) + k2_464).toNatClampNeg (R465 25 k2_464.toNatClampNeg))) (⟨by (show 0 ≤ Int32.toInt y499; omega), by (show Int32.toInt y499 ≤ 24; omega), by (show Int32.toInt (R465 23 0) ≤ 39; omega), hIR465⟩) (by omega) _ hE hK
    obtain ⟨⟨k2_503, R504⟩, e505⟩ : ∃ z, mX5_remembers_L154  25 0 R256 = z := ⟨_, rfl⟩
    have hE := zbnd2_cut hE e505
    refine hL154 25 0 R256 (⟨by (show 0 ≤ Int32.toInt 0; omega), by (show Int32.toInt 0 ≤ 24; omega), by (show Int32.toInt (R256 23 0) ≤ 39; omega), hIR256⟩) (by omega) _ e505 (fun hI506 => ?_)
    have hI506 : (0 ≤ Int32.toInt k2_503) ∧ (Int32.toInt k2_503 ≤ 24) ∧ (Int32.toInt (R504 23 0) ≤ 39) ∧ (zIR R504) := hI506
    obtain ⟨i507, i508, i509, hIR504⟩ := id hI506
    obtain ⟨⟨i510, i511⟩, ⟨i512, i513⟩, ⟨i514, i515⟩, ⟨i516, i517⟩, ⟨i518, i519⟩, hIR504_b14, hIR504_p15⟩ := id hIR504
    show zW p l e rmX5_remembers s m args below meth c 0 0 Q G.1 A 5 (zWR G R504) [(0, .ref (G.2.2 6 0)), (1, .int k1_159), (2, .int k2_503)] 186 []
    refine zi_aload_n (pc := 186) F dX5_remembers_186 0 rfl ?_
    refine zi_dup (pc := 187) F dX5_remembers_187 rfl ?_
    refine zi_get (pc := 188) (C := RX5) (T := TX5) (N := 27) (v := .int (R504 23 0)) F (hw_X5_remembers_X5) 0 rfl rfl 23 (by decide) (List.mem_of_getElem? (i := 1) rfl) rfl rfl dX5_remembers_188 ?_
    refine zi_iconst (pc := 191) (v := 1) F dX5_remembers_191 rfl ?_
    refine zi_iadd (pc := 192) F dX5_remembers_192 ?_
    refine zi_put (pc := 193) (C := RX5) (T := TX5) (N := 27) (ty := .int) (ws' := zWR G (zsI R504 23 ((R504 23 0) + 1))) F (hw_X5_remembers_X5) tyX5 tyX5_ok nmX5 0 rfl rfl 23 (by decide) (List.mem_of_getElem? (i := 1) rfl) rfl rfl rfl rfl rfl (Nat.le_of_ble_eq_true rfl) rfl dX5_remembers_193 ?_
    subst hE
    exact hret _ _ dX5_remembers_196
  · have hE := zite_f hE c165
    have t520 := zt_ne c165
    refine zi_aload_n (pc := 78) F dX5_remembers_78 0 rfl ?_
    refine zi_dup (pc := 79) F dX5_remembers_79 rfl ?_
    refine zi_get (pc := 80) (C := RX5) (T := TX5) (N := 27) (v := .int (R1 4 0)) F (hw_X5_remembers_X5) 0 rfl rfl 4 (by decide) (List.mem_of_getElem? (i := 4) rfl) rfl rfl dX5_remembers_80 ?_
    refine zi_iconst (pc := 83) (v := 1) F dX5_remembers_83 rfl ?_
    refine zi_iadd (pc := 84) F dX5_remembers_84 ?_
    refine zi_put (pc := 85) (C := RX5) (T := TX5) (N := 27) (ty := .int) (ws' := zWR G (zsI R1 4 ((R1 4 0) + 1))) F (hw_X5_remembers_X5) tyX5 tyX5_ok nmX5 0 rfl rfl 4 (by decide) (List.mem_of_getElem? (i := 4) rfl) rfl rfl rfl rfl rfl (Nat.le_of_ble_eq_true rfl) rfl dX5_remembers_85 ?_
    refine zi_aload_n (pc := 88) F dX5_remembers_88 0 rfl ?_
    refine zi_iconst (pc := 89) (v := 0) F dX5_remembers_89 rfl ?_
    refine zi_put (pc := 90) (C := RX5) (T := TX5) (N := 27) (ty := .int) (ws' := zWR G (zsI (zsI R1 4 ((R1 4 0) + 1)) 12 0)) F (hw_X5_remembers_X5) tyX5 tyX5_ok nmX5 0 rfl rfl 12 (by decide) (List.mem_of_getElem? (i := 5) rfl) rfl rfl rfl rfl rfl (Nat.le_of_ble_eq_true rfl) rfl dX5_remembers_90 ?_
    refine zi_aload_n (pc := 93) F dX5_remembers_93 0 rfl ?_
    refine zi_iconst (pc := 94) (v := 0) F dX5_remembers_94 rfl ?_
    refine zi_put (pc := 95) (C := RX5) (T := TX5) (N := 27) (ty := .int) (ws' := zWR G (zsI (zsI (zsI R1 4 ((R1 4 0) + 1)) 12 0) 23 0)) F (hw_X5_remembers_X5) tyX5 tyX5_ok nmX5 0 rfl rfl 23 (by decide) (List.mem_of_getElem? (i := 1) rfl) rfl rfl rfl rfl rfl (Nat.le_of_ble_eq_true rfl) rfl dX5_remembers_95 ?_
    subst hE
    exact hret _ _ dX5_remembers_98
/-! X5_resolves -/
def mX5_resolves_S40 (y2 : Int32) (y8 : Int32) (y12 : Int32) (R15 : zS_t) : zS_t := if (R15 14 (R15 12 0).toNatClampNeg) = 0 then (if 12 ≤ y2 then (if y2 = 12 then (zbnd (mX5_strikes y12 R15) (fun R252 => R252)) else (zbnd (mX5_entryOf y12 R15) (fun r219 => if r219 < 0 then R15 else (zbnd (mX5_entryOf y12 R15) (fun r227 => zbnd (mX5_removes (((R15 12 0) - 1) - r227) R15) (fun R233 => R233)))))) else (zbnd (mX5_enters y2 y8 y12 R15) (fun R267 => R267))) else (zbnd (mX5_trigger y2 y8 R15) (fun R282 => R282))
def mX5_resolves  (R : zS_t) : zS_t := zbnd ((R 13 ((R 12 0) - 1).toNatClampNeg)) (fun y2 => zbnd ((R 15 ((R 12 0) - 1).toNatClampNeg)) (fun y8 => zbnd ((R 17 ((R 12 0) - 1).toNatClampNeg)) (fun y12 => zbnd ((zsI R 12 ((R 12 0) - 1))) (fun R15 => zbnd (mX5_resolves_S40 y2 y8 y12 R15) (fun R116 => zbnd (mX5_remembers R116) (fun R296 => (zsI (zsI R296 1 (R296 0 0)) 2 0)))))))
set_option maxHeartbeats 4000000 in
set_option maxRecDepth 100000 in
theorem pp_X5_resolves  (R : zS_t) (hIR : zIR R) (hx0 : 0 < Int32.toInt (R 12 0)) : (zIR (mX5_resolves R)) := by
  obtain ⟨X, hE⟩ : ∃ z, mX5_resolves R = z := ⟨_, rfl⟩
  rw [hE]
  have k_0 : Int32.toInt 0 = 0 := by decide
  have k_1 : Int32.toInt 1 = 1 := by decide
  have k_12 : Int32.toInt 12 = 12 := by decide
  obtain ⟨⟨i226, i227⟩, ⟨i228, i229⟩, ⟨i230, i231⟩, ⟨i232, i233⟩, ⟨i234, i235⟩, hIR_b14, hIR_p15⟩ := id hIR
  unfold mX5_resolves at hE
  try have t1 := zt_sub (a := (R 12 0)) (b := 1) (by omega) (by omega)
  obtain ⟨y2, e3⟩ : ∃ z : Int32, (R 13 ((R 12 0) - 1).toNatClampNeg) = z := ⟨_, rfl⟩
  have hE := zbnd_cut hE e3
  have t4 := congrArg Int32.toInt e3
  try have t5 := zt_sub (a := (R 12 0)) (b := 1) (by omega) (by omega)
  obtain ⟨t6, t7⟩ := hIR_p15 ((R 12 0) - 1).toNatClampNeg
  obtain ⟨y8, e9⟩ : ∃ z : Int32, (R 15 ((R 12 0) - 1).toNatClampNeg) = z := ⟨_, rfl⟩
  have hE := zbnd_cut hE e9
  have t10 := congrArg Int32.toInt e9
  try have t11 := zt_sub (a := (R 12 0)) (b := 1) (by omega) (by omega)
  obtain ⟨y12, e13⟩ : ∃ z : Int32, (R 17 ((R 12 0) - 1).toNatClampNeg) = z := ⟨_, rfl⟩
  have hE := zbnd_cut hE e13
  have t14 := congrArg Int32.toInt e13
  try have t17 := zt_sub (a := (R 12 0)) (b := 1) (by omega) (by omega)
  have hIR15 : zIR (zsI R 12 ((R 12 0) - 1)) := ⟨⟨by (show (0:Int) ≤ Int32.toInt (R 6 0)); omega, by (show Int32.toInt (R 6 0) ≤ (10:Int)); omega⟩, ⟨by (show (0:Int) ≤ Int32.toInt ((R 12 0) - 1)); omega, by (show Int32.toInt ((R 12 0) - 1) ≤ (12:Int)); omega⟩, ⟨by (show (0:Int) ≤ Int32.toInt (R 23 0)); omega, by (show Int32.toInt (R 23 0) ≤ (40:Int)); omega⟩, ⟨by (show (0:Int) ≤ Int32.toInt (R 0 0)); omega, by (show Int32.toInt (R 0 0) ≤ (2:Int)); omega⟩, ⟨by (show (0:Int) ≤ Int32.toInt (R 1 0)); omega, by (show Int32.toInt (R 1 0) ≤ (2:Int)); omega⟩, hIR_b14, hIR_p15⟩
  obtain ⟨R15, e16⟩ : ∃ z, (zsI R 12 ((R 12 0) - 1)) = z := ⟨_, rfl⟩
  have hE := zbnd_cut hE e16
  have t18 : Int32.toInt (R15 6 0) = Int32.toInt (R 6 0) := by rw [← e16]; rfl
  have t19 : Int32.toInt (R15 12 0) = Int32.toInt ((R 12 0) - 1) := by rw [← e16]; rfl
  have t20 : Int32.toInt (R15 23 0) = Int32.toInt (R 23 0) := by rw [← e16]; rfl
  have t21 : Int32.toInt (R15 0 0) = Int32.toInt (R 0 0) := by rw [← e16]; rfl
  have t22 : Int32.toInt (R15 1 0) = Int32.toInt (R 1 0) := by rw [← e16]; rfl
  rw [e16] at hIR15
  obtain ⟨⟨i23, i24⟩, ⟨i25, i26⟩, ⟨i27, i28⟩, ⟨i29, i30⟩, ⟨i31, i32⟩, hIR15_b14, hIR15_p15⟩ := id hIR15
  obtain ⟨R116, e117⟩ : ∃ z, mX5_resolves_S40 y2 y8 y12 R15 = z := ⟨_, rfl⟩
  have hE := zbnd_cut hE e117
  have hQ118 : (zIR R116) := by
    have hE := e117
    unfold mX5_resolves_S40 at hE
    by_cases c119 : (R15 14 (R15 12 0).toNatClampNeg) = 0
    · have hE := zite_t hE c119
      have t120 := congrArg Int32.toInt c119
      by_cases c121 : 12 ≤ y2
      · have hE := zite_t hE c121
        have t122 := zt_le c121
        by_cases c123 : y2 = 12
        · have hE := zite_t hE c123
          have t124 := congrArg Int32.toInt c123
          have pp128 := pp_X5_strikes y12 R15 (hIR15)
          obtain ⟨R125, e126⟩ : ∃ z, mX5_strikes y12 R15 = z := ⟨_, rfl⟩
          have hE := zbnd_cut hE e126
          rw [e126] at pp128
          have hIR125 := pp128
          obtain ⟨⟨i129, i130⟩, ⟨i131, i132⟩, ⟨i133, i134⟩, ⟨i135, i136⟩, ⟨i137, i138⟩, hIR125_b14, hIR125_p15⟩ := id hIR125
          subst hE
          exact hIR125
        · have hE := zite_f hE c123
          have t139 := zt_ne c123
          have pp143 := pp_X5_entryOf y12 R15 (hIR15)
          obtain ⟨r140, e141⟩ : ∃ z, mX5_entryOf y12 R15 = z := ⟨_, rfl⟩
          have hE := zbnd_cut hE e141
          rw [e141] at pp143
          have q144 := pp143
          by_cases c145 : r140 < 0
          · have hE := zite_t hE c145
            have t146 := zt_lt c145
            subst hE
            exact hIR15
          · have hE := zite_f hE c145
            have t147 := zt_nlt c145
            have pp151 := pp_X5_entryOf y12 R15 (hIR15)
            obtain ⟨r148, e149⟩ : ∃ z, mX5_entryOf y12 R15 = z := ⟨_, rfl⟩
            have hE := zbnd_cut hE e149
            have t152 : Int32.toInt r148 = Int32.toInt r140 := congrArg Int32.toInt (e149.symm.trans e141)
            rw [e149] at pp151
            have q153 := pp151
            try have t155 := zt_sub (a := (R15 12 0)) (b := 1) (by omega) (by omega)
            try have t156 := zt_sub (a := ((R15 12 0) - 1)) (b := r148) (by omega) (by omega)
            try have t157 := zt_sub (a := (R15 12 0)) (b := 1) (by omega) (by omega)
            try have t158 := zt_sub (a := ((R15 12 0) - 1)) (b := r148) (by omega) (by omega)
            have pp161 := pp_X5_removes (((R15 12 0) - 1) - r148) R15 (hIR15) (by first | omega | (show 0 ≤ Int32.toInt (((R15 12 0) - 1) - r148) ∧ Int32.toInt (((R15 12 0) - 1) - r148) < Int32.toInt (R15 12 0); omega))
            obtain ⟨R154, e159⟩ : ∃ z, mX5_removes (((R15 12 0) - 1) - r148) R15 = z := ⟨_, rfl⟩
            have hE := zbnd_cut hE e159
            rw [e159] at pp161
            have hIR154 := pp161
            obtain ⟨⟨i162, i163⟩, ⟨i164, i165⟩, ⟨i166, i167⟩, ⟨i168, i169⟩, ⟨i170, i171⟩, hIR154_b14, hIR154_p15⟩ := id hIR154
            subst hE
            exact hIR154
      · have hE := zite_f hE c121
        have t172 := zt_nle c121
        have pp176 := pp_X5_enters y2 y8 y12 R15 (hIR15)
        obtain ⟨R173, e174⟩ : ∃ z, mX5_enters y2 y8 y12 R15 = z := ⟨_, rfl⟩
        have hE := zbnd_cut hE e174
        rw [e174] at pp176
        have hIR173 := pp176
        obtain ⟨⟨i177, i178⟩, ⟨i179, i180⟩, ⟨i181, i182⟩, ⟨i183, i184⟩, ⟨i185, i186⟩, hIR173_b14, hIR173_p15⟩ := id hIR173
        subst hE
        exact hIR173
    · have hE := zite_f hE c119
      have t187 := zt_ne c119
      have pp191 := pp_X5_trigger y2 y8 R15 (hIR15) (by first | omega | (show 0 ≤ Int32.toInt y8 ∧ Int32.toInt y8 < 3; omega))
      obtain ⟨R188, e189⟩ : ∃ z, mX5_trigger y2 y8 R15 = z := ⟨_, rfl⟩
      have hE := zbnd_cut hE e189
      rw [e189] at pp191
      have hIR188 := pp191
      obtain ⟨⟨i192, i193⟩, ⟨i194, i195⟩, ⟨i196, i197⟩, ⟨i198, i199⟩, ⟨i200, i201⟩, hIR188_b14, hIR188_p15⟩ := id hIR188
      subst hE
      exact hIR188
  have hIR116 := hQ118
  obtain ⟨⟨i202, i203⟩, ⟨i204, i205⟩, ⟨i206, i207⟩, ⟨i208, i209⟩, ⟨i210, i211⟩, hIR116_b14, hIR116_p15⟩ := id hIR116
  have pp215 := pp_X5_remembers  R116 (hIR116)
  obtain ⟨R212, e213⟩ : ∃ z, mX5_remembers R116 = z := ⟨_, rfl⟩
  have hE := zbnd_cut hE e213
  rw [e213] at pp215
  have hIR212 := pp215
  obtain ⟨⟨i216, i217⟩, ⟨i218, i219⟩, ⟨i220, i221⟩, ⟨i222, i223⟩, ⟨i224, i225⟩, hIR212_b14, hIR212_p15⟩ := id hIR212
  subst hE
  exact ⟨⟨by (show (0:Int) ≤ Int32.toInt (R212 6 0)); omega, by (show Int32.toInt (R212 6 0) ≤ (10:Int)); omega⟩, ⟨by (show (0:Int) ≤ Int32.toInt (R212 12 0)); omega, by (show Int32.toInt (R212 12 0) ≤ (12:Int)); omega⟩, ⟨by (show (0:Int) ≤ Int32.toInt (R212 23 0)); omega, by (show Int32.toInt (R212 23 0) ≤ (40:Int)); omega⟩, ⟨by (show (0:Int) ≤ Int32.toInt (R212 0 0)); omega, by (show Int32.toInt (R212 0 0) ≤ (2:Int)); omega⟩, ⟨by (show (0:Int) ≤ Int32.toInt (R212 0 0)); omega, by (show Int32.toInt (R212 0 0) ≤ (2:Int)); omega⟩, hIR212_b14, hIR212_p15⟩
theorem hw_X5_resolves_X5 : ∀ w ∈ wsX50, w ∈ wsX5_resolves := fun w h => List.mem_cons_of_mem _ (List.mem_append_right _ (h))
abbrev rmX5_resolves : Room := { frames := 6, cells := 0, slots := 0, locals := 143 }
theorem hd_X5_resolves : yX5_resolves.cls = RX5 ∧ yX5_resolves.cls ≠ "java/lang/invoke/MethodHandle" ∧ yX5_resolves.cls ≠ "java/lang/invoke/VarHandle" ∧ (parseMethodDescriptor yX5_resolves.desc).map (fun d => d.parameters.length) = some 0 := by decide +kernel
set_option maxHeartbeats 4000000 in
set_option maxRecDepth 100000 in
theorem c_X5_resolves (l : Launch) (G : zG_t)  (R : zS_t) (hIR : zIR R) (hx0 : 0 < Int32.toInt (R 12 0)) : zCV l G.1 (zty G) yX5_resolves wsX5_resolves rmX5_resolves [.ref (G.2.2 6 0)] (zWR G R) (zWR G (mX5_resolves R)) := by
  obtain ⟨X, hE⟩ : ∃ z, mX5_resolves R = z := ⟨_, rfl⟩
  rw [hE]
  refine zb_V (cc := cX5_resolves) (maxL := 4) (by decide) rfl (Nat.le_of_ble_eq_true rfl) ?_
  intro p e s m args below meth c Q A F hret
  show zW p l e rmX5_resolves s m args below meth c 0 0 Q G.1 A 4 (zWR G R) [(0, .ref (G.2.2 6 0))] 0 []
  have k_0 : Int32.toInt 0 = 0 := by decide
  have k_1 : Int32.toInt 1 = 1 := by decide
  have k_12 : Int32.toInt 12 = 12 := by decide
  obtain ⟨⟨i236, i237⟩, ⟨i238, i239⟩, ⟨i240, i241⟩, ⟨i242, i243⟩, ⟨i244, i245⟩, hIR_b14, hIR_p15⟩ := id hIR
  unfold mX5_resolves at hE
  refine zi_aload_n (pc := 0) F dX5_resolves_0 0 rfl ?_
  refine zi_dup (pc := 1) F dX5_resolves_1 rfl ?_
  refine zi_get (pc := 2) (C := RX5) (T := TX5) (N := 27) (v := .int (R 12 0)) F (hw_X5_resolves_X5) 0 rfl rfl 12 (by decide) (List.mem_of_getElem? (i := 1) rfl) rfl rfl dX5_resolves_2 ?_
  refine zi_iconst (pc := 5) (v := 1) F dX5_resolves_5 rfl ?_
  refine zi_isub (pc := 6) F dX5_resolves_6 ?_
  refine zi_put (pc := 7) (C := RX5) (T := TX5) (N := 27) (ty := .int) (ws' := zWR G (zsI R 12 ((R 12 0) - 1))) F (hw_X5_resolves_X5) tyX5 tyX5_ok nmX5 0 rfl rfl 12 (by decide) (List.mem_of_getElem? (i := 1) rfl) rfl rfl rfl rfl rfl (Nat.le_of_ble_eq_true rfl) rfl dX5_resolves_7 ?_
  refine zi_aload_n (pc := 10) F dX5_resolves_10 0 rfl ?_
  refine zi_get (pc := 11) (C := RX5) (T := TX5) (N := 27) (v := .ref (G.2.2 6 6)) F (hw_X5_resolves_X5) 0 rfl rfl 13 (by decide) (List.mem_of_getElem? (i := 2) rfl) rfl rfl dX5_resolves_11 ?_
  refine zi_aload_n (pc := 14) F dX5_resolves_14 0 rfl ?_
  refine zi_get (pc := 15) (C := RX5) (T := TX5) (N := 27) (v := .int ((R 12 0) - 1)) F (hw_X5_resolves_X5) 0 rfl rfl 12 (by decide) (List.mem_of_getElem? (i := 1) rfl) rfl rfl dX5_resolves_15 ?_
  try have t1 := zt_sub (a := (R 12 0)) (b := 1) (by omega) (by omega)
  refine zi_iald (pc := 18) (v := (R 13 ((R 12 0) - 1).toNatClampNeg)) F 6 0 rfl rfl (zin (a := ((R 12 0) - 1)) (by omega) (by omega)) rfl dX5_resolves_18 ?_
  refine zi_topi (fun y2 e3 => ?_)
  have hE := zbnd_cut hE e3
  have t4 := congrArg Int32.toInt e3
  refine zi_istore_n (pc := 19) (lv' := [(0, .ref (G.2.2 6 0)), (1, .int y2)]) F dX5_resolves_19 (by decide) rfl ?_
  refine zi_aload_n (pc := 20) F dX5_resolves_20 0 rfl ?_
  refine zi_get (pc := 21) (C := RX5) (T := TX5) (N := 27) (v := .ref (G.2.2 6 8)) F (hw_X5_resolves_X5) 0 rfl rfl 15 (by decide) (List.mem_of_getElem? (i := 3) rfl) rfl rfl dX5_resolves_21 ?_
  refine zi_aload_n (pc := 24) F dX5_resolves_24 0 rfl ?_
  refine zi_get (pc := 25) (C := RX5) (T := TX5) (N := 27) (v := .int ((R 12 0) - 1)) F (hw_X5_resolves_X5) 0 rfl rfl 12 (by decide) (List.mem_of_getElem? (i := 1) rfl) rfl rfl dX5_resolves_25 ?_
  try have t5 := zt_sub (a := (R 12 0)) (b := 1) (by omega) (by omega)
  obtain ⟨t6, t7⟩ := hIR_p15 ((R 12 0) - 1).toNatClampNeg
  refine zi_iald (pc := 28) (v := (R 15 ((R 12 0) - 1).toNatClampNeg)) F 8 0 rfl rfl (zin (a := ((R 12 0) - 1)) (by omega) (by omega)) rfl dX5_resolves_28 ?_
  refine zi_topi (fun y8 e9 => ?_)
  have hE := zbnd_cut hE e9
  have t10 := congrArg Int32.toInt e9
  refine zi_istore_n (pc := 29) (lv' := [(0, .ref (G.2.2 6 0)), (1, .int y2), (2, .int y8)]) F dX5_resolves_29 (by decide) rfl ?_
  refine zi_aload_n (pc := 30) F dX5_resolves_30 0 rfl ?_
  refine zi_get (pc := 31) (C := RX5) (T := TX5) (N := 27) (v := .ref (G.2.2 6 10)) F (hw_X5_resolves_X5) 0 rfl rfl 17 (by decide) (List.mem_of_getElem? (i := 4) rfl) rfl rfl dX5_resolves_31 ?_
  refine zi_aload_n (pc := 34) F dX5_resolves_34 0 rfl ?_
  refine zi_get (pc := 35) (C := RX5) (T := TX5) (N := 27) (v := .int ((R 12 0) - 1)) F (hw_X5_resolves_X5) 0 rfl rfl 12 (by decide) (List.mem_of_getElem? (i := 1) rfl) rfl rfl dX5_resolves_35 ?_
  try have t11 := zt_sub (a := (R 12 0)) (b := 1) (by omega) (by omega)
  refine zi_iald (pc := 38) (v := (R 17 ((R 12 0) - 1).toNatClampNeg)) F 10 0 rfl rfl (zin (a := ((R 12 0) - 1)) (by omega) (by omega)) rfl dX5_resolves_38 ?_
  refine zi_topi (fun y12 e13 => ?_)
  have hE := zbnd_cut hE e13
  have t14 := congrArg Int32.toInt e13
  refine zi_istore_n (pc := 39) (lv' := [(0, .ref (G.2.2 6 0)), (1, .int y2), (2, .int y8), (3, .int y12)]) F dX5_resolves_39 (by decide) rfl ?_
  try have t17 := zt_sub (a := (R 12 0)) (b := 1) (by omega) (by omega)
  have hIR15 : zIR (zsI R 12 ((R 12 0) - 1)) := ⟨⟨by (show (0:Int) ≤ Int32.toInt (R 6 0)); omega, by (show Int32.toInt (R 6 0) ≤ (10:Int)); omega⟩, ⟨by (show (0:Int) ≤ Int32.toInt ((R 12 0) - 1)); omega, by (show Int32.toInt ((R 12 0) - 1) ≤ (12:Int)); omega⟩, ⟨by (show (0:Int) ≤ Int32.toInt (R 23 0)); omega, by (show Int32.toInt (R 23 0) ≤ (40:Int)); omega⟩, ⟨by (show (0:Int) ≤ Int32.toInt (R 0 0)); omega, by (show Int32.toInt (R 0 0) ≤ (2:Int)); omega⟩, ⟨by (show (0:Int) ≤ Int32.toInt (R 1 0)); omega, by (show Int32.toInt (R 1 0) ≤ (2:Int)); omega⟩, hIR_b14, hIR_p15⟩
  refine zi_nameW (w := fun Z9 => zWR G Z9) (S := (zsI R 12 ((R 12 0) - 1))) (fun R15 e16 => ?_)
  have hE := zbnd_cut hE e16
  have t18 : Int32.toInt (R15 6 0) = Int32.toInt (R 6 0) := by rw [← e16]; rfl
  have t19 : Int32.toInt (R15 12 0) = Int32.toInt ((R 12 0) - 1) := by rw [← e16]; rfl
  have t20 : Int32.toInt (R15 23 0) = Int32.toInt (R 23 0) := by rw [← e16]; rfl
  have t21 : Int32.toInt (R15 0 0) = Int32.toInt (R 0 0) := by rw [← e16]; rfl
  have t22 : Int32.toInt (R15 1 0) = Int32.toInt (R 1 0) := by rw [← e16]; rfl
  rw [e16] at hIR15
  obtain ⟨⟨i23, i24⟩, ⟨i25, i26⟩, ⟨i27, i28⟩, ⟨i29, i30⟩, ⟨i31, i32⟩, hIR15_b14, hIR15_p15⟩ := id hIR15
  obtain ⟨R116, e117⟩ : ∃ z, mX5_resolves_S40 y2 y8 y12 R15 = z := ⟨_, rfl⟩
  have hE := zbnd_cut hE e117
  have hQ118 : (zIR R116) := by
    have hE := e117
    unfold mX5_resolves_S40 at hE
    by_cases c119 : (R15 14 (R15 12 0).toNatClampNeg) = 0
    · have hE := zite_t hE c119
      have t120 := congrArg Int32.toInt c119
      by_cases c121 : 12 ≤ y2
      · have hE := zite_t hE c121
        have t122 := zt_le c121
        by_cases c123 : y2 = 12
        · have hE := zite_t hE c123
          have t124 := congrArg Int32.toInt c123
          have pp128 := pp_X5_strikes y12 R15 (hIR15)
          obtain ⟨R125, e126⟩ : ∃ z, mX5_strikes y12 R15 = z := ⟨_, rfl⟩
          have hE := zbnd_cut hE e126
          rw [e126] at pp128
          have hIR125 := pp128
          obtain ⟨⟨i129, i130⟩, ⟨i131, i132⟩, ⟨i133, i134⟩, ⟨i135, i136⟩, ⟨i137, i138⟩, hIR125_b14, hIR125_p15⟩ := id hIR125
          subst hE
          exact hIR125
        · have hE := zite_f hE c123
          have t139 := zt_ne c123
          have pp143 := pp_X5_entryOf y12 R15 (hIR15)
          obtain ⟨r140, e141⟩ : ∃ z, mX5_entryOf y12 R15 = z := ⟨_, rfl⟩
          have hE := zbnd_cut hE e141
          rw [e141] at pp143
          have q144 := pp143
          by_cases c145 : r140 < 0
          · have hE := zite_t hE c145
            have t146 := zt_lt c145
            subst hE
            exact hIR15
          · have hE := zite_f hE c145
            have t147 := zt_nlt c145
            have pp151 := pp_X5_entryOf y12 R15 (hIR15)
            obtain ⟨r148, e149⟩ : ∃ z, mX5_entryOf y12 R15 = z := ⟨_, rfl⟩
            have hE := zbnd_cut hE e149
            have t152 : Int32.toInt r148 = Int32.toInt r140 := congrArg Int32.toInt (e149.symm.trans e141)
            rw [e149] at pp151
            have q153 := pp151
            try have t155 := zt_sub (a := (R15 12 0)) (b := 1) (by omega) (by omega)
            try have t156 := zt_sub (a := ((R15 12 0) - 1)) (b := r148) (by omega) (by omega)
            try have t157 := zt_sub (a := (R15 12 0)) (b := 1) (by omega) (by omega)
            try have t158 := zt_sub (a := ((R15 12 0) - 1)) (b := r148) (by omega) (by omega)
            have pp161 := pp_X5_removes (((R15 12 0) - 1) - r148) R15 (hIR15) (by first | omega | (show 0 ≤ Int32.toInt (((R15 12 0) - 1) - r148) ∧ Int32.toInt (((R15 12 0) - 1) - r148) < Int32.toInt (R15 12 0); omega))
            obtain ⟨R154, e159⟩ : ∃ z, mX5_removes (((R15 12 0) - 1) - r148) R15 = z := ⟨_, rfl⟩
            have hE := zbnd_cut hE e159
            rw [e159] at pp161
            have hIR154 := pp161
            obtain ⟨⟨i162, i163⟩, ⟨i164, i165⟩, ⟨i166, i167⟩, ⟨i168, i169⟩, ⟨i170, i171⟩, hIR154_b14, hIR154_p15⟩ := id hIR154
            subst hE
            exact hIR154
      · have hE := zite_f hE c121
        have t172 := zt_nle c121
        have pp176 := pp_X5_enters y2 y8 y12 R15 (hIR15)
        obtain ⟨R173, e174⟩ : ∃ z, mX5_enters y2 y8 y12 R15 = z := ⟨_, rfl⟩
        have hE := zbnd_cut hE e174
        rw [e174] at pp176
        have hIR173 := pp176
        obtain ⟨⟨i177, i178⟩, ⟨i179, i180⟩, ⟨i181, i182⟩, ⟨i183, i184⟩, ⟨i185, i186⟩, hIR173_b14, hIR173_p15⟩ := id hIR173
        subst hE
        exact hIR173
    · have hE := zite_f hE c119
      have t187 := zt_ne c119
      have pp191 := pp_X5_trigger y2 y8 R15 (hIR15) (by first | omega | (show 0 ≤ Int32.toInt y8 ∧ Int32.toInt y8 < 3; omega))
      obtain ⟨R188, e189⟩ : ∃ z, mX5_trigger y2 y8 R15 = z := ⟨_, rfl⟩
      have hE := zbnd_cut hE e189
      rw [e189] at pp191
      have hIR188 := pp191
      obtain ⟨⟨i192, i193⟩, ⟨i194, i195⟩, ⟨i196, i197⟩, ⟨i198, i199⟩, ⟨i200, i201⟩, hIR188_b14, hIR188_p15⟩ := id hIR188
      subst hE
      exact hIR188
  have hIR116 := hQ118
  obtain ⟨⟨i202, i203⟩, ⟨i204, i205⟩, ⟨i206, i207⟩, ⟨i208, i209⟩, ⟨i210, i211⟩, hIR116_b14, hIR116_p15⟩ := id hIR116
  have hK212 : zW p l e rmX5_resolves s m args below meth c 0 0 Q G.1 A 4 (zWR G R116) [(0, .ref (G.2.2 6 0)), (1, .int y2), (2, .int y8), (3, .int y12)] 115 [] → zW p l e rmX5_resolves s m args below meth c 0 0 Q G.1 A 4 (zWR G R15) [(0, .ref (G.2.2 6 0)), (1, .int y2), (2, .int y8), (3, .int y12)] 40 [] := by
    intro hK
    have hE := e117
    unfold mX5_resolves_S40 at hE
    refine zi_aload_n (pc := 40) F dX5_resolves_40 0 rfl ?_
    refine zi_get (pc := 41) (C := RX5) (T := TX5) (N := 27) (v := .ref (G.2.2 6 7)) F (hw_X5_resolves_X5) 0 rfl rfl 14 (by decide) (List.mem_of_getElem? (i := 5) rfl) rfl rfl dX5_resolves_41 ?_
    refine zi_aload_n (pc := 44) F dX5_resolves_44 0 rfl ?_
    refine zi_get (pc := 45) (C := RX5) (T := TX5) (N := 27) (v := .int (R15 12 0)) F (hw_X5_resolves_X5) 0 rfl rfl 12 (by decide) (List.mem_of_getElem? (i := 1) rfl) rfl rfl dX5_resolves_45 ?_
    refine zi_zald (pc := 48) (v := (R15 14 (R15 12 0).toNatClampNeg)) F 7 1 rfl rfl (zin (a := (R15 12 0)) (by omega) (by omega)) rfl dX5_resolves_48 ?_
    refine zi_if_eq (pc := 49) (tgt := 61) F dX5_resolves_49 (by decide) (fun c213 => ?_) (fun c213 => ?_)
    · have hE := zite_t hE c213
      have t214 := congrArg Int32.toInt c213
      refine zi_iload_n (pc := 61) F dX5_resolves_61 1 rfl ?_
      refine zi_bipush (pc := 62) (v := 12) F dX5_resolves_62 rfl ?_
      refine zi_icmp_ge (pc := 64) (tgt := 77) F dX5_resolves_64 (by decide) (fun c215 => ?_) (fun c215 => ?_)
      · have hE := zite_t hE c215
        have t216 := zt_le c215
        refine zi_iload_n (pc := 77) F dX5_resolves_77 1 rfl ?_
        refine zi_bipush (pc := 78) (v := 12) F dX5_resolves_78 rfl ?_
        refine zi_icmp_ne (pc := 80) (tgt := 91) F dX5_resolves_80 (by decide) (fun c217 => ?_) (fun c217 => ?_)
        · have hE := zite_f hE c217
          have t218 := zt_ne c217
          refine zi_aload_n (pc := 91) F dX5_resolves_91 0 rfl ?_
          refine zi_iload_n (pc := 92) F dX5_resolves_92 3 rfl ?_
          have hM221 := c_X5_entryOf l G y12 R15 (hIR15)
          have pp222 := pp_X5_entryOf y12 R15 (hIR15)
          obtain ⟨r219, e220⟩ : ∃ z, mX5_entryOf y12 R15 = z := ⟨_, rfl⟩
          have hE := zbnd_cut hE e220
          rw [e220] at hM221
          rw [e220] at pp222
          have q223 := pp222
          refine zi_callVI (pc := 93) (rest := []) (ws' := zWR G R15) F hM221 (cwV 1 F.1.2.2.2.2 gX5_resolves_X5_entryOf rfl rfl rfl hd_X5_entryOf ⟨Nat.le_of_ble_eq_true rfl, Nat.le_of_ble_eq_true rfl⟩) 0 rfl rfl _ _ (zw_nil _) (zw_nil _).symm rfl rfl (Nat.le_of_ble_eq_true rfl) dX5_resolves_93 ⟨Nat.zero_le _, Nat.zero_le _⟩ ?_
          refine zi_if_lt (pc := 96) (tgt := 115) F dX5_resolves_96 (by decide) (fun c224 => ?_) (fun c224 => ?_)
          · have hE := zite_t hE c224
            have t225 := zt_lt c224
            subst hE
            exact zi_sub [0, 1, 2, 3] rfl hK
          · have hE := zite_f hE c224
            have t226 := zt_nlt c224
            refine zi_aload_n (pc := 99) F dX5_resolves_99 0 rfl ?_
            refine zi_aload_n (pc := 100) F dX5_resolves_100 0 rfl ?_
            refine zi_get (pc := 101) (C := RX5) (T := TX5) (N := 27) (v := .int (R15 12 0)) F (hw_X5_resolves_X5) 0 rfl rfl 12 (by decide) (List.mem_of_getElem? (i := 1) rfl) rfl rfl dX5_resolves_101 ?_
            refine zi_iconst (pc := 104) (v := 1) F dX5_resolves_104 rfl ?_
            refine zi_isub (pc := 105) F dX5_resolves_105 ?_
            refine zi_aload_n (pc := 106) F dX5_resolves_106 0 rfl ?_
            refine zi_iload_n (pc := 107) F dX5_resolves_107 3 rfl ?_
            have hM229 := c_X5_entryOf l G y12 R15 (hIR15)
            have pp230 := pp_X5_entryOf y12 R15 (hIR15)
            obtain ⟨r227, e228⟩ : ∃ z, mX5_entryOf y12 R15 = z := ⟨_, rfl⟩
            have hE := zbnd_cut hE e228
            rw [e228] at hM229
            have t231 : Int32.toInt r227 = Int32.toInt r219 := congrArg Int32.toInt (e228.symm.trans e220)
            rw [e228] at pp230
            have q232 := pp230
            refine zi_callVI (pc := 108) (rest := [.int ((R15 12 0) - 1), .ref (G.2.2 6 0)]) (ws' := zWR G R15) F hM229 (cwV 1 F.1.2.2.2.2 gX5_resolves_X5_entryOf rfl rfl rfl hd_X5_entryOf ⟨Nat.le_of_ble_eq_true rfl, Nat.le_of_ble_eq_true rfl⟩) 0 rfl rfl _ _ (zw_nil _) (zw_nil _).symm rfl rfl (Nat.le_of_ble_eq_true rfl) dX5_resolves_108 ⟨Nat.zero_le _, Nat.zero_le _⟩ ?_
            refine zi_isub (pc := 111) F dX5_resolves_111 ?_
            try have t234 := zt_sub (a := (R15 12 0)) (b := 1) (by omega) (by omega)
            try have t235 := zt_sub (a := ((R15 12 0) - 1)) (b := r227) (by omega) (by omega)
            try have t236 := zt_sub (a := (R15 12 0)) (b := 1) (by omega) (by omega)
            try have t237 := zt_sub (a := ((R15 12 0) - 1)) (b := r227) (by omega) (by omega)
            have hM239 := c_X5_removes l G (((R15 12 0) - 1) - r227) R15 (hIR15) (by first | omega | (show 0 ≤ Int32.toInt (((R15 12 0) - 1) - r227) ∧ Int32.toInt (((R15 12 0) - 1) - r227) < Int32.toInt (R15 12 0); omega))
            have pp240 := pp_X5_removes (((R15 12 0) - 1) - r227) R15 (hIR15) (by first | omega | (show 0 ≤ Int32.toInt (((R15 12 0) - 1) - r227) ∧ Int32.toInt (((R15 12 0) - 1) - r227) < Int32.toInt (R15 12 0); omega))
            obtain ⟨R233, e238⟩ : ∃ z, mX5_removes (((R15 12 0) - 1) - r227) R15 = z := ⟨_, rfl⟩
            have hE := zbnd_cut hE e238
            rw [e238] at hM239
            rw [e238] at pp240
            have hIR233 := pp240
            obtain ⟨⟨i241, i242⟩, ⟨i243, i244⟩, ⟨i245, i246⟩, ⟨i247, i248⟩, ⟨i249, i250⟩, hIR233_b14, hIR233_p15⟩ := id hIR233
            refine zi_callVV (pc := 112) (rest := []) (ws' := zWR G R233) F hM239 (cwV 1 F.1.2.2.2.2 gX5_resolves_X5_removes rfl rfl rfl hd_X5_removes ⟨Nat.le_of_ble_eq_true rfl, Nat.le_of_ble_eq_true rfl⟩) 0 rfl rfl _ _ (zw_nil _) (zw_nil _).symm rfl rfl (Nat.le_of_ble_eq_true rfl) dX5_resolves_112 ⟨Nat.zero_le _, Nat.zero_le _⟩ ?_
            subst hE
            exact zi_sub [0, 1, 2, 3] rfl hK
        · have hE := zite_t hE c217
          have t251 := congrArg Int32.toInt c217
          refine zi_aload_n (pc := 83) F dX5_resolves_83 0 rfl ?_
          refine zi_iload_n (pc := 84) F dX5_resolves_84 3 rfl ?_
          have hM254 := c_X5_strikes l G y12 R15 (hIR15)
          have pp255 := pp_X5_strikes y12 R15 (hIR15)
          obtain ⟨R252, e253⟩ : ∃ z, mX5_strikes y12 R15 = z := ⟨_, rfl⟩
          have hE := zbnd_cut hE e253
          rw [e253] at hM254
          rw [e253] at pp255
          have hIR252 := pp255
          obtain ⟨⟨i256, i257⟩, ⟨i258, i259⟩, ⟨i260, i261⟩, ⟨i262, i263⟩, ⟨i264, i265⟩, hIR252_b14, hIR252_p15⟩ := id hIR252
          refine zi_callVV (pc := 85) (rest := []) (ws' := zWR G R252) F hM254 (cwV 1 F.1.2.2.2.2 gX5_resolves_X5_strikes rfl rfl rfl hd_X5_strikes ⟨Nat.le_of_ble_eq_true rfl, Nat.le_of_ble_eq_true rfl⟩) 0 rfl rfl _ _ (zw_nil _) (zw_nil _).symm rfl rfl (Nat.le_of_ble_eq_true rfl) dX5_resolves_85 ⟨Nat.zero_le _, Nat.zero_le _⟩ ?_
          refine zi_goto (pc := 88) (tgt := 115) F dX5_resolves_88 (by decide) ?_
          subst hE
          exact zi_sub [0, 1, 2, 3] rfl hK
      · have hE := zite_f hE c215
        have t266 := zt_nle c215
        refine zi_aload_n (pc := 67) F dX5_resolves_67 0 rfl ?_
        refine zi_iload_n (pc := 68) F dX5_resolves_68 1 rfl ?_
        refine zi_iload_n (pc := 69) F dX5_resolves_69 2 rfl ?_
        refine zi_iload_n (pc := 70) F dX5_resolves_70 3 rfl ?_
        have hM269 := c_X5_enters l G y2 y8 y12 R15 (hIR15)
        have pp270 := pp_X5_enters y2 y8 y12 R15 (hIR15)
        obtain ⟨R267, e268⟩ : ∃ z, mX5_enters y2 y8 y12 R15 = z := ⟨_, rfl⟩
        have hE := zbnd_cut hE e268
        rw [e268] at hM269
        rw [e268] at pp270
        have hIR267 := pp270
        obtain ⟨⟨i271, i272⟩, ⟨i273, i274⟩, ⟨i275, i276⟩, ⟨i277, i278⟩, ⟨i279, i280⟩, hIR267_b14, hIR267_p15⟩ := id hIR267
        refine zi_callVV (pc := 71) (rest := []) (ws' := zWR G R267) F hM269 (cwV 3 F.1.2.2.2.2 gX5_resolves_X5_enters rfl rfl rfl hd_X5_enters ⟨Nat.le_of_ble_eq_true rfl, Nat.le_of_ble_eq_true rfl⟩) 0 rfl rfl _ _ (zw_nil _) (zw_nil _).symm rfl rfl (Nat.le_of_ble_eq_true rfl) dX5_resolves_71 ⟨Nat.zero_le _, Nat.zero_le _⟩ ?_
        refine zi_goto (pc := 74) (tgt := 115) F dX5_resolves_74 (by decide) ?_
        subst hE
        exact zi_sub [0, 1, 2, 3] rfl hK
    · have hE := zite_f hE c213
      have t281 := zt_ne c213
      refine zi_aload_n (pc := 52) F dX5_resolves_52 0 rfl ?_
      refine zi_iload_n (pc := 53) F dX5_resolves_53 1 rfl ?_
      refine zi_iload_n (pc := 54) F dX5_resolves_54 2 rfl ?_
      have hM284 := c_X5_trigger l G y2 y8 R15 (hIR15) (by first | omega | (show 0 ≤ Int32.toInt y8 ∧ Int32.toInt y8 < 3; omega))
      have pp285 := pp_X5_trigger y2 y8 R15 (hIR15) (by first | omega | (show 0 ≤ Int32.toInt y8 ∧ Int32.toInt y8 < 3; omega))
      obtain ⟨R282, e283⟩ : ∃ z, mX5_trigger y2 y8 R15 = z := ⟨_, rfl⟩
      have hE := zbnd_cut hE e283
      rw [e283] at hM284
      rw [e283] at pp285
      have hIR282 := pp285
      obtain ⟨⟨i286, i287⟩, ⟨i288, i289⟩, ⟨i290, i291⟩, ⟨i292, i293⟩, ⟨i294, i295⟩, hIR282_b14, hIR282_p15⟩ := id hIR282
      refine zi_callVV (pc := 55) (rest := []) (ws' := zWR G R282) F hM284 (cwV 2 F.1.2.2.2.2 gX5_resolves_X5_trigger rfl rfl rfl hd_X5_trigger ⟨Nat.le_of_ble_eq_true rfl, Nat.le_of_ble_eq_true rfl⟩) 0 rfl rfl _ _ (zw_nil _) (zw_nil _).symm rfl rfl (Nat.le_of_ble_eq_true rfl) dX5_resolves_55 ⟨Nat.zero_le _, Nat.zero_le _⟩ ?_
      refine zi_goto (pc := 58) (tgt := 115) F dX5_resolves_58 (by decide) ?_
      subst hE
      exact zi_sub [0, 1, 2, 3] rfl hK
  refine hK212 ?_
  refine zi_aload_n (pc := 115) F dX5_resolves_115 0 rfl ?_
  have hM298 := c_X5_remembers l G  R116 (hIR116)
  have pp299 := pp_X5_remembers  R116 (hIR116)
  obtain ⟨R296, e297⟩ : ∃ z, mX5_remembers R116 = z := ⟨_, rfl⟩
  have hE := zbnd_cut hE e297
  rw [e297] at hM298
  rw [e297] at pp299
  have hIR296 := pp299
  obtain ⟨⟨i300, i301⟩, ⟨i302, i303⟩, ⟨i304, i305⟩, ⟨i306, i307⟩, ⟨i308, i309⟩, hIR296_b14, hIR296_p15⟩ := id hIR296
  refine zi_callVV (pc := 116) (rest := []) (ws' := zWR G R296) F hM298 (cwV 0 F.1.2.2.2.2 gX5_resolves_X5_remembers rfl rfl rfl hd_X5_remembers ⟨Nat.le_of_ble_eq_true rfl, Nat.le_of_ble_eq_true rfl⟩) 0 rfl rfl _ _ (zw_nil _) (zw_nil _).symm rfl rfl (Nat.le_of_ble_eq_true rfl) dX5_resolves_116 ⟨Nat.zero_le _, Nat.zero_le _⟩ ?_
  refine zi_aload_n (pc := 119) F dX5_resolves_119 0 rfl ?_
  refine zi_aload_n (pc := 120) F dX5_resolves_120 0 rfl ?_
  refine zi_get (pc := 121) (C := RX5) (T := TX5) (N := 27) (v := .int (R296 0 0)) F (hw_X5_resolves_X5) 0 rfl rfl 0 (by decide) (List.mem_of_getElem? (i := 6) rfl) rfl rfl dX5_resolves_121 ?_
  refine zi_put (pc := 124) (C := RX5) (T := TX5) (N := 27) (ty := .int) (ws' := zWR G (zsI R296 1 (R296 0 0))) F (hw_X5_resolves_X5) tyX5 tyX5_ok nmX5 0 rfl rfl 1 (by decide) (List.mem_of_getElem? (i := 7) rfl) rfl rfl rfl rfl rfl (Nat.le_of_ble_eq_true rfl) rfl dX5_resolves_124 ?_
  refine zi_aload_n (pc := 127) F dX5_resolves_127 0 rfl ?_
  refine zi_iconst (pc := 128) (v := 0) F dX5_resolves_128 rfl ?_
  refine zi_put (pc := 129) (C := RX5) (T := TX5) (N := 27) (ty := .int) (ws' := zWR G (zsI (zsI R296 1 (R296 0 0)) 2 0)) F (hw_X5_resolves_X5) tyX5 tyX5_ok nmX5 0 rfl rfl 2 (by decide) (List.mem_of_getElem? (i := 8) rfl) rfl rfl rfl rfl rfl (Nat.le_of_ble_eq_true rfl) rfl dX5_resolves_129 ?_
  subst hE
  exact hret _ _ dX5_resolves_132
/-! X5_obstacleOf -/
def mX5_obstacleOf_S44 (its : Int32) (atp : Int32) (R : zS_t) : Int32 := if its = 7 then (zbnd (mX5_isIn atp 0 ((R 6 0) - 1)) (fun r63 => if r63 = 0 then 0 else 1)) else (if its = 12 then (zbnd (mX5_isIn atp 0 ((R 6 0) - 1)) (fun r76 => if r76 = 0 then 0 else 1)) else 1)
def mX5_obstacleOf_S76 (its : Int32) (atp : Int32) (R : zS_t) : Int32 := if its = 13 then (zbnd (mX5_isIn atp 0 ((R 12 0) - 1)) (fun r127 => if r127 = 0 then 0 else (if (R 14 (((R 12 0) - 1) - atp).toNatClampNeg) = 0 then 1 else 0))) else 1
def mX5_obstacleOf (its : Int32) (atp : Int32) (R : zS_t) : Int32 := if 12 ≤ its then (zbnd (mX5_cost its) (fun r3 => if r3 ≤ (R 5 (R 1 0).toNatClampNeg) then (zbnd (mX5_obstacleOf_S44 its atp R) (fun w32 => zbnd (mX5_obstacleOf_S76 its atp R) (fun w102 => if w32 = 0 then 3 else (if w102 = 0 then 3 else (if (R 12 0) = 12 then 4 else 0))))) else 2)) else (if 0 < (R 12 0) then 1 else (if (R 1 0) = (R 0 0) then (zbnd (mX5_cost its) (fun r157 => if r157 ≤ (R 5 (R 1 0).toNatClampNeg) then (zbnd (mX5_obstacleOf_S44 its atp R) (fun w186 => zbnd (mX5_obstacleOf_S76 its atp R) (fun w256 => if w186 = 0 then 3 else (if w256 = 0 then 3 else (if (R 12 0) = 12 then 4 else 0))))) else 2)) else 1))
set_option maxHeartbeats 4000000 in
set_option maxRecDepth 100000 in
theorem pp_X5_obstacleOf (its : Int32) (atp : Int32) (R : zS_t) (hIR : zIR R) : (0 < Int32.toInt (mX5_obstacleOf its atp R) ∨ (((¬ Int32.toInt its = 7 ∧ ¬ Int32.toInt its = 12) ∨ (0 ≤ Int32.toInt atp ∧ Int32.toInt atp < Int32.toInt (R 6 0))) ∧ (¬ Int32.toInt its = 13 ∨ (0 ≤ Int32.toInt atp ∧ Int32.toInt atp < Int32.toInt (R 12 0))) ∧ Int32.toInt (R 12 0) < 12)) := by
  obtain ⟨X, hE⟩ : ∃ z, mX5_obstacleOf its atp R = z := ⟨_, rfl⟩
  rw [hE]
  have k_0 : Int32.toInt 0 = 0 := by decide
  have k_1 : Int32.toInt 1 = 1 := by decide
  have k_2 : Int32.toInt 2 = 2 := by decide
  have k_3 : Int32.toInt 3 = 3 := by decide
  have k_4 : Int32.toInt 4 = 4 := by decide
  have k_7 : Int32.toInt 7 = 7 := by decide
  have k_12 : Int32.toInt 12 = 12 := by decide
  have k_13 : Int32.toInt 13 = 13 := by decide
  obtain ⟨⟨i220, i221⟩, ⟨i222, i223⟩, ⟨i224, i225⟩, ⟨i226, i227⟩, ⟨i228, i229⟩, hIR_b14, hIR_p15⟩ := id hIR
  unfold mX5_obstacleOf at hE
  by_cases c1 : 12 ≤ its
  · have hE := zite_t hE c1
    have t2 := zt_le c1
    obtain ⟨r3, e4⟩ : ∃ z, mX5_cost its = z := ⟨_, rfl⟩
    have hE := zbnd_cut hE e4
    by_cases c6 : r3 ≤ (R 5 (R 1 0).toNatClampNeg)
    · have hE := zite_t hE c6
      have t7 := zt_le c6
      obtain ⟨w32, e33⟩ : ∃ z, mX5_obstacleOf_S44 its atp R = z := ⟨_, rfl⟩
      have hE := zbnd_cut hE e33
      have hQ34 : (Int32.toInt w32 = 0 ∨ (¬ Int32.toInt its = 7 ∧ ¬ Int32.toInt its = 12) ∨ (0 ≤ Int32.toInt atp ∧ Int32.toInt atp < Int32.toInt (R 6 0))) := by
        have hE := e33
        unfold mX5_obstacleOf_S44 at hE
        by_cases c35 : its = 7
        · have hE := zite_t hE c35
          have t36 := congrArg Int32.toInt c35
          try have t38 := zt_sub (a := (R 6 0)) (b := 1) (by omega) (by omega)
          have pp41 := pp_X5_isIn atp 0 ((R 6 0) - 1)  
          obtain ⟨r37, e39⟩ : ∃ z, mX5_isIn atp 0 ((R 6 0) - 1) = z := ⟨_, rfl⟩
          have hE := zbnd_cut hE e39
          rw [e39] at pp41
          obtain ⟨hbr37, q42⟩ := pp41
          by_cases c43 : r37 = 0
          · have hE := zite_t hE c43
            have t44 := congrArg Int32.toInt c43
            subst hE
            exact by (show Int32.toInt 0 = 0 ∨ (¬ Int32.toInt its = 7 ∧ ¬ Int32.toInt its = 12) ∨ (0 ≤ Int32.toInt atp ∧ Int32.toInt atp < Int32.toInt (R 6 0)); omega)
          · have hE := zite_f hE c43
            have t45 := zt_ne c43
            subst hE
            exact by (show Int32.toInt 1 = 0 ∨ (¬ Int32.toInt its = 7 ∧ ¬ Int32.toInt its = 12) ∨ (0 ≤ Int32.toInt atp ∧ Int32.toInt atp < Int32.toInt (R 6 0)); omega)
        · have hE := zite_f hE c35
          have t46 := zt_ne c35
          by_cases c47 : its = 12
          · have hE := zite_t hE c47
            have t48 := congrArg Int32.toInt c47
            try have t50 := zt_sub (a := (R 6 0)) (b := 1) (by omega) (by omega)
            have pp53 := pp_X5_isIn atp 0 ((R 6 0) - 1)  
            obtain ⟨r49, e51⟩ : ∃ z, mX5_isIn atp 0 ((R 6 0) - 1) = z := ⟨_, rfl⟩
            have hE := zbnd_cut hE e51
            rw [e51] at pp53
            obtain ⟨hbr49, q54⟩ := pp53
            by_cases c55 : r49 = 0
            · have hE := zite_t hE c55
              have t56 := congrArg Int32.toInt c55
              subst hE
              exact by (show Int32.toInt 0 = 0 ∨ (¬ Int32.toInt its = 7 ∧ ¬ Int32.toInt its = 12) ∨ (0 ≤ Int32.toInt atp ∧ Int32.toInt atp < Int32.toInt (R 6 0)); omega)
            · have hE := zite_f hE c55
              have t57 := zt_ne c55
              subst hE
              exact by (show Int32.toInt 1 = 0 ∨ (¬ Int32.toInt its = 7 ∧ ¬ Int32.toInt its = 12) ∨ (0 ≤ Int32.toInt atp ∧ Int32.toInt atp < Int32.toInt (R 6 0)); omega)
          · have hE := zite_f hE c47
            have t58 := zt_ne c47
            subst hE
            exact by (show Int32.toInt 1 = 0 ∨ (¬ Int32.toInt its = 7 ∧ ¬ Int32.toInt its = 12) ∨ (0 ≤ Int32.toInt atp ∧ Int32.toInt atp < Int32.toInt (R 6 0)); omega)
      have i59 := hQ34
      obtain ⟨w77, e78⟩ : ∃ z, mX5_obstacleOf_S76 its atp R = z := ⟨_, rfl⟩
      have hE := zbnd_cut hE e78
      have hQ79 : (Int32.toInt w77 = 0 ∨ ¬ Int32.toInt its = 13 ∨ (0 ≤ Int32.toInt atp ∧ Int32.toInt atp < Int32.toInt (R 12 0))) := by
        have hE := e78
        unfold mX5_obstacleOf_S76 at hE
        by_cases c80 : its = 13
        · have hE := zite_t hE c80
          have t81 := congrArg Int32.toInt c80
          try have t83 := zt_sub (a := (R 12 0)) (b := 1) (by omega) (by omega)
          have pp86 := pp_X5_isIn atp 0 ((R 12 0) - 1)  
          obtain ⟨r82, e84⟩ : ∃ z, mX5_isIn atp 0 ((R 12 0) - 1) = z := ⟨_, rfl⟩
          have hE := zbnd_cut hE e84
          rw [e84] at pp86
          obtain ⟨hbr82, q87⟩ := pp86
          by_cases c88 : r82 = 0
          · have hE := zite_t hE c88
            have t89 := congrArg Int32.toInt c88
            subst hE
            exact by (show Int32.toInt 0 = 0 ∨ ¬ Int32.toInt its = 13 ∨ (0 ≤ Int32.toInt atp ∧ Int32.toInt atp < Int32.toInt (R 12 0)); omega)
          · have hE := zite_f hE c88
            have t90 := zt_ne c88
            try have t91 := zt_sub (a := (R 12 0)) (b := 1) (by omega) (by omega)
            try have t92 := zt_sub (a := ((R 12 0) - 1)) (b := atp) (by omega) (by omega)
            by_cases c93 : (R 14 (((R 12 0) - 1) - atp).toNatClampNeg) = 0
            · have hE := zite_t hE c93
              have t94 := congrArg Int32.toInt c93
              subst hE
              exact by (show Int32.toInt 1 = 0 ∨ ¬ Int32.toInt its = 13 ∨ (0 ≤ Int32.toInt atp ∧ Int32.toInt atp < Int32.toInt (R 12 0)); omega)
            · have hE := zite_f hE c93
              have t95 := zt_ne c93
              subst hE
              exact by (show Int32.toInt 0 = 0 ∨ ¬ Int32.toInt its = 13 ∨ (0 ≤ Int32.toInt atp ∧ Int32.toInt atp < Int32.toInt (R 12 0)); omega)
        · have hE := zite_f hE c80
          have t96 := zt_ne c80
          subst hE
          exact by (show Int32.toInt 1 = 0 ∨ ¬ Int32.toInt its = 13 ∨ (0 ≤ Int32.toInt atp ∧ Int32.toInt atp < Int32.toInt (R 12 0)); omega)
      have i97 := hQ79
      by_cases c98 : w32 = 0
      · have hE := zite_t hE c98
        have t99 := congrArg Int32.toInt c98
        subst hE
        exact (by first | omega | (show 0 < Int32.toInt 3 ∨ (((¬ Int32.toInt its = 7 ∧ ¬ Int32.toInt its = 12) ∨ (0 ≤ Int32.toInt atp ∧ Int32.toInt atp < Int32.toInt (R 6 0))) ∧ (¬ Int32.toInt its = 13 ∨ (0 ≤ Int32.toInt atp ∧ Int32.toInt atp < Int32.toInt (R 12 0))) ∧ Int32.toInt (R 12 0) < 12); omega) | (show 0 < Int32.toInt 3 ∨ (((¬ Int32.toInt its = 7 ∧ ¬ Int32.toInt its = 12) ∨ (0 ≤ Int32.toInt atp ∧ Int32.toInt atp < Int32.toInt (R 6 0))) ∧ (¬ Int32.toInt its = 13 ∨ (0 ≤ Int32.toInt atp ∧ Int32.toInt atp < Int32.toInt (R 12 0))) ∧ Int32.toInt (R 12 0) < 12); simp))
      · have hE := zite_f hE c98
        have t100 := zt_ne c98
        by_cases c101 : w77 = 0
        · have hE := zite_t hE c101
          have t102 := congrArg Int32.toInt c101
          subst hE
          exact (by first | omega | (show 0 < Int32.toInt 3 ∨ (((¬ Int32.toInt its = 7 ∧ ¬ Int32.toInt its = 12) ∨ (0 ≤ Int32.toInt atp ∧ Int32.toInt atp < Int32.toInt (R 6 0))) ∧ (¬ Int32.toInt its = 13 ∨ (0 ≤ Int32.toInt atp ∧ Int32.toInt atp < Int32.toInt (R 12 0))) ∧ Int32.toInt (R 12 0) < 12); omega) | (show 0 < Int32.toInt 3 ∨ (((¬ Int32.toInt its = 7 ∧ ¬ Int32.toInt its = 12) ∨ (0 ≤ Int32.toInt atp ∧ Int32.toInt atp < Int32.toInt (R 6 0))) ∧ (¬ Int32.toInt its = 13 ∨ (0 ≤ Int32.toInt atp ∧ Int32.toInt atp < Int32.toInt (R 12 0))) ∧ Int32.toInt (R 12 0) < 12); simp))
        · have hE := zite_f hE c101
          have t103 := zt_ne c101
          by_cases c104 : (R 12 0) = 12
          · have hE := zite_t hE c104
            have t105 := congrArg Int32.toInt c104
            subst hE
            exact (by first | omega | (show 0 < Int32.toInt 4 ∨ (((¬ Int32.toInt its = 7 ∧ ¬ Int32.toInt its = 12) ∨ (0 ≤ Int32.toInt atp ∧ Int32.toInt atp < Int32.toInt (R 6 0))) ∧ (¬ Int32.toInt its = 13 ∨ (0 ≤ Int32.toInt atp ∧ Int32.toInt atp < Int32.toInt (R 12 0))) ∧ Int32.toInt (R 12 0) < 12); omega) | (show 0 < Int32.toInt 4 ∨ (((¬ Int32.toInt its = 7 ∧ ¬ Int32.toInt its = 12) ∨ (0 ≤ Int32.toInt atp ∧ Int32.toInt atp < Int32.toInt (R 6 0))) ∧ (¬ Int32.toInt its = 13 ∨ (0 ≤ Int32.toInt atp ∧ Int32.toInt atp < Int32.toInt (R 12 0))) ∧ Int32.toInt (R 12 0) < 12); simp))
          · have hE := zite_f hE c104
            have t106 := zt_ne c104
            subst hE
            exact (by first | omega | (show 0 < Int32.toInt 0 ∨ (((¬ Int32.toInt its = 7 ∧ ¬ Int32.toInt its = 12) ∨ (0 ≤ Int32.toInt atp ∧ Int32.toInt atp < Int32.toInt (R 6 0))) ∧ (¬ Int32.toInt its = 13 ∨ (0 ≤ Int32.toInt atp ∧ Int32.toInt atp < Int32.toInt (R 12 0))) ∧ Int32.toInt (R 12 0) < 12); omega) | (show 0 < Int32.toInt 0 ∨ (((¬ Int32.toInt its = 7 ∧ ¬ Int32.toInt its = 12) ∨ (0 ≤ Int32.toInt atp ∧ Int32.toInt atp < Int32.toInt (R 6 0))) ∧ (¬ Int32.toInt its = 13 ∨ (0 ≤ Int32.toInt atp ∧ Int32.toInt atp < Int32.toInt (R 12 0))) ∧ Int32.toInt (R 12 0) < 12); simp))
    · have hE := zite_f hE c6
      have t107 := zt_nle c6
      subst hE
      exact (by first | omega | (show 0 < Int32.toInt 2 ∨ (((¬ Int32.toInt its = 7 ∧ ¬ Int32.toInt its = 12) ∨ (0 ≤ Int32.toInt atp ∧ Int32.toInt atp < Int32.toInt (R 6 0))) ∧ (¬ Int32.toInt its = 13 ∨ (0 ≤ Int32.toInt atp ∧ Int32.toInt atp < Int32.toInt (R 12 0))) ∧ Int32.toInt (R 12 0) < 12); omega) | (show 0 < Int32.toInt 2 ∨ (((¬ Int32.toInt its = 7 ∧ ¬ Int32.toInt its = 12) ∨ (0 ≤ Int32.toInt atp ∧ Int32.toInt atp < Int32.toInt (R 6 0))) ∧ (¬ Int32.toInt its = 13 ∨ (0 ≤ Int32.toInt atp ∧ Int32.toInt atp < Int32.toInt (R 12 0))) ∧ Int32.toInt (R 12 0) < 12); simp))
  · have hE := zite_f hE c1
    have t108 := zt_nle c1
    by_cases c109 : 0 < (R 12 0)
    · have hE := zite_t hE c109
      have t110 := zt_lt c109
      subst hE
      exact (by first | omega | (show 0 < Int32.toInt 1 ∨ (((¬ Int32.toInt its = 7 ∧ ¬ Int32.toInt its = 12) ∨ (0 ≤ Int32.toInt atp ∧ Int32.toInt atp < Int32.toInt (R 6 0))) ∧ (¬ Int32.toInt its = 13 ∨ (0 ≤ Int32.toInt atp ∧ Int32.toInt atp < Int32.toInt (R 12 0))) ∧ Int32.toInt (R 12 0) < 12); omega) | (show 0 < Int32.toInt 1 ∨ (((¬ Int32.toInt its = 7 ∧ ¬ Int32.toInt its = 12) ∨ (0 ≤ Int32.toInt atp ∧ Int32.toInt atp < Int32.toInt (R 6 0))) ∧ (¬ Int32.toInt its = 13 ∨ (0 ≤ Int32.toInt atp ∧ Int32.toInt atp < Int32.toInt (R 12 0))) ∧ Int32.toInt (R 12 0) < 12); simp))
    · have hE := zite_f hE c109
      have t111 := zt_nlt c109
      by_cases c112 : (R 1 0) = (R 0 0)
      · have hE := zite_t hE c112
        have t113 := congrArg Int32.toInt c112
        obtain ⟨r114, e115⟩ : ∃ z, mX5_cost its = z := ⟨_, rfl⟩
        have hE := zbnd_cut hE e115
        by_cases c117 : r114 ≤ (R 5 (R 1 0).toNatClampNeg)
        · have hE := zite_t hE c117
          have t118 := zt_le c117
          obtain ⟨w143, e144⟩ : ∃ z, mX5_obstacleOf_S44 its atp R = z := ⟨_, rfl⟩
          have hE := zbnd_cut hE e144
          have hQ145 : (Int32.toInt w143 = 0 ∨ (¬ Int32.toInt its = 7 ∧ ¬ Int32.toInt its = 12) ∨ (0 ≤ Int32.toInt atp ∧ Int32.toInt atp < Int32.toInt (R 6 0))) := by
            have hE := e144
            unfold mX5_obstacleOf_S44 at hE
            by_cases c146 : its = 7
            · have hE := zite_t hE c146
              have t147 := congrArg Int32.toInt c146
              try have t149 := zt_sub (a := (R 6 0)) (b := 1) (by omega) (by omega)
              have pp152 := pp_X5_isIn atp 0 ((R 6 0) - 1)  
              obtain ⟨r148, e150⟩ : ∃ z, mX5_isIn atp 0 ((R 6 0) - 1) = z := ⟨_, rfl⟩
              have hE := zbnd_cut hE e150
              rw [e150] at pp152
              obtain ⟨hbr148, q153⟩ := pp152
              by_cases c154 : r148 = 0
              · have hE := zite_t hE c154
                have t155 := congrArg Int32.toInt c154
                subst hE
                exact by (show Int32.toInt 0 = 0 ∨ (¬ Int32.toInt its = 7 ∧ ¬ Int32.toInt its = 12) ∨ (0 ≤ Int32.toInt atp ∧ Int32.toInt atp < Int32.toInt (R 6 0)); omega)
              · have hE := zite_f hE c154
                have t156 := zt_ne c154
                subst hE
                exact by (show Int32.toInt 1 = 0 ∨ (¬ Int32.toInt its = 7 ∧ ¬ Int32.toInt its = 12) ∨ (0 ≤ Int32.toInt atp ∧ Int32.toInt atp < Int32.toInt (R 6 0)); omega)
            · have hE := zite_f hE c146
              have t157 := zt_ne c146
              by_cases c158 : its = 12
              · have hE := zite_t hE c158
                have t159 := congrArg Int32.toInt c158
                try have t161 := zt_sub (a := (R 6 0)) (b := 1) (by omega) (by omega)
                have pp164 := pp_X5_isIn atp 0 ((R 6 0) - 1)  
                obtain ⟨r160, e162⟩ : ∃ z, mX5_isIn atp 0 ((R 6 0) - 1) = z := ⟨_, rfl⟩
                have hE := zbnd_cut hE e162
                rw [e162] at pp164
                obtain ⟨hbr160, q165⟩ := pp164
                by_cases c166 : r160 = 0
                · have hE := zite_t hE c166
                  have t167 := congrArg Int32.toInt c166
                  subst hE
                  exact by (show Int32.toInt 0 = 0 ∨ (¬ Int32.toInt its = 7 ∧ ¬ Int32.toInt its = 12) ∨ (0 ≤ Int32.toInt atp ∧ Int32.toInt atp < Int32.toInt (R 6 0)); omega)
                · have hE := zite_f hE c166
                  have t168 := zt_ne c166
                  subst hE
                  exact by (show Int32.toInt 1 = 0 ∨ (¬ Int32.toInt its = 7 ∧ ¬ Int32.toInt its = 12) ∨ (0 ≤ Int32.toInt atp ∧ Int32.toInt atp < Int32.toInt (R 6 0)); omega)
              · have hE := zite_f hE c158
                have t169 := zt_ne c158
                subst hE
                exact by (show Int32.toInt 1 = 0 ∨ (¬ Int32.toInt its = 7 ∧ ¬ Int32.toInt its = 12) ∨ (0 ≤ Int32.toInt atp ∧ Int32.toInt atp < Int32.toInt (R 6 0)); omega)
          have i170 := hQ145
          obtain ⟨w188, e189⟩ : ∃ z, mX5_obstacleOf_S76 its atp R = z := ⟨_, rfl⟩
          have hE := zbnd_cut hE e189
          have hQ190 : (Int32.toInt w188 = 0 ∨ ¬ Int32.toInt its = 13 ∨ (0 ≤ Int32.toInt atp ∧ Int32.toInt atp < Int32.toInt (R 12 0))) := by
            have hE := e189
            unfold mX5_obstacleOf_S76 at hE
            by_cases c191 : its = 13
            · have hE := zite_t hE c191
              have t192 := congrArg Int32.toInt c191
              try have t194 := zt_sub (a := (R 12 0)) (b := 1) (by omega) (by omega)
              have pp197 := pp_X5_isIn atp 0 ((R 12 0) - 1)  
              obtain ⟨r193, e195⟩ : ∃ z, mX5_isIn atp 0 ((R 12 0) - 1) = z := ⟨_, rfl⟩
              have hE := zbnd_cut hE e195
              rw [e195] at pp197
              obtain ⟨hbr193, q198⟩ := pp197
              by_cases c199 : r193 = 0
              · have hE := zite_t hE c199
                have t200 := congrArg Int32.toInt c199
                subst hE
                exact by (show Int32.toInt 0 = 0 ∨ ¬ Int32.toInt its = 13 ∨ (0 ≤ Int32.toInt atp ∧ Int32.toInt atp < Int32.toInt (R 12 0)); omega)
              · have hE := zite_f hE c199
                have t201 := zt_ne c199
                try have t202 := zt_sub (a := (R 12 0)) (b := 1) (by omega) (by omega)
                try have t203 := zt_sub (a := ((R 12 0) - 1)) (b := atp) (by omega) (by omega)
                by_cases c204 : (R 14 (((R 12 0) - 1) - atp).toNatClampNeg) = 0
                · have hE := zite_t hE c204
                  have t205 := congrArg Int32.toInt c204
                  subst hE
                  exact by (show Int32.toInt 1 = 0 ∨ ¬ Int32.toInt its = 13 ∨ (0 ≤ Int32.toInt atp ∧ Int32.toInt atp < Int32.toInt (R 12 0)); omega)
                · have hE := zite_f hE c204
                  have t206 := zt_ne c204
                  subst hE
                  exact by (show Int32.toInt 0 = 0 ∨ ¬ Int32.toInt its = 13 ∨ (0 ≤ Int32.toInt atp ∧ Int32.toInt atp < Int32.toInt (R 12 0)); omega)
            · have hE := zite_f hE c191
              have t207 := zt_ne c191
              subst hE
              exact by (show Int32.toInt 1 = 0 ∨ ¬ Int32.toInt its = 13 ∨ (0 ≤ Int32.toInt atp ∧ Int32.toInt atp < Int32.toInt (R 12 0)); omega)
          have i208 := hQ190
          by_cases c209 : w143 = 0
          · have hE := zite_t hE c209
            have t210 := congrArg Int32.toInt c209
            subst hE
            exact (by first | omega | (show 0 < Int32.toInt 3 ∨ (((¬ Int32.toInt its = 7 ∧ ¬ Int32.toInt its = 12) ∨ (0 ≤ Int32.toInt atp ∧ Int32.toInt atp < Int32.toInt (R 6 0))) ∧ (¬ Int32.toInt its = 13 ∨ (0 ≤ Int32.toInt atp ∧ Int32.toInt atp < Int32.toInt (R 12 0))) ∧ Int32.toInt (R 12 0) < 12); omega) | (show 0 < Int32.toInt 3 ∨ (((¬ Int32.toInt its = 7 ∧ ¬ Int32.toInt its = 12) ∨ (0 ≤ Int32.toInt atp ∧ Int32.toInt atp < Int32.toInt (R 6 0))) ∧ (¬ Int32.toInt its = 13 ∨ (0 ≤ Int32.toInt atp ∧ Int32.toInt atp < Int32.toInt (R 12 0))) ∧ Int32.toInt (R 12 0) < 12); simp))
          · have hE := zite_f hE c209
            have t211 := zt_ne c209
            by_cases c212 : w188 = 0
            · have hE := zite_t hE c212
              have t213 := congrArg Int32.toInt c212
              subst hE
              exact (by first | omega | (show 0 < Int32.toInt 3 ∨ (((¬ Int32.toInt its = 7 ∧ ¬ Int32.toInt its = 12) ∨ (0 ≤ Int32.toInt atp ∧ Int32.toInt atp < Int32.toInt (R 6 0))) ∧ (¬ Int32.toInt its = 13 ∨ (0 ≤ Int32.toInt atp ∧ Int32.toInt atp < Int32.toInt (R 12 0))) ∧ Int32.toInt (R 12 0) < 12); omega) | (show 0 < Int32.toInt 3 ∨ (((¬ Int32.toInt its = 7 ∧ ¬ Int32.toInt its = 12) ∨ (0 ≤ Int32.toInt atp ∧ Int32.toInt atp < Int32.toInt (R 6 0))) ∧ (¬ Int32.toInt its = 13 ∨ (0 ≤ Int32.toInt atp ∧ Int32.toInt atp < Int32.toInt (R 12 0))) ∧ Int32.toInt (R 12 0) < 12); simp))
            · have hE := zite_f hE c212
              have t214 := zt_ne c212
              by_cases c215 : (R 12 0) = 12
              · have hE := zite_t hE c215
                have t216 := congrArg Int32.toInt c215
                subst hE
                exact (by first | omega | (show 0 < Int32.toInt 4 ∨ (((¬ Int32.toInt its = 7 ∧ ¬ Int32.toInt its = 12) ∨ (0 ≤ Int32.toInt atp ∧ Int32.toInt atp < Int32.toInt (R 6 0))) ∧ (¬ Int32.toInt its = 13 ∨ (0 ≤ Int32.toInt atp ∧ Int32.toInt atp < Int32.toInt (R 12 0))) ∧ Int32.toInt (R 12 0) < 12); omega) | (show 0 < Int32.toInt 4 ∨ (((¬ Int32.toInt its = 7 ∧ ¬ Int32.toInt its = 12) ∨ (0 ≤ Int32.toInt atp ∧ Int32.toInt atp < Int32.toInt (R 6 0))) ∧ (¬ Int32.toInt its = 13 ∨ (0 ≤ Int32.toInt atp ∧ Int32.toInt atp < Int32.toInt (R 12 0))) ∧ Int32.toInt (R 12 0) < 12); simp))
              · have hE := zite_f hE c215
                have t217 := zt_ne c215
                subst hE
                exact (by first | omega | (show 0 < Int32.toInt 0 ∨ (((¬ Int32.toInt its = 7 ∧ ¬ Int32.toInt its = 12) ∨ (0 ≤ Int32.toInt atp ∧ Int32.toInt atp < Int32.toInt (R 6 0))) ∧ (¬ Int32.toInt its = 13 ∨ (0 ≤ Int32.toInt atp ∧ Int32.toInt atp < Int32.toInt (R 12 0))) ∧ Int32.toInt (R 12 0) < 12); omega) | (show 0 < Int32.toInt 0 ∨ (((¬ Int32.toInt its = 7 ∧ ¬ Int32.toInt its = 12) ∨ (0 ≤ Int32.toInt atp ∧ Int32.toInt atp < Int32.toInt (R 6 0))) ∧ (¬ Int32.toInt its = 13 ∨ (0 ≤ Int32.toInt atp ∧ Int32.toInt atp < Int32.toInt (R 12 0))) ∧ Int32.toInt (R 12 0) < 12); simp))
        · have hE := zite_f hE c117
          have t218 := zt_nle c117
          subst hE
          exact (by first | omega | (show 0 < Int32.toInt 2 ∨ (((¬ Int32.toInt its = 7 ∧ ¬ Int32.toInt its = 12) ∨ (0 ≤ Int32.toInt atp ∧ Int32.toInt atp < Int32.toInt (R 6 0))) ∧ (¬ Int32.toInt its = 13 ∨ (0 ≤ Int32.toInt atp ∧ Int32.toInt atp < Int32.toInt (R 12 0))) ∧ Int32.toInt (R 12 0) < 12); omega) | (show 0 < Int32.toInt 2 ∨ (((¬ Int32.toInt its = 7 ∧ ¬ Int32.toInt its = 12) ∨ (0 ≤ Int32.toInt atp ∧ Int32.toInt atp < Int32.toInt (R 6 0))) ∧ (¬ Int32.toInt its = 13 ∨ (0 ≤ Int32.toInt atp ∧ Int32.toInt atp < Int32.toInt (R 12 0))) ∧ Int32.toInt (R 12 0) < 12); simp))
      · have hE := zite_f hE c112
        have t219 := zt_ne c112
        subst hE
        exact (by first | omega | (show 0 < Int32.toInt 1 ∨ (((¬ Int32.toInt its = 7 ∧ ¬ Int32.toInt its = 12) ∨ (0 ≤ Int32.toInt atp ∧ Int32.toInt atp < Int32.toInt (R 6 0))) ∧ (¬ Int32.toInt its = 13 ∨ (0 ≤ Int32.toInt atp ∧ Int32.toInt atp < Int32.toInt (R 12 0))) ∧ Int32.toInt (R 12 0) < 12); omega) | (show 0 < Int32.toInt 1 ∨ (((¬ Int32.toInt its = 7 ∧ ¬ Int32.toInt its = 12) ∨ (0 ≤ Int32.toInt atp ∧ Int32.toInt atp < Int32.toInt (R 6 0))) ∧ (¬ Int32.toInt its = 13 ∨ (0 ≤ Int32.toInt atp ∧ Int32.toInt atp < Int32.toInt (R 12 0))) ∧ Int32.toInt (R 12 0) < 12); simp))
theorem hw_X5_obstacleOf_X5 : ∀ w ∈ wsX50, w ∈ wsX5_obstacleOf := fun w h => List.mem_cons_of_mem _ (List.mem_append_right _ (h))
abbrev rmX5_obstacleOf : Room := { frames := 1, cells := 0, slots := 0, locals := 22 }
theorem hd_X5_obstacleOf : yX5_obstacleOf.cls = RX5 ∧ yX5_obstacleOf.cls ≠ "java/lang/invoke/MethodHandle" ∧ yX5_obstacleOf.cls ≠ "java/lang/invoke/VarHandle" ∧ (parseMethodDescriptor yX5_obstacleOf.desc).map (fun d => d.parameters.length) = some 2 := by decide +kernel
set_option maxHeartbeats 4000000 in
set_option maxRecDepth 100000 in
theorem c_X5_obstacleOf (l : Launch) (G : zG_t) (its : Int32) (atp : Int32) (R : zS_t) (hIR : zIR R) : zCI l G.1 (zty G) yX5_obstacleOf wsX5_obstacleOf rmX5_obstacleOf [.ref (G.2.2 6 0), .int its, .int atp] (zWR G R) ((mX5_obstacleOf its atp R)) (zWR G R) := by
  obtain ⟨X, hE⟩ : ∃ z, mX5_obstacleOf its atp R = z := ⟨_, rfl⟩
  rw [hE]
  refine zb_I (cc := cX5_obstacleOf) (maxL := 5) (by decide) rfl (Nat.le_of_ble_eq_true rfl) ?_
  intro p e s m args below meth c Q A F hret
  show zW p l e rmX5_obstacleOf s m args below meth c 0 0 Q G.1 A 5 (zWR G R) [(0, .ref (G.2.2 6 0)), (1, .int its), (2, .int atp)] 0 []
  have k_0 : Int32.toInt 0 = 0 := by decide
  have k_1 : Int32.toInt 1 = 1 := by decide
  have k_2 : Int32.toInt 2 = 2 := by decide
  have k_3 : Int32.toInt 3 = 3 := by decide
  have k_4 : Int32.toInt 4 = 4 := by decide
  have k_7 : Int32.toInt 7 = 7 := by decide
  have k_12 : Int32.toInt 12 = 12 := by decide
  have k_13 : Int32.toInt 13 = 13 := by decide
  obtain ⟨⟨i230, i231⟩, ⟨i232, i233⟩, ⟨i234, i235⟩, ⟨i236, i237⟩, ⟨i238, i239⟩, hIR_b14, hIR_p15⟩ := id hIR
  unfold mX5_obstacleOf at hE
  refine zi_iload_n (pc := 0) F dX5_obstacleOf_0 1 rfl ?_
  refine zi_bipush (pc := 1) (v := 12) F dX5_obstacleOf_1 rfl ?_
  refine zi_icmp_ge (pc := 3) (tgt := 26) F dX5_obstacleOf_3 (by decide) (fun c1 => ?_) (fun c1 => ?_)
  · have hE := zite_t hE c1
    have t2 := zt_le c1
    refine zi_aload_n (pc := 26) F dX5_obstacleOf_26 0 rfl ?_
    refine zi_get (pc := 27) (C := RX5) (T := TX5) (N := 27) (v := .ref (G.2.2 6 1)) F (hw_X5_obstacleOf_X5) 0 rfl rfl 5 (by decide) (List.mem_of_getElem? (i := 4) rfl) rfl rfl dX5_obstacleOf_27 ?_
    refine zi_aload_n (pc := 30) F dX5_obstacleOf_30 0 rfl ?_
    refine zi_get (pc := 31) (C := RX5) (T := TX5) (N := 27) (v := .int (R 1 0)) F (hw_X5_obstacleOf_X5) 0 rfl rfl 1 (by decide) (List.mem_of_getElem? (i := 2) rfl) rfl rfl dX5_obstacleOf_31 ?_
    refine zi_iald (pc := 34) (v := (R 5 (R 1 0).toNatClampNeg)) F 1 0 rfl rfl (zin (a := (R 1 0)) (by omega) (by omega)) rfl dX5_obstacleOf_34 ?_
    refine zi_iload_n (pc := 35) F dX5_obstacleOf_35 1 rfl ?_
    have hM5 := c_X5_cost l G its  
    obtain ⟨r3, e4⟩ : ∃ z, mX5_cost its = z := ⟨_, rfl⟩
    have hE := zbnd_cut hE e4
    rw [e4] at hM5
    refine zi_callSI (pc := 36) (rest := [.int (R 5 (R 1 0).toNatClampNeg)]) (ws' := zWR G R) F hM5 (va_cwS 1 F.1.2.2.2.2 gX5_obstacleOf_X5_cost rfl rfl rfl hd_X5_cost.2 ⟨Nat.le_of_ble_eq_true rfl, Nat.le_of_ble_eq_true rfl⟩) [] (zWR G R) rfl rfl rfl rfl (Nat.le_of_ble_eq_true rfl) dX5_obstacleOf_36 ⟨Nat.zero_le _, Nat.zero_le _⟩ ?_
    refine zi_icmp_ge (pc := 39) (tgt := 44) F dX5_obstacleOf_39 (by decide) (fun c6 => ?_) (fun c6 => ?_)
    · have hE := zite_t hE c6
      have t7 := zt_le c6
      obtain ⟨w32, e33⟩ : ∃ z, mX5_obstacleOf_S44 its atp R = z := ⟨_, rfl⟩
      have hE := zbnd_cut hE e33
      have hQ34 : (Int32.toInt w32 = 0 ∨ (¬ Int32.toInt its = 7 ∧ ¬ Int32.toInt its = 12) ∨ (0 ≤ Int32.toInt atp ∧ Int32.toInt atp < Int32.toInt (R 6 0))) := by
        have hE := e33
        unfold mX5_obstacleOf_S44 at hE
        by_cases c35 : its = 7
        · have hE := zite_t hE c35
          have t36 := congrArg Int32.toInt c35
          try have t38 := zt_sub (a := (R 6 0)) (b := 1) (by omega) (by omega)
          have pp41 := pp_X5_isIn atp 0 ((R 6 0) - 1)  
          obtain ⟨r37, e39⟩ : ∃ z, mX5_isIn atp 0 ((R 6 0) - 1) = z := ⟨_, rfl⟩
          have hE := zbnd_cut hE e39
          rw [e39] at pp41
          obtain ⟨hbr37, q42⟩ := pp41
          by_cases c43 : r37 = 0
          · have hE := zite_t hE c43
            have t44 := congrArg Int32.toInt c43
            subst hE
            exact by (show Int32.toInt 0 = 0 ∨ (¬ Int32.toInt its = 7 ∧ ¬ Int32.toInt its = 12) ∨ (0 ≤ Int32.toInt atp ∧ Int32.toInt atp < Int32.toInt (R 6 0)); omega)
          · have hE := zite_f hE c43
            have t45 := zt_ne c43
            subst hE
            exact by (show Int32.toInt 1 = 0 ∨ (¬ Int32.toInt its = 7 ∧ ¬ Int32.toInt its = 12) ∨ (0 ≤ Int32.toInt atp ∧ Int32.toInt atp < Int32.toInt (R 6 0)); omega)
        · have hE := zite_f hE c35
          have t46 := zt_ne c35
          by_cases c47 : its = 12
          · have hE := zite_t hE c47
            have t48 := congrArg Int32.toInt c47
            try have t50 := zt_sub (a := (R 6 0)) (b := 1) (by omega) (by omega)
            have pp53 := pp_X5_isIn atp 0 ((R 6 0) - 1)  
            obtain ⟨r49, e51⟩ : ∃ z, mX5_isIn atp 0 ((R 6 0) - 1) = z := ⟨_, rfl⟩
            have hE := zbnd_cut hE e51
            rw [e51] at pp53
            obtain ⟨hbr49, q54⟩ := pp53
            by_cases c55 : r49 = 0
            · have hE := zite_t hE c55
              have t56 := congrArg Int32.toInt c55
              subst hE
              exact by (show Int32.toInt 0 = 0 ∨ (¬ Int32.toInt its = 7 ∧ ¬ Int32.toInt its = 12) ∨ (0 ≤ Int32.toInt atp ∧ Int32.toInt atp < Int32.toInt (R 6 0)); omega)
            · have hE := zite_f hE c55
              have t57 := zt_ne c55
              subst hE
              exact by (show Int32.toInt 1 = 0 ∨ (¬ Int32.toInt its = 7 ∧ ¬ Int32.toInt its = 12) ∨ (0 ≤ Int32.toInt atp ∧ Int32.toInt atp < Int32.toInt (R 6 0)); omega)
          · have hE := zite_f hE c47
            have t58 := zt_ne c47
            subst hE
            exact by (show Int32.toInt 1 = 0 ∨ (¬ Int32.toInt its = 7 ∧ ¬ Int32.toInt its = 12) ∨ (0 ≤ Int32.toInt atp ∧ Int32.toInt atp < Int32.toInt (R 6 0)); omega)
      have i59 := hQ34
      have hK60 : zW p l e rmX5_obstacleOf s m args below meth c 0 0 Q G.1 A 5 (zWR G R) [(0, .ref (G.2.2 6 0)), (1, .int its), (2, .int atp)] 75 [.int w32] → zW p l e rmX5_obstacleOf s m args below meth c 0 0 Q G.1 A 5 (zWR G R) [(0, .ref (G.2.2 6 0)), (1, .int its), (2, .int atp)] 44 [] := by
        intro hK
        have hE := e33
        unfold mX5_obstacleOf_S44 at hE
        refine zi_iload_n (pc := 44) F dX5_obstacleOf_44 1 rfl ?_
        refine zi_bipush (pc := 45) (v := 7) F dX5_obstacleOf_45 rfl ?_
        refine zi_icmp_eq (pc := 47) (tgt := 56) F dX5_obstacleOf_47 (by decide) (fun c61 => ?_) (fun c61 => ?_)
        · have hE := zite_t hE c61
          have t62 := congrArg Int32.toInt c61
          refine zi_iload_n (pc := 56) F dX5_obstacleOf_56 2 rfl ?_
          refine zi_iconst (pc := 57) (v := 0) F dX5_obstacleOf_57 rfl ?_
          refine zi_aload_n (pc := 58) F dX5_obstacleOf_58 0 rfl ?_
          refine zi_get (pc := 59) (C := RX5) (T := TX5) (N := 27) (v := .int (R 6 0)) F (hw_X5_obstacleOf_X5) 0 rfl rfl 6 (by decide) (List.mem_of_getElem? (i := 5) rfl) rfl rfl dX5_obstacleOf_59 ?_
          refine zi_iconst (pc := 62) (v := 1) F dX5_obstacleOf_62 rfl ?_
          refine zi_isub (pc := 63) F dX5_obstacleOf_63 ?_
          try have t64 := zt_sub (a := (R 6 0)) (b := 1) (by omega) (by omega)
          have hM66 := c_X5_isIn l G atp 0 ((R 6 0) - 1)  
          have pp67 := pp_X5_isIn atp 0 ((R 6 0) - 1)  
          obtain ⟨r63, e65⟩ : ∃ z, mX5_isIn atp 0 ((R 6 0) - 1) = z := ⟨_, rfl⟩
          have hE := zbnd_cut hE e65
          rw [e65] at hM66
          rw [e65] at pp67
          obtain ⟨hbr63, q68⟩ := pp67
          refine zi_callSI (pc := 64) (rest := []) (ws' := zWR G R) F hM66 (va_cwS 3 F.1.2.2.2.2 gX5_obstacleOf_X5_isIn rfl rfl rfl hd_X5_isIn.2 ⟨Nat.le_of_ble_eq_true rfl, Nat.le_of_ble_eq_true rfl⟩) [] (zWR G R) rfl rfl rfl rfl (Nat.le_of_ble_eq_true rfl) dX5_obstacleOf_64 ⟨Nat.zero_le _, Nat.zero_le _⟩ ?_
          refine zi_if_eq (pc := 67) (tgt := 74) F dX5_obstacleOf_67 (by decide) (fun c69 => ?_) (fun c69 => ?_)
          · have hE := zite_t hE c69
            have t70 := congrArg Int32.toInt c69
            refine zi_iconst (pc := 74) (v := 0) F dX5_obstacleOf_74 rfl ?_
            subst hE
            exact zi_sub [0, 1, 2] rfl hK
          · have hE := zite_f hE c69
            have t71 := zt_ne c69
            refine zi_iconst (pc := 70) (v := 1) F dX5_obstacleOf_70 rfl ?_
            refine zi_goto (pc := 71) (tgt := 75) F dX5_obstacleOf_71 (by decide) ?_
            subst hE
            exact zi_sub [0, 1, 2] rfl hK
        · have hE := zite_f hE c61
          have t72 := zt_ne c61
          refine zi_iload_n (pc := 50) F dX5_obstacleOf_50 1 rfl ?_
          refine zi_bipush (pc := 51) (v := 12) F dX5_obstacleOf_51 rfl ?_
          refine zi_icmp_ne (pc := 53) (tgt := 70) F dX5_obstacleOf_53 (by decide) (fun c73 => ?_) (fun c73 => ?_)
          · have hE := zite_f hE c73
            have t74 := zt_ne c73
            refine zi_iconst (pc := 70) (v := 1) F dX5_obstacleOf_70 rfl ?_
            refine zi_goto (pc := 71) (tgt := 75) F dX5_obstacleOf_71 (by decide) ?_
            subst hE
            exact zi_sub [0, 1, 2] rfl hK
          · have hE := zite_t hE c73
            have t75 := congrArg Int32.toInt c73
            refine zi_iload_n (pc := 56) F dX5_obstacleOf_56 2 rfl ?_
            refine zi_iconst (pc := 57) (v := 0) F dX5_obstacleOf_57 rfl ?_
            refine zi_aload_n (pc := 58) F dX5_obstacleOf_58 0 rfl ?_
            refine zi_get (pc := 59) (C := RX5) (T := TX5) (N := 27) (v := .int (R 6 0)) F (hw_X5_obstacleOf_X5) 0 rfl rfl 6 (by decide) (List.mem_of_getElem? (i := 5) rfl) rfl rfl dX5_obstacleOf_59 ?_
            refine zi_iconst (pc := 62) (v := 1) F dX5_obstacleOf_62 rfl ?_
            refine zi_isub (pc := 63) F dX5_obstacleOf_63 ?_
            try have t77 := zt_sub (a := (R 6 0)) (b := 1) (by omega) (by omega)
            have hM79 := c_X5_isIn l G atp 0 ((R 6 0) - 1)  
            have pp80 := pp_X5_isIn atp 0 ((R 6 0) - 1)  
            obtain ⟨r76, e78⟩ : ∃ z, mX5_isIn atp 0 ((R 6 0) - 1) = z := ⟨_, rfl⟩
            have hE := zbnd_cut hE e78
            rw [e78] at hM79
            rw [e78] at pp80
            obtain ⟨hbr76, q81⟩ := pp80
            refine zi_callSI (pc := 64) (rest := []) (ws' := zWR G R) F hM79 (va_cwS 3 F.1.2.2.2.2 gX5_obstacleOf_X5_isIn rfl rfl rfl hd_X5_isIn.2 ⟨Nat.le_of_ble_eq_true rfl, Nat.le_of_ble_eq_true rfl⟩) [] (zWR G R) rfl rfl rfl rfl (Nat.le_of_ble_eq_true rfl) dX5_obstacleOf_64 ⟨Nat.zero_le _, Nat.zero_le _⟩ ?_
            refine zi_if_eq (pc := 67) (tgt := 74) F dX5_obstacleOf_67 (by decide) (fun c82 => ?_) (fun c82 => ?_)
            · have hE := zite_t hE c82
              have t83 := congrArg Int32.toInt c82
              refine zi_iconst (pc := 74) (v := 0) F dX5_obstacleOf_74 rfl ?_
              subst hE
              exact zi_sub [0, 1, 2] rfl hK
            · have hE := zite_f hE c82
              have t84 := zt_ne c82
              refine zi_iconst (pc := 70) (v := 1) F dX5_obstacleOf_70 rfl ?_
              refine zi_goto (pc := 71) (tgt := 75) F dX5_obstacleOf_71 (by decide) ?_
              subst hE
              exact zi_sub [0, 1, 2] rfl hK
      refine hK60 ?_
      refine zi_istore_n (pc := 75) (lv' := [(0, .ref (G.2.2 6 0)), (1, .int its), (2, .int atp), (3, .int w32)]) F dX5_obstacleOf_75 (by decide) rfl ?_
      obtain ⟨w102, e103⟩ : ∃ z, mX5_obstacleOf_S76 its atp R = z := ⟨_, rfl⟩
      have hE := zbnd_cut hE e103
      have hQ104 : (Int32.toInt w102 = 0 ∨ ¬ Int32.toInt its = 13 ∨ (0 ≤ Int32.toInt atp ∧ Int32.toInt atp < Int32.toInt (R 12 0))) := by
        have hE := e103
        unfold mX5_obstacleOf_S76 at hE
        by_cases c105 : its = 13
        · have hE := zite_t hE c105
          have t106 := congrArg Int32.toInt c105
          try have t108 := zt_sub (a := (R 12 0)) (b := 1) (by omega) (by omega)
          have pp111 := pp_X5_isIn atp 0 ((R 12 0) - 1)  
          obtain ⟨r107, e109⟩ : ∃ z, mX5_isIn atp 0 ((R 12 0) - 1) = z := ⟨_, rfl⟩
          have hE := zbnd_cut hE e109
          rw [e109] at pp111
          obtain ⟨hbr107, q112⟩ := pp111
          by_cases c113 : r107 = 0
          · have hE := zite_t hE c113
            have t114 := congrArg Int32.toInt c113
            subst hE
            exact by (show Int32.toInt 0 = 0 ∨ ¬ Int32.toInt its = 13 ∨ (0 ≤ Int32.toInt atp ∧ Int32.toInt atp < Int32.toInt (R 12 0)); omega)
          · have hE := zite_f hE c113
            have t115 := zt_ne c113
            try have t116 := zt_sub (a := (R 12 0)) (b := 1) (by omega) (by omega)
            try have t117 := zt_sub (a := ((R 12 0) - 1)) (b := atp) (by omega) (by omega)
            by_cases c118 : (R 14 (((R 12 0) - 1) - atp).toNatClampNeg) = 0
            · have hE := zite_t hE c118
              have t119 := congrArg Int32.toInt c118
              subst hE
              exact by (show Int32.toInt 1 = 0 ∨ ¬ Int32.toInt its = 13 ∨ (0 ≤ Int32.toInt atp ∧ Int32.toInt atp < Int32.toInt (R 12 0)); omega)
            · have hE := zite_f hE c118
              have t120 := zt_ne c118
              subst hE
              exact by (show Int32.toInt 0 = 0 ∨ ¬ Int32.toInt its = 13 ∨ (0 ≤ Int32.toInt atp ∧ Int32.toInt atp < Int32.toInt (R 12 0)); omega)
        · have hE := zite_f hE c105
          have t121 := zt_ne c105
          subst hE
          exact by (show Int32.toInt 1 = 0 ∨ ¬ Int32.toInt its = 13 ∨ (0 ≤ Int32.toInt atp ∧ Int32.toInt atp < Int32.toInt (R 12 0)); omega)
      have i122 := hQ104
      have hK123 : zW p l e rmX5_obstacleOf s m args below meth c 0 0 Q G.1 A 5 (zWR G R) [(0, .ref (G.2.2 6 0)), (1, .int its), (2, .int atp), (3, .int w32)] 117 [.int w102] → zW p l e rmX5_obstacleOf s m args below meth c 0 0 Q G.1 A 5 (zWR G R) [(0, .ref (G.2.2 6 0)), (1, .int its), (2, .int atp), (3, .int w32)] 76 [] := by
        intro hK
        have hE := e103
        unfold mX5_obstacleOf_S76 at hE
        refine zi_iload_n (pc := 76) F dX5_obstacleOf_76 1 rfl ?_
        refine zi_bipush (pc := 77) (v := 13) F dX5_obstacleOf_77 rfl ?_
        refine zi_icmp_ne (pc := 79) (tgt := 112) F dX5_obstacleOf_79 (by decide) (fun c124 => ?_) (fun c124 => ?_)
        · have hE := zite_f hE c124
          have t125 := zt_ne c124
          refine zi_iconst (pc := 112) (v := 1) F dX5_obstacleOf_112 rfl ?_
          refine zi_goto (pc := 113) (tgt := 117) F dX5_obstacleOf_113 (by decide) ?_
          subst hE
          exact zi_sub [0, 1, 2, 3] rfl hK
        · have hE := zite_t hE c124
          have t126 := congrArg Int32.toInt c124
          refine zi_iload_n (pc := 82) F dX5_obstacleOf_82 2 rfl ?_
          refine zi_iconst (pc := 83) (v := 0) F dX5_obstacleOf_83 rfl ?_
          refine zi_aload_n (pc := 84) F dX5_obstacleOf_84 0 rfl ?_
          refine zi_get (pc := 85) (C := RX5) (T := TX5) (N := 27) (v := .int (R 12 0)) F (hw_X5_obstacleOf_X5) 0 rfl rfl 12 (by decide) (List.mem_of_getElem? (i := 1) rfl) rfl rfl dX5_obstacleOf_85 ?_
          refine zi_iconst (pc := 88) (v := 1) F dX5_obstacleOf_88 rfl ?_
          refine zi_isub (pc := 89) F dX5_obstacleOf_89 ?_
          try have t128 := zt_sub (a := (R 12 0)) (b := 1) (by omega) (by omega)
          have hM130 := c_X5_isIn l G atp 0 ((R 12 0) - 1)  
          have pp131 := pp_X5_isIn atp 0 ((R 12 0) - 1)  
          obtain ⟨r127, e129⟩ : ∃ z, mX5_isIn atp 0 ((R 12 0) - 1) = z := ⟨_, rfl⟩
          have hE := zbnd_cut hE e129
          rw [e129] at hM130
          rw [e129] at pp131
          obtain ⟨hbr127, q132⟩ := pp131
          refine zi_callSI (pc := 90) (rest := []) (ws' := zWR G R) F hM130 (va_cwS 3 F.1.2.2.2.2 gX5_obstacleOf_X5_isIn rfl rfl rfl hd_X5_isIn.2 ⟨Nat.le_of_ble_eq_true rfl, Nat.le_of_ble_eq_true rfl⟩) [] (zWR G R) rfl rfl rfl rfl (Nat.le_of_ble_eq_true rfl) dX5_obstacleOf_90 ⟨Nat.zero_le _, Nat.zero_le _⟩ ?_
          refine zi_if_eq (pc := 93) (tgt := 116) F dX5_obstacleOf_93 (by decide) (fun c133 => ?_) (fun c133 => ?_)
          · have hE := zite_t hE c133
            have t134 := congrArg Int32.toInt c133
            refine zi_iconst (pc := 116) (v := 0) F dX5_obstacleOf_116 rfl ?_
            subst hE
            exact zi_sub [0, 1, 2, 3] rfl hK
          · have hE := zite_f hE c133
            have t135 := zt_ne c133
            refine zi_aload_n (pc := 96) F dX5_obstacleOf_96 0 rfl ?_
            refine zi_get (pc := 97) (C := RX5) (T := TX5) (N := 27) (v := .ref (G.2.2 6 7)) F (hw_X5_obstacleOf_X5) 0 rfl rfl 14 (by decide) (List.mem_of_getElem? (i := 6) rfl) rfl rfl dX5_obstacleOf_97 ?_
            refine zi_aload_n (pc := 100) F dX5_obstacleOf_100 0 rfl ?_
            refine zi_get (pc := 101) (C := RX5) (T := TX5) (N := 27) (v := .int (R 12 0)) F (hw_X5_obstacleOf_X5) 0 rfl rfl 12 (by decide) (List.mem_of_getElem? (i := 1) rfl) rfl rfl dX5_obstacleOf_101 ?_
            refine zi_iconst (pc := 104) (v := 1) F dX5_obstacleOf_104 rfl ?_
            refine zi_isub (pc := 105) F dX5_obstacleOf_105 ?_
            refine zi_iload_n (pc := 106) F dX5_obstacleOf_106 2 rfl ?_
            refine zi_isub (pc := 107) F dX5_obstacleOf_107 ?_
            try have t136 := zt_sub (a := (R 12 0)) (b := 1) (by omega) (by omega)
            try have t137 := zt_sub (a := ((R 12 0) - 1)) (b := atp) (by omega) (by omega)
            refine zi_zald (pc := 108) (v := (R 14 (((R 12 0) - 1) - atp).toNatClampNeg)) F 7 1 rfl rfl (zin (a := (((R 12 0) - 1) - atp)) (by omega) (by omega)) rfl dX5_obstacleOf_108 ?_
            refine zi_if_ne (pc := 109) (tgt := 116) F dX5_obstacleOf_109 (by decide) (fun c138 => ?_) (fun c138 => ?_)
            · have hE := zite_f hE c138
              have t139 := zt_ne c138
              refine zi_iconst (pc := 116) (v := 0) F dX5_obstacleOf_116 rfl ?_
              subst hE
              exact zi_sub [0, 1, 2, 3] rfl hK
            · have hE := zite_t hE c138
              have t140 := congrArg Int32.toInt c138
              refine zi_iconst (pc := 112) (v := 1) F dX5_obstacleOf_112 rfl ?_
              refine zi_goto (pc := 113) (tgt := 117) F dX5_obstacleOf_113 (by decide) ?_
              subst hE
              exact zi_sub [0, 1, 2, 3] rfl hK
      refine hK123 ?_
      refine zi_istore (pc := 117) (lv' := [(0, .ref (G.2.2 6 0)), (1, .int its), (2, .int atp), (3, .int w32), (4, .int w102)]) F dX5_obstacleOf_117 (by decide) rfl ?_
      refine zi_iload_n (pc := 119) F dX5_obstacleOf_119 3 rfl ?_
      refine zi_if_eq (pc := 120) (tgt := 128) F dX5_obstacleOf_120 (by decide) (fun c141 => ?_) (fun c141 => ?_)
      · have hE := zite_t hE c141
        have t142 := congrArg Int32.toInt c141
        refine zi_iconst (pc := 128) (v := 3) F dX5_obstacleOf_128 rfl ?_
        refine zi_goto (pc := 129) (tgt := 146) F dX5_obstacleOf_129 (by decide) ?_
        subst hE
        exact hret _ _ dX5_obstacleOf_146
      · have hE := zite_f hE c141
        have t143 := zt_ne c141
        refine zi_iload (pc := 123) F dX5_obstacleOf_123 4 rfl ?_
        refine zi_if_ne (pc := 125) (tgt := 132) F dX5_obstacleOf_125 (by decide) (fun c144 => ?_) (fun c144 => ?_)
        · have hE := zite_f hE c144
          have t145 := zt_ne c144
          refine zi_aload_n (pc := 132) F dX5_obstacleOf_132 0 rfl ?_
          refine zi_get (pc := 133) (C := RX5) (T := TX5) (N := 27) (v := .int (R 12 0)) F (hw_X5_obstacleOf_X5) 0 rfl rfl 12 (by decide) (List.mem_of_getElem? (i := 1) rfl) rfl rfl dX5_obstacleOf_133 ?_
          refine zi_bipush (pc := 136) (v := 12) F dX5_obstacleOf_136 rfl ?_
          refine zi_icmp_ne (pc := 138) (tgt := 145) F dX5_obstacleOf_138 (by decide) (fun c146 => ?_) (fun c146 => ?_)
          · have hE := zite_f hE c146
            have t147 := zt_ne c146
            refine zi_iconst (pc := 145) (v := 0) F dX5_obstacleOf_145 rfl ?_
            subst hE
            exact hret _ _ dX5_obstacleOf_146
          · have hE := zite_t hE c146
            have t148 := congrArg Int32.toInt c146
            refine zi_iconst (pc := 141) (v := 4) F dX5_obstacleOf_141 rfl ?_
            refine zi_goto (pc := 142) (tgt := 146) F dX5_obstacleOf_142 (by decide) ?_
            subst hE
            exact hret _ _ dX5_obstacleOf_146
        · have hE := zite_t hE c144
          have t149 := congrArg Int32.toInt c144
          refine zi_iconst (pc := 128) (v := 3) F dX5_obstacleOf_128 rfl ?_
          refine zi_goto (pc := 129) (tgt := 146) F dX5_obstacleOf_129 (by decide) ?_
          subst hE
          exact hret _ _ dX5_obstacleOf_146
    · have hE := zite_f hE c6
      have t150 := zt_nle c6
      refine zi_iconst (pc := 42) (v := 2) F dX5_obstacleOf_42 rfl ?_
      subst hE
      exact hret _ _ dX5_obstacleOf_43
  · have hE := zite_f hE c1
    have t151 := zt_nle c1
    refine zi_aload_n (pc := 6) F dX5_obstacleOf_6 0 rfl ?_
    refine zi_get (pc := 7) (C := RX5) (T := TX5) (N := 27) (v := .int (R 12 0)) F (hw_X5_obstacleOf_X5) 0 rfl rfl 12 (by decide) (List.mem_of_getElem? (i := 1) rfl) rfl rfl dX5_obstacleOf_7 ?_
    refine zi_if_gt (pc := 10) (tgt := 24) F dX5_obstacleOf_10 (by decide) (fun c152 => ?_) (fun c152 => ?_)
    · have hE := zite_t hE c152
      have t153 := zt_lt c152
      refine zi_iconst (pc := 24) (v := 1) F dX5_obstacleOf_24 rfl ?_
      subst hE
      exact hret _ _ dX5_obstacleOf_25
    · have hE := zite_f hE c152
      have t154 := zt_nlt c152
      refine zi_aload_n (pc := 13) F dX5_obstacleOf_13 0 rfl ?_
      refine zi_get (pc := 14) (C := RX5) (T := TX5) (N := 27) (v := .int (R 1 0)) F (hw_X5_obstacleOf_X5) 0 rfl rfl 1 (by decide) (List.mem_of_getElem? (i := 2) rfl) rfl rfl dX5_obstacleOf_14 ?_
      refine zi_aload_n (pc := 17) F dX5_obstacleOf_17 0 rfl ?_
      refine zi_get (pc := 18) (C := RX5) (T := TX5) (N := 27) (v := .int (R 0 0)) F (hw_X5_obstacleOf_X5) 0 rfl rfl 0 (by decide) (List.mem_of_getElem? (i := 3) rfl) rfl rfl dX5_obstacleOf_18 ?_
      refine zi_icmp_eq (pc := 21) (tgt := 26) F dX5_obstacleOf_21 (by decide) (fun c155 => ?_) (fun c155 => ?_)
      · have hE := zite_t hE c155
        have t156 := congrArg Int32.toInt c155
        refine zi_aload_n (pc := 26) F dX5_obstacleOf_26 0 rfl ?_
        refine zi_get (pc := 27) (C := RX5) (T := TX5) (N := 27) (v := .ref (G.2.2 6 1)) F (hw_X5_obstacleOf_X5) 0 rfl rfl 5 (by decide) (List.mem_of_getElem? (i := 4) rfl) rfl rfl dX5_obstacleOf_27 ?_
        refine zi_aload_n (pc := 30) F dX5_obstacleOf_30 0 rfl ?_
        refine zi_get (pc := 31) (C := RX5) (T := TX5) (N := 27) (v := .int (R 1 0)) F (hw_X5_obstacleOf_X5) 0 rfl rfl 1 (by decide) (List.mem_of_getElem? (i := 2) rfl) rfl rfl dX5_obstacleOf_31 ?_
        refine zi_iald (pc := 34) (v := (R 5 (R 1 0).toNatClampNeg)) F 1 0 rfl rfl (zin (a := (R 1 0)) (by omega) (by omega)) rfl dX5_obstacleOf_34 ?_
        refine zi_iload_n (pc := 35) F dX5_obstacleOf_35 1 rfl ?_
        have hM159 := c_X5_cost l G its  
        obtain ⟨r157, e158⟩ : ∃ z, mX5_cost its = z := ⟨_, rfl⟩
        have hE := zbnd_cut hE e158
        rw [e158] at hM159
        refine zi_callSI (pc := 36) (rest := [.int (R 5 (R 1 0).toNatClampNeg)]) (ws' := zWR G R) F hM159 (va_cwS 1 F.1.2.2.2.2 gX5_obstacleOf_X5_cost rfl rfl rfl hd_X5_cost.2 ⟨Nat.le_of_ble_eq_true rfl, Nat.le_of_ble_eq_true rfl⟩) [] (zWR G R) rfl rfl rfl rfl (Nat.le_of_ble_eq_true rfl) dX5_obstacleOf_36 ⟨Nat.zero_le _, Nat.zero_le _⟩ ?_
        refine zi_icmp_ge (pc := 39) (tgt := 44) F dX5_obstacleOf_39 (by decide) (fun c160 => ?_) (fun c160 => ?_)
        · have hE := zite_t hE c160
          have t161 := zt_le c160
          obtain ⟨w186, e187⟩ : ∃ z, mX5_obstacleOf_S44 its atp R = z := ⟨_, rfl⟩
          have hE := zbnd_cut hE e187
          have hQ188 : (Int32.toInt w186 = 0 ∨ (¬ Int32.toInt its = 7 ∧ ¬ Int32.toInt its = 12) ∨ (0 ≤ Int32.toInt atp ∧ Int32.toInt atp < Int32.toInt (R 6 0))) := by
            have hE := e187
            unfold mX5_obstacleOf_S44 at hE
            by_cases c189 : its = 7
            · have hE := zite_t hE c189
              have t190 := congrArg Int32.toInt c189
              try have t192 := zt_sub (a := (R 6 0)) (b := 1) (by omega) (by omega)
              have pp195 := pp_X5_isIn atp 0 ((R 6 0) - 1)  
              obtain ⟨r191, e193⟩ : ∃ z, mX5_isIn atp 0 ((R 6 0) - 1) = z := ⟨_, rfl⟩
              have hE := zbnd_cut hE e193
              rw [e193] at pp195
              obtain ⟨hbr191, q196⟩ := pp195
              by_cases c197 : r191 = 0
              · have hE := zite_t hE c197
                have t198 := congrArg Int32.toInt c197
                subst hE
                exact by (show Int32.toInt 0 = 0 ∨ (¬ Int32.toInt its = 7 ∧ ¬ Int32.toInt its = 12) ∨ (0 ≤ Int32.toInt atp ∧ Int32.toInt atp < Int32.toInt (R 6 0)); omega)
              · have hE := zite_f hE c197
                have t199 := zt_ne c197
                subst hE
                exact by (show Int32.toInt 1 = 0 ∨ (¬ Int32.toInt its = 7 ∧ ¬ Int32.toInt its = 12) ∨ (0 ≤ Int32.toInt atp ∧ Int32.toInt atp < Int32.toInt (R 6 0)); omega)
            · have hE := zite_f hE c189
              have t200 := zt_ne c189
              by_cases c201 : its = 12
              · have hE := zite_t hE c201
                have t202 := congrArg Int32.toInt c201
                try have t204 := zt_sub (a := (R 6 0)) (b := 1) (by omega) (by omega)
                have pp207 := pp_X5_isIn atp 0 ((R 6 0) - 1)  
                obtain ⟨r203, e205⟩ : ∃ z, mX5_isIn atp 0 ((R 6 0) - 1) = z := ⟨_, rfl⟩
                have hE := zbnd_cut hE e205
                rw [e205] at pp207
                obtain ⟨hbr203, q208⟩ := pp207
                by_cases c209 : r203 = 0
                · have hE := zite_t hE c209
                  have t210 := congrArg Int32.toInt c209
                  subst hE
                  exact by (show Int32.toInt 0 = 0 ∨ (¬ Int32.toInt its = 7 ∧ ¬ Int32.toInt its = 12) ∨ (0 ≤ Int32.toInt atp ∧ Int32.toInt atp < Int32.toInt (R 6 0)); omega)
                · have hE := zite_f hE c209
                  have t211 := zt_ne c209
                  subst hE
                  exact by (show Int32.toInt 1 = 0 ∨ (¬ Int32.toInt its = 7 ∧ ¬ Int32.toInt its = 12) ∨ (0 ≤ Int32.toInt atp ∧ Int32.toInt atp < Int32.toInt (R 6 0)); omega)
              · have hE := zite_f hE c201
                have t212 := zt_ne c201
                subst hE
                exact by (show Int32.toInt 1 = 0 ∨ (¬ Int32.toInt its = 7 ∧ ¬ Int32.toInt its = 12) ∨ (0 ≤ Int32.toInt atp ∧ Int32.toInt atp < Int32.toInt (R 6 0)); omega)
          have i213 := hQ188
          have hK214 : zW p l e rmX5_obstacleOf s m args below meth c 0 0 Q G.1 A 5 (zWR G R) [(0, .ref (G.2.2 6 0)), (1, .int its), (2, .int atp)] 75 [.int w186] → zW p l e rmX5_obstacleOf s m args below meth c 0 0 Q G.1 A 5 (zWR G R) [(0, .ref (G.2.2 6 0)), (1, .int its), (2, .int atp)] 44 [] := by
            intro hK
            have hE := e187
            unfold mX5_obstacleOf_S44 at hE
            refine zi_iload_n (pc := 44) F dX5_obstacleOf_44 1 rfl ?_
            refine zi_bipush (pc := 45) (v := 7) F dX5_obstacleOf_45 rfl ?_
            refine zi_icmp_eq (pc := 47) (tgt := 56) F dX5_obstacleOf_47 (by decide) (fun c215 => ?_) (fun c215 => ?_)
            · have hE := zite_t hE c215
              have t216 := congrArg Int32.toInt c215
              refine zi_iload_n (pc := 56) F dX5_obstacleOf_56 2 rfl ?_
              refine zi_iconst (pc := 57) (v := 0) F dX5_obstacleOf_57 rfl ?_
              refine zi_aload_n (pc := 58) F dX5_obstacleOf_58 0 rfl ?_
              refine zi_get (pc := 59) (C := RX5) (T := TX5) (N := 27) (v := .int (R 6 0)) F (hw_X5_obstacleOf_X5) 0 rfl rfl 6 (by decide) (List.mem_of_getElem? (i := 5) rfl) rfl rfl dX5_obstacleOf_59 ?_
              refine zi_iconst (pc := 62) (v := 1) F dX5_obstacleOf_62 rfl ?_
              refine zi_isub (pc := 63) F dX5_obstacleOf_63 ?_
              try have t218 := zt_sub (a := (R 6 0)) (b := 1) (by omega) (by omega)
              have hM220 := c_X5_isIn l G atp 0 ((R 6 0) - 1)  
              have pp221 := pp_X5_isIn atp 0 ((R 6 0) - 1)  
              obtain ⟨r217, e219⟩ : ∃ z, mX5_isIn atp 0 ((R 6 0) - 1) = z := ⟨_, rfl⟩
              have hE := zbnd_cut hE e219
              rw [e219] at hM220
              rw [e219] at pp221
              obtain ⟨hbr217, q222⟩ := pp221
              refine zi_callSI (pc := 64) (rest := []) (ws' := zWR G R) F hM220 (va_cwS 3 F.1.2.2.2.2 gX5_obstacleOf_X5_isIn rfl rfl rfl hd_X5_isIn.2 ⟨Nat.le_of_ble_eq_true rfl, Nat.le_of_ble_eq_true rfl⟩) [] (zWR G R) rfl rfl rfl rfl (Nat.le_of_ble_eq_true rfl) dX5_obstacleOf_64 ⟨Nat.zero_le _, Nat.zero_le _⟩ ?_
              refine zi_if_eq (pc := 67) (tgt := 74) F dX5_obstacleOf_67 (by decide) (fun c223 => ?_) (fun c223 => ?_)
              · have hE := zite_t hE c223
                have t224 := congrArg Int32.toInt c223
                refine zi_iconst (pc := 74) (v := 0) F dX5_obstacleOf_74 rfl ?_
                subst hE
                exact zi_sub [0, 1, 2] rfl hK
              · have hE := zite_f hE c223
                have t225 := zt_ne c223
                refine zi_iconst (pc := 70) (v := 1) F dX5_obstacleOf_70 rfl ?_
                refine zi_goto (pc := 71) (tgt := 75) F dX5_obstacleOf_71 (by decide) ?_
                subst hE
                exact zi_sub [0, 1, 2] rfl hK
            · have hE := zite_f hE c215
              have t226 := zt_ne c215
              refine zi_iload_n (pc := 50) F dX5_obstacleOf_50 1 rfl ?_
              refine zi_bipush (pc := 51) (v := 12) F dX5_obstacleOf_51 rfl ?_
              refine zi_icmp_ne (pc := 53) (tgt := 70) F dX5_obstacleOf_53 (by decide) (fun c227 => ?_) (fun c227 => ?_)
              · have hE := zite_f hE c227
                have t228 := zt_ne c227
                refine zi_iconst (pc := 70) (v := 1) F dX5_obstacleOf_70 rfl ?_
                refine zi_goto (pc := 71) (tgt := 75) F dX5_obstacleOf_71 (by decide) ?_
                subst hE
                exact zi_sub [0, 1, 2] rfl hK
              · have hE := zite_t hE c227
                have t229 := congrArg Int32.toInt c227
                refine zi_iload_n (pc := 56) F dX5_obstacleOf_56 2 rfl ?_
                refine zi_iconst (pc := 57) (v := 0) F dX5_obstacleOf_57 rfl ?_
                refine zi_aload_n (pc := 58) F dX5_obstacleOf_58 0 rfl ?_
                refine zi_get (pc := 59) (C := RX5) (T := TX5) (N := 27) (v := .int (R 6 0)) F (hw_X5_obstacleOf_X5) 0 rfl rfl 6 (by decide) (List.mem_of_getElem? (i := 5) rfl) rfl rfl dX5_obstacleOf_59 ?_
                refine zi_iconst (pc := 62) (v := 1) F dX5_obstacleOf_62 rfl ?_
                refine zi_isub (pc := 63) F dX5_obstacleOf_63 ?_
                try have t231 := zt_sub (a := (R 6 0)) (b := 1) (by omega) (by omega)
                have hM233 := c_X5_isIn l G atp 0 ((R 6 0) - 1)  
                have pp234 := pp_X5_isIn atp 0 ((R 6 0) - 1)  
                obtain ⟨r230, e232⟩ : ∃ z, mX5_isIn atp 0 ((R 6 0) - 1) = z := ⟨_, rfl⟩
                have hE := zbnd_cut hE e232
                rw [e232] at hM233
                rw [e232] at pp234
                obtain ⟨hbr230, q235⟩ := pp234
                refine zi_callSI (pc := 64) (rest := []) (ws' := zWR G R) F hM233 (va_cwS 3 F.1.2.2.2.2 gX5_obstacleOf_X5_isIn rfl rfl rfl hd_X5_isIn.2 ⟨Nat.le_of_ble_eq_true rfl, Nat.le_of_ble_eq_true rfl⟩) [] (zWR G R) rfl rfl rfl rfl (Nat.le_of_ble_eq_true rfl) dX5_obstacleOf_64 ⟨Nat.zero_le _, Nat.zero_le _⟩ ?_
                refine zi_if_eq (pc := 67) (tgt := 74) F dX5_obstacleOf_67 (by decide) (fun c236 => ?_) (fun c236 => ?_)
                · have hE := zite_t hE c236
                  have t237 := congrArg Int32.toInt c236
                  refine zi_iconst (pc := 74) (v := 0) F dX5_obstacleOf_74 rfl ?_
                  subst hE
                  exact zi_sub [0, 1, 2] rfl hK
                · have hE := zite_f hE c236
                  have t238 := zt_ne c236
                  refine zi_iconst (pc := 70) (v := 1) F dX5_obstacleOf_70 rfl ?_
                  refine zi_goto (pc := 71) (tgt := 75) F dX5_obstacleOf_71 (by decide) ?_
                  subst hE
                  exact zi_sub [0, 1, 2] rfl hK
          refine hK214 ?_
          refine zi_istore_n (pc := 75) (lv' := [(0, .ref (G.2.2 6 0)), (1, .int its), (2, .int atp), (3, .int w186)]) F dX5_obstacleOf_75 (by decide) rfl ?_
          obtain ⟨w256, e257⟩ : ∃ z, mX5_obstacleOf_S76 its atp R = z := ⟨_, rfl⟩
          have hE := zbnd_cut hE e257
          have hQ258 : (Int32.toInt w256 = 0 ∨ ¬ Int32.toInt its = 13 ∨ (0 ≤ Int32.toInt atp ∧ Int32.toInt atp < Int32.toInt (R 12 0))) := by
            have hE := e257
            unfold mX5_obstacleOf_S76 at hE
            by_cases c259 : its = 13
            · have hE := zite_t hE c259
              have t260 := congrArg Int32.toInt c259
              try have t262 := zt_sub (a := (R 12 0)) (b := 1) (by omega) (by omega)
              have pp265 := pp_X5_isIn atp 0 ((R 12 0) - 1)  
              obtain ⟨r261, e263⟩ : ∃ z, mX5_isIn atp 0 ((R 12 0) - 1) = z := ⟨_, rfl⟩
              have hE := zbnd_cut hE e263
              rw [e263] at pp265
              obtain ⟨hbr261, q266⟩ := pp265
              by_cases c267 : r261 = 0
              · have hE := zite_t hE c267
                have t268 := congrArg Int32.toInt c267
                subst hE
                exact by (show Int32.toInt 0 = 0 ∨ ¬ Int32.toInt its = 13 ∨ (0 ≤ Int32.toInt atp ∧ Int32.toInt atp < Int32.toInt (R 12 0)); omega)
              · have hE := zite_f hE c267
                have t269 := zt_ne c267
                try have t270 := zt_sub (a := (R 12 0)) (b := 1) (by omega) (by omega)
                try have t271 := zt_sub (a := ((R 12 0) - 1)) (b := atp) (by omega) (by omega)
                by_cases c272 : (R 14 (((R 12 0) - 1) - atp).toNatClampNeg) = 0
                · have hE := zite_t hE c272
                  have t273 := congrArg Int32.toInt c272
                  subst hE
                  exact by (show Int32.toInt 1 = 0 ∨ ¬ Int32.toInt its = 13 ∨ (0 ≤ Int32.toInt atp ∧ Int32.toInt atp < Int32.toInt (R 12 0)); omega)
                · have hE := zite_f hE c272
                  have t274 := zt_ne c272
                  subst hE
                  exact by (show Int32.toInt 0 = 0 ∨ ¬ Int32.toInt its = 13 ∨ (0 ≤ Int32.toInt atp ∧ Int32.toInt atp < Int32.toInt (R 12 0)); omega)
            · have hE := zite_f hE c259
              have t275 := zt_ne c259
              subst hE
              exact by (show Int32.toInt 1 = 0 ∨ ¬ Int32.toInt its = 13 ∨ (0 ≤ Int32.toInt atp ∧ Int32.toInt atp < Int32.toInt (R 12 0)); omega)
          have i276 := hQ258
          have hK277 : zW p l e rmX5_obstacleOf s m args below meth c 0 0 Q G.1 A 5 (zWR G R) [(0, .ref (G.2.2 6 0)), (1, .int its), (2, .int atp), (3, .int w186)] 117 [.int w256] → zW p l e rmX5_obstacleOf s m args below meth c 0 0 Q G.1 A 5 (zWR G R) [(0, .ref (G.2.2 6 0)), (1, .int its), (2, .int atp), (3, .int w186)] 76 [] := by
            intro hK
            have hE := e257
            unfold mX5_obstacleOf_S76 at hE
            refine zi_iload_n (pc := 76) F dX5_obstacleOf_76 1 rfl ?_
            refine zi_bipush (pc := 77) (v := 13) F dX5_obstacleOf_77 rfl ?_
            refine zi_icmp_ne (pc := 79) (tgt := 112) F dX5_obstacleOf_79 (by decide) (fun c278 => ?_) (fun c278 => ?_)
            · have hE := zite_f hE c278
              have t279 := zt_ne c278
              refine zi_iconst (pc := 112) (v := 1) F dX5_obstacleOf_112 rfl ?_
              refine zi_goto (pc := 113) (tgt := 117) F dX5_obstacleOf_113 (by decide) ?_
              subst hE
              exact zi_sub [0, 1, 2, 3] rfl hK
            · have hE := zite_t hE c278
              have t280 := congrArg Int32.toInt c278
              refine zi_iload_n (pc := 82) F dX5_obstacleOf_82 2 rfl ?_
              refine zi_iconst (pc := 83) (v := 0) F dX5_obstacleOf_83 rfl ?_
              refine zi_aload_n (pc := 84) F dX5_obstacleOf_84 0 rfl ?_
              refine zi_get (pc := 85) (C := RX5) (T := TX5) (N := 27) (v := .int (R 12 0)) F (hw_X5_obstacleOf_X5) 0 rfl rfl 12 (by decide) (List.mem_of_getElem? (i := 1) rfl) rfl rfl dX5_obstacleOf_85 ?_
              refine zi_iconst (pc := 88) (v := 1) F dX5_obstacleOf_88 rfl ?_
              refine zi_isub (pc := 89) F dX5_obstacleOf_89 ?_
              try have t282 := zt_sub (a := (R 12 0)) (b := 1) (by omega) (by omega)
              have hM284 := c_X5_isIn l G atp 0 ((R 12 0) - 1)  
              have pp285 := pp_X5_isIn atp 0 ((R 12 0) - 1)  
              obtain ⟨r281, e283⟩ : ∃ z, mX5_isIn atp 0 ((R 12 0) - 1) = z := ⟨_, rfl⟩
              have hE := zbnd_cut hE e283
              rw [e283] at hM284
              rw [e283] at pp285
              obtain ⟨hbr281, q286⟩ := pp285
              refine zi_callSI (pc := 90) (rest := []) (ws' := zWR G R) F hM284 (va_cwS 3 F.1.2.2.2.2 gX5_obstacleOf_X5_isIn rfl rfl rfl hd_X5_isIn.2 ⟨Nat.le_of_ble_eq_true rfl, Nat.le_of_ble_eq_true rfl⟩) [] (zWR G R) rfl rfl rfl rfl (Nat.le_of_ble_eq_true rfl) dX5_obstacleOf_90 ⟨Nat.zero_le _, Nat.zero_le _⟩ ?_
              refine zi_if_eq (pc := 93) (tgt := 116) F dX5_obstacleOf_93 (by decide) (fun c287 => ?_) (fun c287 => ?_)
              · have hE := zite_t hE c287
                have t288 := congrArg Int32.toInt c287
                refine zi_iconst (pc := 116) (v := 0) F dX5_obstacleOf_116 rfl ?_
                subst hE
                exact zi_sub [0, 1, 2, 3] rfl hK
              · have hE := zite_f hE c287
                have t289 := zt_ne c287
                refine zi_aload_n (pc := 96) F dX5_obstacleOf_96 0 rfl ?_
                refine zi_get (pc := 97) (C := RX5) (T := TX5) (N := 27) (v := .ref (G.2.2 6 7)) F (hw_X5_obstacleOf_X5) 0 rfl rfl 14 (by decide) (List.mem_of_getElem? (i := 6) rfl) rfl rfl dX5_obstacleOf_97 ?_
                refine zi_aload_n (pc := 100) F dX5_obstacleOf_100 0 rfl ?_
                refine zi_get (pc := 101) (C := RX5) (T := TX5) (N := 27) (v := .int (R 12 0)) F (hw_X5_obstacleOf_X5) 0 rfl rfl 12 (by decide) (List.mem_of_getElem? (i := 1) rfl) rfl rfl dX5_obstacleOf_101 ?_
                refine zi_iconst (pc := 104) (v := 1) F dX5_obstacleOf_104 rfl ?_
                refine zi_isub (pc := 105) F dX5_obstacleOf_105 ?_
                refine zi_iload_n (pc := 106) F dX5_obstacleOf_106 2 rfl ?_
                refine zi_isub (pc := 107) F dX5_obstacleOf_107 ?_
                try have t290 := zt_sub (a := (R 12 0)) (b := 1) (by omega) (by omega)
                try have t291 := zt_sub (a := ((R 12 0) - 1)) (b := atp) (by omega) (by omega)
                refine zi_zald (pc := 108) (v := (R 14 (((R 12 0) - 1) - atp).toNatClampNeg)) F 7 1 rfl rfl (zin (a := (((R 12 0) - 1) - atp)) (by omega) (by omega)) rfl dX5_obstacleOf_108 ?_
                refine zi_if_ne (pc := 109) (tgt := 116) F dX5_obstacleOf_109 (by decide) (fun c292 => ?_) (fun c292 => ?_)
                · have hE := zite_f hE c292
                  have t293 := zt_ne c292
                  refine zi_iconst (pc := 116) (v := 0) F dX5_obstacleOf_116 rfl ?_
                  subst hE
                  exact zi_sub [0, 1, 2, 3] rfl hK
                · have hE := zite_t hE c292
                  have t294 := congrArg Int32.toInt c292
                  refine zi_iconst (pc := 112) (v := 1) F dX5_obstacleOf_112 rfl ?_
                  refine zi_goto (pc := 113) (tgt := 117) F dX5_obstacleOf_113 (by decide) ?_
                  subst hE
                  exact zi_sub [0, 1, 2, 3] rfl hK
          refine hK277 ?_
          refine zi_istore (pc := 117) (lv' := [(0, .ref (G.2.2 6 0)), (1, .int its), (2, .int atp), (3, .int w186), (4, .int w256)]) F dX5_obstacleOf_117 (by decide) rfl ?_
          refine zi_iload_n (pc := 119) F dX5_obstacleOf_119 3 rfl ?_
          refine zi_if_eq (pc := 120) (tgt := 128) F dX5_obstacleOf_120 (by decide) (fun c295 => ?_) (fun c295 => ?_)
          · have hE := zite_t hE c295
            have t296 := congrArg Int32.toInt c295
            refine zi_iconst (pc := 128) (v := 3) F dX5_obstacleOf_128 rfl ?_
            refine zi_goto (pc := 129) (tgt := 146) F dX5_obstacleOf_129 (by decide) ?_
            subst hE
            exact hret _ _ dX5_obstacleOf_146
          · have hE := zite_f hE c295
            have t297 := zt_ne c295
            refine zi_iload (pc := 123) F dX5_obstacleOf_123 4 rfl ?_
            refine zi_if_ne (pc := 125) (tgt := 132) F dX5_obstacleOf_125 (by decide) (fun c298 => ?_) (fun c298 => ?_)
            · have hE := zite_f hE c298
              have t299 := zt_ne c298
              refine zi_aload_n (pc := 132) F dX5_obstacleOf_132 0 rfl ?_
              refine zi_get (pc := 133) (C := RX5) (T := TX5) (N := 27) (v := .int (R 12 0)) F (hw_X5_obstacleOf_X5) 0 rfl rfl 12 (by decide) (List.mem_of_getElem? (i := 1) rfl) rfl rfl dX5_obstacleOf_133 ?_
              refine zi_bipush (pc := 136) (v := 12) F dX5_obstacleOf_136 rfl ?_
              refine zi_icmp_ne (pc := 138) (tgt := 145) F dX5_obstacleOf_138 (by decide) (fun c300 => ?_) (fun c300 => ?_)
              · have hE := zite_f hE c300
                have t301 := zt_ne c300
                refine zi_iconst (pc := 145) (v := 0) F dX5_obstacleOf_145 rfl ?_
                subst hE
                exact hret _ _ dX5_obstacleOf_146
              · have hE := zite_t hE c300
                have t302 := congrArg Int32.toInt c300
                refine zi_iconst (pc := 141) (v := 4) F dX5_obstacleOf_141 rfl ?_
                refine zi_goto (pc := 142) (tgt := 146) F dX5_obstacleOf_142 (by decide) ?_
                subst hE
                exact hret _ _ dX5_obstacleOf_146
            · have hE := zite_t hE c298
              have t303 := congrArg Int32.toInt c298
              refine zi_iconst (pc := 128) (v := 3) F dX5_obstacleOf_128 rfl ?_
              refine zi_goto (pc := 129) (tgt := 146) F dX5_obstacleOf_129 (by decide) ?_
              subst hE
              exact hret _ _ dX5_obstacleOf_146
        · have hE := zite_f hE c160
          have t304 := zt_nle c160
          refine zi_iconst (pc := 42) (v := 2) F dX5_obstacleOf_42 rfl ?_
          subst hE
          exact hret _ _ dX5_obstacleOf_43
      · have hE := zite_f hE c155
        have t305 := zt_ne c155
        refine zi_iconst (pc := 24) (v := 1) F dX5_obstacleOf_24 rfl ?_
        subst hE
        exact hret _ _ dX5_obstacleOf_25
