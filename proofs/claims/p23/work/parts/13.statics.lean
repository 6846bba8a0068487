/-! X4_nextPlayer -/
def mX4_nextPlayer (player : Int32)  : Int32 := if 3 ≤ (player + 1) then 0 else (player + 1)
abbrev rmX4_nextPlayer : Room := { frames := 0, cells := 0, slots := 0, locals := 0 }
theorem hd_X4_nextPlayer : yX4_nextPlayer.cls = RX4 ∧ yX4_nextPlayer.cls ≠ "java/lang/invoke/MethodHandle" ∧ yX4_nextPlayer.cls ≠ "java/lang/invoke/VarHandle" ∧ (parseMethodDescriptor yX4_nextPlayer.desc).map (fun d => d.parameters.length) = some 1 := by decide +kernel
set_option maxHeartbeats 4000000 in
set_option maxRecDepth 100000 in
theorem c_X4_nextPlayer (l : Launch) (G : zG_t) (player : Int32)   : zCI l G.1 (zty G) yX4_nextPlayer wsX4_nextPlayer rmX4_nextPlayer [.int player] ([]) ((mX4_nextPlayer player)) ([]) := by
  obtain ⟨X, hE⟩ : ∃ z, mX4_nextPlayer player = z := ⟨_, rfl⟩
  rw [hE]
  refine zb_I (cc := cX4_nextPlayer) (maxL := 1) (by decide) rfl (Nat.le_of_ble_eq_true rfl) ?_
  intro p e s m args below meth c Q A F hret
  show zW p l e rmX4_nextPlayer s m args below meth c 0 0 Q G.1 A 1 ([]) [(0, .int player)] 0 []
  have k_0 : Int32.toInt 0 = 0 := by decide
  have k_1 : Int32.toInt 1 = 1 := by decide
  have k_3 : Int32.toInt 3 = 3 := by decide
  unfold mX4_nextPlayer at hE
  refine zi_iload_n (pc := 0) F dX4_nextPlayer_0 0 rfl ?_
  refine zi_iconst (pc := 1) (v := 1) F dX4_nextPlayer_1 rfl ?_
  refine zi_iadd (pc := 2) F dX4_nextPlayer_2 ?_
  refine zi_iconst (pc := 3) (v := 3) F dX4_nextPlayer_3 rfl ?_
  refine zi_icmp_ge (pc := 4) (tgt := 13) F dX4_nextPlayer_4 (by decide) (fun c1 => ?_) (fun c1 => ?_)
  · have hE := zite_t hE c1
    try have t2 := zt_add (a := player) (b := 1) (by omega) (by omega)
    have t3 := zt_le c1
    refine zi_iconst (pc := 13) (v := 0) F dX4_nextPlayer_13 rfl ?_
    subst hE
    exact hret _ _ dX4_nextPlayer_14
  · have hE := zite_f hE c1
    try have t4 := zt_add (a := player) (b := 1) (by omega) (by omega)
    have t5 := zt_nle c1
    refine zi_iload_n (pc := 7) F dX4_nextPlayer_7 0 rfl ?_
    refine zi_iconst (pc := 8) (v := 1) F dX4_nextPlayer_8 rfl ?_
    refine zi_iadd (pc := 9) F dX4_nextPlayer_9 ?_
    refine zi_goto (pc := 10) (tgt := 14) F dX4_nextPlayer_10 (by decide) ?_
    subst hE
    exact hret _ _ dX4_nextPlayer_14
/-! X4_costOf -/
def mX4_costOf (card : Int32)  : Int32 := if card < 0 then 0 else (if 14 ≤ card then 0 else (zCost.getD card.toNatClampNeg 0))
abbrev rmX4_costOf : Room := { frames := 0, cells := 0, slots := 0, locals := 0 }
theorem hd_X4_costOf : yX4_costOf.cls = RX4 ∧ yX4_costOf.cls ≠ "java/lang/invoke/MethodHandle" ∧ yX4_costOf.cls ≠ "java/lang/invoke/VarHandle" ∧ (parseMethodDescriptor yX4_costOf.desc).map (fun d => d.parameters.length) = some 1 := by decide +kernel
set_option maxHeartbeats 4000000 in
set_option maxRecDepth 100000 in
theorem c_X4_costOf (l : Launch) (G : zG_t) (card : Int32)   : zCI l G.1 (zty G) yX4_costOf wsX4_costOf rmX4_costOf [.int card] ([]) ((mX4_costOf card)) ([]) := by
  obtain ⟨X, hE⟩ : ∃ z, mX4_costOf card = z := ⟨_, rfl⟩
  rw [hE]
  refine zb_I (cc := cX4_costOf) (maxL := 1) (by decide) rfl (Nat.le_of_ble_eq_true rfl) ?_
  intro p e s m args below meth c Q A F hret
  show zW p l e rmX4_costOf s m args below meth c 0 0 Q G.1 A 1 ([]) [(0, .int card)] 0 []
  have k_0 : Int32.toInt 0 = 0 := by decide
  have k_1 : Int32.toInt 1 = 1 := by decide
  have k_14 : Int32.toInt 14 = 14 := by decide
  unfold mX4_costOf at hE
  refine zi_iload_n (pc := 0) F dX4_costOf_0 0 rfl ?_
  refine zi_if_lt (pc := 1) (tgt := 18) F dX4_costOf_1 (by decide) (fun c1 => ?_) (fun c1 => ?_)
  · have hE := zite_t hE c1
    have t2 := zt_lt c1
    refine zi_iconst (pc := 18) (v := 0) F dX4_costOf_18 rfl ?_
    subst hE
    exact hret _ _ dX4_costOf_19
  · have hE := zite_f hE c1
    have t3 := zt_nlt c1
    refine zi_iload_n (pc := 4) F dX4_costOf_4 0 rfl ?_
    refine zi_bipush (pc := 5) (v := 14) F dX4_costOf_5 rfl ?_
    refine zi_icmp_ge (pc := 7) (tgt := 18) F dX4_costOf_7 (by decide) (fun c4 => ?_) (fun c4 => ?_)
    · have hE := zite_t hE c4
      have t5 := zt_le c4
      refine zi_iconst (pc := 18) (v := 0) F dX4_costOf_18 rfl ?_
      subst hE
      exact hret _ _ dX4_costOf_19
    · have hE := zite_f hE c4
      have t6 := zt_nle c4
      refine zi_tab (pc := 10) F F.2.2.2.1 (List.mem_of_getElem? (i := 1) rfl) 0 rfl (zin (a := card) (by omega) (by omega)) dX4_costOf_10 dX4_costOf_13 dX4_costOf_14 ?_
      refine zi_goto (pc := 15) (tgt := 19) F dX4_costOf_15 (by decide) ?_
      subst hE
      exact hret _ _ dX4_costOf_19
/-! X4_layerOf -/
def mX4_layerOf (card : Int32)  : Int32 := if card < 0 then 0 else (if 14 ≤ card then 0 else (zLayer.getD card.toNatClampNeg 0))
abbrev rmX4_layerOf : Room := { frames := 0, cells := 0, slots := 0, locals := 0 }
theorem hd_X4_layerOf : yX4_layerOf.cls = RX4 ∧ yX4_layerOf.cls ≠ "java/lang/invoke/MethodHandle" ∧ yX4_layerOf.cls ≠ "java/lang/invoke/VarHandle" ∧ (parseMethodDescriptor yX4_layerOf.desc).map (fun d => d.parameters.length) = some 1 := by decide +kernel
set_option maxHeartbeats 4000000 in
set_option maxRecDepth 100000 in
theorem c_X4_layerOf (l : Launch) (G : zG_t) (card : Int32)   : zCI l G.1 (zty G) yX4_layerOf wsX4_layerOf rmX4_layerOf [.int card] ([]) ((mX4_layerOf card)) ([]) := by
  obtain ⟨X, hE⟩ : ∃ z, mX4_layerOf card = z := ⟨_, rfl⟩
  rw [hE]
  refine zb_I (cc := cX4_layerOf) (maxL := 1) (by decide) rfl (Nat.le_of_ble_eq_true rfl) ?_
  intro p e s m args below meth c Q A F hret
  show zW p l e rmX4_layerOf s m args below meth c 0 0 Q G.1 A 1 ([]) [(0, .int card)] 0 []
  have k_0 : Int32.toInt 0 = 0 := by decide
  have k_1 : Int32.toInt 1 = 1 := by decide
  have k_14 : Int32.toInt 14 = 14 := by decide
  unfold mX4_layerOf at hE
  refine zi_iload_n (pc := 0) F dX4_layerOf_0 0 rfl ?_
  refine zi_if_lt (pc := 1) (tgt := 18) F dX4_layerOf_1 (by decide) (fun c1 => ?_) (fun c1 => ?_)
  · have hE := zite_t hE c1
    have t2 := zt_lt c1
    refine zi_iconst (pc := 18) (v := 0) F dX4_layerOf_18 rfl ?_
    subst hE
    exact hret _ _ dX4_layerOf_19
  · have hE := zite_f hE c1
    have t3 := zt_nlt c1
    refine zi_iload_n (pc := 4) F dX4_layerOf_4 0 rfl ?_
    refine zi_bipush (pc := 5) (v := 14) F dX4_layerOf_5 rfl ?_
    refine zi_icmp_ge (pc := 7) (tgt := 18) F dX4_layerOf_7 (by decide) (fun c4 => ?_) (fun c4 => ?_)
    · have hE := zite_t hE c4
      have t5 := zt_le c4
      refine zi_iconst (pc := 18) (v := 0) F dX4_layerOf_18 rfl ?_
      subst hE
      exact hret _ _ dX4_layerOf_19
    · have hE := zite_f hE c4
      have t6 := zt_nle c4
      refine zi_tab (pc := 10) F F.2.2.2.2.1 (List.mem_of_getElem? (i := 1) rfl) 0 rfl (zin (a := card) (by omega) (by omega)) dX4_layerOf_10 dX4_layerOf_13 dX4_layerOf_14 ?_
      refine zi_goto (pc := 15) (tgt := 19) F dX4_layerOf_15 (by decide) ?_
      subst hE
      exact hret _ _ dX4_layerOf_19
/-! X4_isThing -/
def mX4_isThing (card : Int32)  : Int32 := if 12 ≤ card then 0 else 1
set_option maxHeartbeats 4000000 in
set_option maxRecDepth 100000 in
theorem pp_X4_isThing (card : Int32)   : ((mX4_isThing card) = 0 ∨ (mX4_isThing card) = 1) := by
  obtain ⟨X, hE⟩ : ∃ z, mX4_isThing card = z := ⟨_, rfl⟩
  rw [hE]
  have k_0 : Int32.toInt 0 = 0 := by decide
  have k_1 : Int32.toInt 1 = 1 := by decide
  have k_12 : Int32.toInt 12 = 12 := by decide
  unfold mX4_isThing at hE
  by_cases c1 : 12 ≤ card
  · have hE := zite_t hE c1
    have t2 := zt_le c1
    subst hE
    exact Or.inl rfl
  · have hE := zite_f hE c1
    have t3 := zt_nle c1
    subst hE
    exact Or.inr rfl
abbrev rmX4_isThing : Room := { frames := 0, cells := 0, slots := 0, locals := 0 }
theorem hd_X4_isThing : yX4_isThing.cls = RX4 ∧ yX4_isThing.cls ≠ "java/lang/invoke/MethodHandle" ∧ yX4_isThing.cls ≠ "java/lang/invoke/VarHandle" ∧ (parseMethodDescriptor yX4_isThing.desc).map (fun d => d.parameters.length) = some 1 := by decide +kernel
set_option maxHeartbeats 4000000 in
set_option maxRecDepth 100000 in
theorem c_X4_isThing (l : Launch) (G : zG_t) (card : Int32)   : zCI l G.1 (zty G) yX4_isThing wsX4_isThing rmX4_isThing [.int card] ([]) ((mX4_isThing card)) ([]) := by
  obtain ⟨X, hE⟩ : ∃ z, mX4_isThing card = z := ⟨_, rfl⟩
  rw [hE]
  refine zb_Z (cc := cX4_isThing) (maxL := 1) (by decide) rfl (Nat.le_of_ble_eq_true rfl) ?_
  intro p e s m args below meth c Q A F hret
  show zW p l e rmX4_isThing s m args below meth c 0 0 Q G.1 A 1 ([]) [(0, .int card)] 0 []
  have k_0 : Int32.toInt 0 = 0 := by decide
  have k_1 : Int32.toInt 1 = 1 := by decide
  have k_12 : Int32.toInt 12 = 12 := by decide
  unfold mX4_isThing at hE
  refine zi_iload_n (pc := 0) F dX4_isThing_0 0 rfl ?_
  refine zi_bipush (pc := 1) (v := 12) F dX4_isThing_1 rfl ?_
  refine zi_icmp_ge (pc := 3) (tgt := 10) F dX4_isThing_3 (by decide) (fun c1 => ?_) (fun c1 => ?_)
  · have hE := zite_t hE c1
    have t2 := zt_le c1
    refine zi_iconst (pc := 10) (v := 0) F dX4_isThing_10 rfl ?_
    subst hE
    exact hret _ _ dX4_isThing_11 (znb (Or.inl rfl))
  · have hE := zite_f hE c1
    have t3 := zt_nle c1
    refine zi_iconst (pc := 6) (v := 1) F dX4_isThing_6 rfl ?_
    refine zi_goto (pc := 7) (tgt := 11) F dX4_isThing_7 (by decide) ?_
    subst hE
    exact hret _ _ dX4_isThing_11 (znb (Or.inr rfl))
