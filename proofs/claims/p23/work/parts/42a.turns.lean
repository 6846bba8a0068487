set_option maxHeartbeats 4000000 in
set_option maxRecDepth 100000 in
theorem sg_turns_0 {p : Program} {l : Launch} {e : Env} {s : State} {m : MethodId} {args : Array Value} {below : List Frame} {meth : Method} {c : Code} {Q : State → Prop} {A : Nat → Prop} {G : zG_t} (hfl : l.stackTraces = false) (F : zF p m c cL_turns 1 s args wsL_turns RL G.1 (zty G) A) (hsx : zSx s) (hao : zAOA s) (kk : zW p l e rmL_turns s m args below meth c 137 1659 Q G.1 A 1 (zWL G (zd dL0_) (zd dT0_) (zd dE0_) (zd dV0_) (zd dM0_) (zd dK0_)) [(0, .ref (G.2.2 0 0))] 86 []) : zW p l e rmL_turns s m args below meth c 62 1209 Q G.1 A 1 (zWL G (zd dL0_) (zd dT0_) (zd dE0_) (zd dV0_) (zd dM0_) (zd dK0_)) [(0, .ref (G.2.2 0 0))] 8 [] := by
  refine zi_aload_n (pc := 8) F dL_turns_8 0 rfl ?_
  refine zr_turn (pc := 9) hfl F hsx ev0_  (cwV 0 F.1.2.2.2.2 gL_turns_X4_turn rfl rfl rfl hd_X4_turn ⟨Nat.le_of_ble_eq_true rfl, Nat.le_of_ble_eq_true rfl⟩) (Nat.le_of_ble_eq_true rfl) dL_turns_9 ⟨Nat.le_of_ble_eq_true rfl, Nat.le_of_ble_eq_true rfl⟩ ?_
  show zW p l e rmL_turns s m args below meth c 62 1209 Q G.1 A 1 (zWL G (zd dL0_) (zd dT0_) (zd dE0_) (zd dV0_) (zd dM0_) (zd dK0_)) [(0, .ref (G.2.2 0 0))] 12 [.int 0]
  refine zi_if_ne (pc := 12) (tgt := 186) F dL_turns_12 (by decide) (fun h => absurd h (by decide)) (fun _ => ?_)
  refine zi_aload_n (pc := 15) F dL_turns_15 0 rfl ?_
  refine zr_acting (pc := 16) hfl F hsx ev1_  (cwV 0 F.1.2.2.2.2 gL_turns_X4_acting rfl rfl rfl hd_X4_acting ⟨Nat.le_of_ble_eq_true rfl, Nat.le_of_ble_eq_true rfl⟩) (Nat.le_of_ble_eq_true rfl) dL_turns_16 ⟨Nat.le_of_ble_eq_true rfl, Nat.le_of_ble_eq_true rfl⟩ ?_
  show zW p l e rmL_turns s m args below meth c 62 1209 Q G.1 A 1 (zWL G (zd dL0_) (zd dT0_) (zd dE0_) (zd dV0_) (zd dM0_) (zd dK0_)) [(0, .ref (G.2.2 0 0))] 19 [.int 0]
  refine zi_if_ne (pc := 19) (tgt := 186) F dL_turns_19 (by decide) (fun h => absurd h (by decide)) (fun _ => ?_)
  refine zi_aload_n (pc := 22) F dL_turns_22 0 rfl ?_
  refine zr_rounds (pc := 23) hfl F hsx ev2_  (cwV 0 F.1.2.2.2.2 gL_turns_X4_rounds rfl rfl rfl hd_X4_rounds ⟨Nat.le_of_ble_eq_true rfl, Nat.le_of_ble_eq_true rfl⟩) (Nat.le_of_ble_eq_true rfl) dL_turns_23 ⟨Nat.le_of_ble_eq_true rfl, Nat.le_of_ble_eq_true rfl⟩ ?_
  show zW p l e rmL_turns s m args below meth c 62 1209 Q G.1 A 1 (zWL G (zd dL0_) (zd dT0_) (zd dE0_) (zd dV0_) (zd dM0_) (zd dK0_)) [(0, .ref (G.2.2 0 0))] 26 [.int 0]
  refine zi_if_ne (pc := 26) (tgt := 186) F dL_turns_26 (by decide) (fun h => absurd h (by decide)) (fun _ => ?_)
  refine zi_aload_n (pc := 29) F dL_turns_29 0 rfl ?_
  refine zr_loops (pc := 30) hfl F hsx ev3_  (cwV 0 F.1.2.2.2.2 gL_turns_X4_loops rfl rfl rfl hd_X4_loops ⟨Nat.le_of_ble_eq_true rfl, Nat.le_of_ble_eq_true rfl⟩) (Nat.le_of_ble_eq_true rfl) dL_turns_30 ⟨Nat.le_of_ble_eq_true rfl, Nat.le_of_ble_eq_true rfl⟩ ?_
  show zW p l e rmL_turns s m args below meth c 62 1209 Q G.1 A 1 (zWL G (zd dL0_) (zd dT0_) (zd dE0_) (zd dV0_) (zd dM0_) (zd dK0_)) [(0, .ref (G.2.2 0 0))] 33 [.int 0]
  refine zi_if_ne (pc := 33) (tgt := 186) F dL_turns_33 (by decide) (fun h => absurd h (by decide)) (fun _ => ?_)
  refine zi_aload_n (pc := 36) F dL_turns_36 0 rfl ?_
  refine zi_iconst (pc := 37) (v := 0) F dL_turns_37 rfl ?_
  refine zr_coins (pc := 38) hfl F hsx ev4_  (cwV 1 F.1.2.2.2.2 gL_turns_X4_coins rfl rfl rfl hd_X4_coins ⟨Nat.le_of_ble_eq_true rfl, Nat.le_of_ble_eq_true rfl⟩) (Nat.le_of_ble_eq_true rfl) dL_turns_38 ⟨Nat.le_of_ble_eq_true rfl, Nat.le_of_ble_eq_true rfl⟩ ?_
  show zW p l e rmL_turns s m args below meth c 63 1215 Q G.1 A 1 (zWL G (zd dL0_) (zd dT0_) (zd dE0_) (zd dV0_) (zd dM0_) (zd dK0_)) [(0, .ref (G.2.2 0 0))] 41 [.int 6]
  refine zi_bipush (pc := 41) (v := 6) F dL_turns_41 rfl ?_
  refine zi_icmp_ne (pc := 43) (tgt := 186) F dL_turns_43 (by decide) (fun h => absurd h (by decide)) (fun _ => ?_)
  refine zi_aload_n (pc := 46) F dL_turns_46 0 rfl ?_
  refine zi_iconst (pc := 47) (v := 2) F dL_turns_47 rfl ?_
  refine zr_coins (pc := 48) hfl F hsx ev5_  (cwV 1 F.1.2.2.2.2 gL_turns_X4_coins rfl rfl rfl hd_X4_coins ⟨Nat.le_of_ble_eq_true rfl, Nat.le_of_ble_eq_true rfl⟩) (Nat.le_of_ble_eq_true rfl) dL_turns_48 ⟨Nat.le_of_ble_eq_true rfl, Nat.le_of_ble_eq_true rfl⟩ ?_
  show zW p l e rmL_turns s m args below meth c 64 1221 Q G.1 A 1 (zWL G (zd dL0_) (zd dT0_) (zd dE0_) (zd dV0_) (zd dM0_) (zd dK0_)) [(0, .ref (G.2.2 0 0))] 51 [.int 6]
  refine zi_bipush (pc := 51) (v := 6) F dL_turns_51 rfl ?_
  refine zi_icmp_ne (pc := 53) (tgt := 186) F dL_turns_53 (by decide) (fun h => absurd h (by decide)) (fun _ => ?_)
  refine zi_aload_n (pc := 56) F dL_turns_56 0 rfl ?_
  refine zr_things (pc := 57) hfl F hsx ev6_  (cwV 0 F.1.2.2.2.2 gL_turns_X4_things rfl rfl rfl hd_X4_things ⟨Nat.le_of_ble_eq_true rfl, Nat.le_of_ble_eq_true rfl⟩) (Nat.le_of_ble_eq_true rfl) dL_turns_57 ⟨Nat.le_of_ble_eq_true rfl, Nat.le_of_ble_eq_true rfl⟩ ?_
  show zW p l e rmL_turns s m args below meth c 64 1221 Q G.1 A 1 (zWL G (zd dL0_) (zd dT0_) (zd dE0_) (zd dV0_) (zd dM0_) (zd dK0_)) [(0, .ref (G.2.2 0 0))] 60 [.int 0]
  refine zi_if_ne (pc := 60) (tgt := 186) F dL_turns_60 (by decide) (fun h => absurd h (by decide)) (fun _ => ?_)
  refine zi_aload_n (pc := 63) F dL_turns_63 0 rfl ?_
  refine zr_stack (pc := 64) hfl F hsx ev7_  (cwV 0 F.1.2.2.2.2 gL_turns_X4_stack rfl rfl rfl hd_X4_stack ⟨Nat.le_of_ble_eq_true rfl, Nat.le_of_ble_eq_true rfl⟩) (Nat.le_of_ble_eq_true rfl) dL_turns_64 ⟨Nat.le_of_ble_eq_true rfl, Nat.le_of_ble_eq_true rfl⟩ ?_
  show zW p l e rmL_turns s m args below meth c 64 1221 Q G.1 A 1 (zWL G (zd dL0_) (zd dT0_) (zd dE0_) (zd dV0_) (zd dM0_) (zd dK0_)) [(0, .ref (G.2.2 0 0))] 67 [.int 0]
  refine zi_if_ne (pc := 67) (tgt := 186) F dL_turns_67 (by decide) (fun h => absurd h (by decide)) (fun _ => ?_)
  refine zi_aload_n (pc := 70) F dL_turns_70 0 rfl ?_
  refine zi_bipush (pc := 71) (v := 60) F dL_turns_71 rfl ?_
  refine zr_settle (pc := 73) hfl F hsx ev8_ okdT0_ okdE0_ okdM0_ (cwV 1 F.1.2.2.2.2 gL_turns_X4_settle rfl rfl rfl hd_X4_settle ⟨Nat.le_of_ble_eq_true rfl, Nat.le_of_ble_eq_true rfl⟩) (Nat.le_of_ble_eq_true rfl) dL_turns_73 ⟨Nat.le_of_ble_eq_true rfl, Nat.le_of_ble_eq_true rfl⟩ ?_
  show zW p l e rmL_turns s m args below meth c 65 1227 Q G.1 A 1 (zWL G (zd dL0_) (zd dT0_) (zd dE0_) (zd dV0_) (zd dM0_) (zd dK0_)) [(0, .ref (G.2.2 0 0))] 76 [.int 0]
  refine zi_if_ne (pc := 76) (tgt := 186) F dL_turns_76 (by decide) (fun h => absurd h (by decide)) (fun _ => ?_)
  refine zi_aload_n (pc := 79) F dL_turns_79 0 rfl ?_
  refine zi_callQI (pc := 80) (rest := []) (ws' := zWL G (zd dL0_) (zd dT0_) (zd dE0_) (zd dV0_) (zd dM0_) (zd dK0_)) F hsx hao (c_L_refuses l hfl G (zd dL0_) (zd dT0_) (zd dE0_) (zd dV0_) (zd dM0_) (zd dK0_) okdT0_ okdE0_ okdM0_) (va_cwS 1 F.1.2.2.2.2 gL_turns_L_refuses rfl rfl rfl hd_L_refuses ⟨Nat.le_of_ble_eq_true rfl, Nat.le_of_ble_eq_true rfl⟩) [] [] (zw_nil _) (zw_nil _).symm rfl rfl (Nat.le_of_ble_eq_true rfl) dL_turns_80 ⟨Nat.le_of_ble_eq_true rfl, Nat.le_of_ble_eq_true rfl⟩ ?_
  show zW p l e rmL_turns s m args below meth c 137 1659 Q G.1 A 1 (zWL G (zd dL0_) (zd dT0_) (zd dE0_) (zd dV0_) (zd dM0_) (zd dK0_)) [(0, .ref (G.2.2 0 0))] 83 [.int 1]
  refine zi_if_eq (pc := 83) (tgt := 186) F dL_turns_83 (by decide) (fun h => absurd h (by decide)) (fun _ => ?_)
  exact kk
set_option maxHeartbeats 4000000 in
set_option maxRecDepth 100000 in
theorem sg_turns_1 {p : Program} {l : Launch} {e : Env} {s : State} {m : MethodId} {args : Array Value} {below : List Frame} {meth : Method} {c : Code} {Q : State → Prop} {A : Nat → Prop} {G : zG_t} (hfl : l.stackTraces = false) (F : zF p m c cL_turns 1 s args wsL_turns RL G.1 (zty G) A) (hsx : zSx s) (hao : zAOA s) (kk : zW p l e rmL_turns s m args below meth c 146 1713 Q G.1 A 1 (zWL G (zd dL1_) (zd dT0_) (zd dE1_) (zd dV0_) (zd dM0_) (zd dK0_)) [(0, .ref (G.2.2 0 0))] 179 []) : zW p l e rmL_turns s m args below meth c 137 1659 Q G.1 A 1 (zWL G (zd dL0_) (zd dT0_) (zd dE0_) (zd dV0_) (zd dM0_) (zd dK0_)) [(0, .ref (G.2.2 0 0))] 86 [] := by
  refine zi_aload_n (pc := 86) F dL_turns_86 0 rfl ?_
  refine zi_bipush (pc := 87) (v := 7) F dL_turns_87 rfl ?_
  refine zi_iconst (pc := 89) (v := 0) F dL_turns_89 rfl ?_
  refine zr_obstacle (pc := 90) hfl F hsx ev9_ okdE0_ (cwV 2 F.1.2.2.2.2 gL_turns_X4_obstacle rfl rfl rfl hd_X4_obstacle ⟨Nat.le_of_ble_eq_true rfl, Nat.le_of_ble_eq_true rfl⟩) (Nat.le_of_ble_eq_true rfl) dL_turns_90 ⟨Nat.le_of_ble_eq_true rfl, Nat.le_of_ble_eq_true rfl⟩ ?_
  show zW p l e rmL_turns s m args below meth c 138 1665 Q G.1 A 1 (zWL G (zd dL0_) (zd dT0_) (zd dE0_) (zd dV0_) (zd dM0_) (zd dK0_)) [(0, .ref (G.2.2 0 0))] 93 [.int 3]
  refine zi_iconst (pc := 93) (v := 3) F dL_turns_93 rfl ?_
  refine zi_icmp_ne (pc := 94) (tgt := 186) F dL_turns_94 (by decide) (fun h => absurd h (by decide)) (fun _ => ?_)
  refine zi_aload_n (pc := 97) F dL_turns_97 0 rfl ?_
  refine zi_bipush (pc := 98) (v := 13) F dL_turns_98 rfl ?_
  refine zi_iconst (pc := 100) (v := 0) F dL_turns_100 rfl ?_
  refine zr_obstacle (pc := 101) hfl F hsx ev10_ okdE0_ (cwV 2 F.1.2.2.2.2 gL_turns_X4_obstacle rfl rfl rfl hd_X4_obstacle ⟨Nat.le_of_ble_eq_true rfl, Nat.le_of_ble_eq_true rfl⟩) (Nat.le_of_ble_eq_true rfl) dL_turns_101 ⟨Nat.le_of_ble_eq_true rfl, Nat.le_of_ble_eq_true rfl⟩ ?_
  show zW p l e rmL_turns s m args below meth c 139 1671 Q G.1 A 1 (zWL G (zd dL0_) (zd dT0_) (zd dE0_) (zd dV0_) (zd dM0_) (zd dK0_)) [(0, .ref (G.2.2 0 0))] 104 [.int 3]
  refine zi_iconst (pc := 104) (v := 3) F dL_turns_104 rfl ?_
  refine zi_icmp_ne (pc := 105) (tgt := 186) F dL_turns_105 (by decide) (fun h => absurd h (by decide)) (fun _ => ?_)
  refine zi_aload_n (pc := 108) F dL_turns_108 0 rfl ?_
  refine zi_iconst (pc := 109) (v := 0) F dL_turns_109 rfl ?_
  refine zi_bipush (pc := 110) (v := 99) F dL_turns_110 rfl ?_
  refine zr_play (pc := 112) hfl F hsx ev11_ okdT0_ okdE0_ okdM0_ (cwV 2 F.1.2.2.2.2 gL_turns_X4_play rfl rfl rfl hd_X4_play ⟨Nat.le_of_ble_eq_true rfl, Nat.le_of_ble_eq_true rfl⟩) (Nat.le_of_ble_eq_true rfl) dL_turns_112 ⟨Nat.le_of_ble_eq_true rfl, Nat.le_of_ble_eq_true rfl⟩ ?_
  show zW p l e rmL_turns s m args below meth c 140 1677 Q G.1 A 1 (zWL G (zd dL1_) (zd dT0_) (zd dE1_) (zd dV0_) (zd dM0_) (zd dK0_)) [(0, .ref (G.2.2 0 0))] 115 [.int 1]
  refine zi_iconst (pc := 115) (v := 1) F dL_turns_115 rfl ?_
  refine zi_icmp_ne (pc := 116) (tgt := 186) F dL_turns_116 (by decide) (fun h => absurd h (by decide)) (fun _ => ?_)
  refine zi_aload_n (pc := 119) F dL_turns_119 0 rfl ?_
  refine zi_iconst (pc := 120) (v := 0) F dL_turns_120 rfl ?_
  refine zr_coins (pc := 121) hfl F hsx ev12_  (cwV 1 F.1.2.2.2.2 gL_turns_X4_coins rfl rfl rfl hd_X4_coins ⟨Nat.le_of_ble_eq_true rfl, Nat.le_of_ble_eq_true rfl⟩) (Nat.le_of_ble_eq_true rfl) dL_turns_121 ⟨Nat.le_of_ble_eq_true rfl, Nat.le_of_ble_eq_true rfl⟩ ?_
  show zW p l e rmL_turns s m args below meth c 141 1683 Q G.1 A 1 (zWL G (zd dL1_) (zd dT0_) (zd dE1_) (zd dV0_) (zd dM0_) (zd dK0_)) [(0, .ref (G.2.2 0 0))] 124 [.int 4]
  refine zi_iconst (pc := 124) (v := 4) F dL_turns_124 rfl ?_
  refine zi_icmp_ne (pc := 125) (tgt := 186) F dL_turns_125 (by decide) (fun h => absurd h (by decide)) (fun _ => ?_)
  refine zi_aload_n (pc := 128) F dL_turns_128 0 rfl ?_
  refine zr_acting (pc := 129) hfl F hsx ev13_  (cwV 0 F.1.2.2.2.2 gL_turns_X4_acting rfl rfl rfl hd_X4_acting ⟨Nat.le_of_ble_eq_true rfl, Nat.le_of_ble_eq_true rfl⟩) (Nat.le_of_ble_eq_true rfl) dL_turns_129 ⟨Nat.le_of_ble_eq_true rfl, Nat.le_of_ble_eq_true rfl⟩ ?_
  show zW p l e rmL_turns s m args below meth c 141 1683 Q G.1 A 1 (zWL G (zd dL1_) (zd dT0_) (zd dE1_) (zd dV0_) (zd dM0_) (zd dK0_)) [(0, .ref (G.2.2 0 0))] 132 [.int 1]
  refine zi_iconst (pc := 132) (v := 1) F dL_turns_132 rfl ?_
  refine zi_icmp_ne (pc := 133) (tgt := 186) F dL_turns_133 (by decide) (fun h => absurd h (by decide)) (fun _ => ?_)
  refine zi_aload_n (pc := 136) F dL_turns_136 0 rfl ?_
  refine zi_iconst (pc := 137) (v := 0) F dL_turns_137 rfl ?_
  refine zi_iconst (pc := 138) (v := 0) F dL_turns_138 rfl ?_
  refine zr_obstacle (pc := 139) hfl F hsx ev14_ okdE1_ (cwV 2 F.1.2.2.2.2 gL_turns_X4_obstacle rfl rfl rfl hd_X4_obstacle ⟨Nat.le_of_ble_eq_true rfl, Nat.le_of_ble_eq_true rfl⟩) (Nat.le_of_ble_eq_true rfl) dL_turns_139 ⟨Nat.le_of_ble_eq_true rfl, Nat.le_of_ble_eq_true rfl⟩ ?_
  show zW p l e rmL_turns s m args below meth c 142 1689 Q G.1 A 1 (zWL G (zd dL1_) (zd dT0_) (zd dE1_) (zd dV0_) (zd dM0_) (zd dK0_)) [(0, .ref (G.2.2 0 0))] 142 [.int 1]
  refine zi_iconst (pc := 142) (v := 1) F dL_turns_142 rfl ?_
  refine zi_icmp_ne (pc := 143) (tgt := 186) F dL_turns_143 (by decide) (fun h => absurd h (by decide)) (fun _ => ?_)
  refine zi_aload_n (pc := 146) F dL_turns_146 0 rfl ?_
  refine zi_iconst (pc := 147) (v := 0) F dL_turns_147 rfl ?_
  refine zr_entryCard (pc := 148) hfl F hsx ev15_ okdE1_ (cwV 1 F.1.2.2.2.2 gL_turns_X4_entryCard rfl rfl rfl hd_X4_entryCard ⟨Nat.le_of_ble_eq_true rfl, Nat.le_of_ble_eq_true rfl⟩) (Nat.le_of_ble_eq_true rfl) dL_turns_148 ⟨Nat.le_of_ble_eq_true rfl, Nat.le_of_ble_eq_true rfl⟩ ?_
  show zW p l e rmL_turns s m args below meth c 143 1695 Q G.1 A 1 (zWL G (zd dL1_) (zd dT0_) (zd dE1_) (zd dV0_) (zd dM0_) (zd dK0_)) [(0, .ref (G.2.2 0 0))] 151 [.int 0]
  refine zi_if_ne (pc := 151) (tgt := 186) F dL_turns_151 (by decide) (fun h => absurd h (by decide)) (fun _ => ?_)
  refine zi_aload_n (pc := 154) F dL_turns_154 0 rfl ?_
  refine zi_iconst (pc := 155) (v := 0) F dL_turns_155 rfl ?_
  refine zr_isTrigger (pc := 156) hfl F hsx ev16_ okdE1_ (cwV 1 F.1.2.2.2.2 gL_turns_X4_isTrigger rfl rfl rfl hd_X4_isTrigger ⟨Nat.le_of_ble_eq_true rfl, Nat.le_of_ble_eq_true rfl⟩) (Nat.le_of_ble_eq_true rfl) dL_turns_156 ⟨Nat.le_of_ble_eq_true rfl, Nat.le_of_ble_eq_true rfl⟩ ?_
  show zW p l e rmL_turns s m args below meth c 144 1701 Q G.1 A 1 (zWL G (zd dL1_) (zd dT0_) (zd dE1_) (zd dV0_) (zd dM0_) (zd dK0_)) [(0, .ref (G.2.2 0 0))] 159 [.int 0]
  refine zi_if_ne (pc := 159) (tgt := 186) F dL_turns_159 (by decide) (fun h => absurd h (by decide)) (fun _ => ?_)
  refine zi_aload_n (pc := 162) F dL_turns_162 0 rfl ?_
  refine zi_iconst (pc := 163) (v := 0) F dL_turns_163 rfl ?_
  refine zr_entryPlayer (pc := 164) hfl F hsx ev17_ okdE1_ (cwV 1 F.1.2.2.2.2 gL_turns_X4_entryPlayer rfl rfl rfl hd_X4_entryPlayer ⟨Nat.le_of_ble_eq_true rfl, Nat.le_of_ble_eq_true rfl⟩) (Nat.le_of_ble_eq_true rfl) dL_turns_164 ⟨Nat.le_of_ble_eq_true rfl, Nat.le_of_ble_eq_true rfl⟩ ?_
  show zW p l e rmL_turns s m args below meth c 145 1707 Q G.1 A 1 (zWL G (zd dL1_) (zd dT0_) (zd dE1_) (zd dV0_) (zd dM0_) (zd dK0_)) [(0, .ref (G.2.2 0 0))] 167 [.int 0]
  refine zi_if_ne (pc := 167) (tgt := 186) F dL_turns_167 (by decide) (fun h => absurd h (by decide)) (fun _ => ?_)
  refine zi_aload_n (pc := 170) F dL_turns_170 0 rfl ?_
  refine zi_iconst (pc := 171) (v := 0) F dL_turns_171 rfl ?_
  refine zr_entryTarget (pc := 172) hfl F hsx ev18_ okdT0_ okdE1_ (cwV 1 F.1.2.2.2.2 gL_turns_X4_entryTarget rfl rfl rfl hd_X4_entryTarget ⟨Nat.le_of_ble_eq_true rfl, Nat.le_of_ble_eq_true rfl⟩) (Nat.le_of_ble_eq_true rfl) dL_turns_172 ⟨Nat.le_of_ble_eq_true rfl, Nat.le_of_ble_eq_true rfl⟩ ?_
  show zW p l e rmL_turns s m args below meth c 146 1713 Q G.1 A 1 (zWL G (zd dL1_) (zd dT0_) (zd dE1_) (zd dV0_) (zd dM0_) (zd dK0_)) [(0, .ref (G.2.2 0 0))] 175 [.int (-1)]
  refine zi_iconst (pc := 175) (v := (-1)) F dL_turns_175 rfl ?_
  refine zi_icmp_ne (pc := 176) (tgt := 186) F dL_turns_176 (by decide) (fun h => absurd h (by decide)) (fun _ => ?_)
  exact kk
set_option maxHeartbeats 4000000 in
set_option maxRecDepth 100000 in
theorem sg_turns_2 {p : Program} {l : Launch} {e : Env} {s : State} {m : MethodId} {args : Array Value} {below : List Frame} {meth : Method} {c : Code} {Q : State → Prop} {A : Nat → Prop} {G : zG_t} (hfl : l.stackTraces = false) (F : zF p m c cL_turns 1 s args wsL_turns RL G.1 (zty G) A) (hsx : zSx s) (hao : zAOA s) (kk : zW p l e rmL_turns s m args below meth c 148 1725 Q G.1 A 1 (zWL G (zd dL4_) (zd dT1_) (zd dE2_) (zd dV1_) (zd dM1_) (zd dK1_)) [(0, .ref (G.2.2 0 0))] 258 []) : zW p l e rmL_turns s m args below meth c 146 1713 Q G.1 A 1 (zWL G (zd dL1_) (zd dT0_) (zd dE1_) (zd dV0_) (zd dM0_) (zd dK0_)) [(0, .ref (G.2.2 0 0))] 179 [] := by
  refine zi_aload_n (pc := 179) F dL_turns_179 0 rfl ?_
  refine zr_things (pc := 180) hfl F hsx ev6_  (cwV 0 F.1.2.2.2.2 gL_turns_X4_things rfl rfl rfl hd_X4_things ⟨Nat.le_of_ble_eq_true rfl, Nat.le_of_ble_eq_true rfl⟩) (Nat.le_of_ble_eq_true rfl) dL_turns_180 ⟨Nat.le_of_ble_eq_true rfl, Nat.le_of_ble_eq_true rfl⟩ ?_
  show zW p l e rmL_turns s m args below meth c 146 1713 Q G.1 A 1 (zWL G (zd dL1_) (zd dT0_) (zd dE1_) (zd dV0_) (zd dM0_) (zd dK0_)) [(0, .ref (G.2.2 0 0))] 183 [.int 0]
  refine zi_if_eq (pc := 183) (tgt := 188) F dL_turns_183 (by decide) (fun _ => ?_) (fun h => absurd h (by decide))
  refine zi_aload_n (pc := 188) F dL_turns_188 0 rfl ?_
  refine zr_pass (pc := 189) hfl F hsx ev19_ okdT0_ okdE1_ okdM0_ (cwV 0 F.1.2.2.2.2 gL_turns_X4_pass rfl rfl rfl hd_X4_pass ⟨Nat.le_of_ble_eq_true rfl, Nat.le_of_ble_eq_true rfl⟩) (Nat.le_of_ble_eq_true rfl) dL_turns_189 ⟨Nat.le_of_ble_eq_true rfl, Nat.le_of_ble_eq_true rfl⟩ ?_
  show zW p l e rmL_turns s m args below meth c 146 1713 Q G.1 A 1 (zWL G (zd dL2_) (zd dT0_) (zd dE1_) (zd dV0_) (zd dM0_) (zd dK0_)) [(0, .ref (G.2.2 0 0))] 192 [.int 0]
  refine zi_if_ne (pc := 192) (tgt := 380) F dL_turns_192 (by decide) (fun h => absurd h (by decide)) (fun _ => ?_)
  refine zi_aload_n (pc := 195) F dL_turns_195 0 rfl ?_
  refine zr_acting (pc := 196) hfl F hsx ev20_  (cwV 0 F.1.2.2.2.2 gL_turns_X4_acting rfl rfl rfl hd_X4_acting ⟨Nat.le_of_ble_eq_true rfl, Nat.le_of_ble_eq_true rfl⟩) (Nat.le_of_ble_eq_true rfl) dL_turns_196 ⟨Nat.le_of_ble_eq_true rfl, Nat.le_of_ble_eq_true rfl⟩ ?_
  show zW p l e rmL_turns s m args below meth c 146 1713 Q G.1 A 1 (zWL G (zd dL2_) (zd dT0_) (zd dE1_) (zd dV0_) (zd dM0_) (zd dK0_)) [(0, .ref (G.2.2 0 0))] 199 [.int 2]
  refine zi_iconst (pc := 199) (v := 2) F dL_turns_199 rfl ?_
  refine zi_icmp_ne (pc := 200) (tgt := 380) F dL_turns_200 (by decide) (fun h => absurd h (by decide)) (fun _ => ?_)
  refine zi_aload_n (pc := 203) F dL_turns_203 0 rfl ?_
  refine zr_pass (pc := 204) hfl F hsx ev21_ okdT0_ okdE1_ okdM0_ (cwV 0 F.1.2.2.2.2 gL_turns_X4_pass rfl rfl rfl hd_X4_pass ⟨Nat.le_of_ble_eq_true rfl, Nat.le_of_ble_eq_true rfl⟩) (Nat.le_of_ble_eq_true rfl) dL_turns_204 ⟨Nat.le_of_ble_eq_true rfl, Nat.le_of_ble_eq_true rfl⟩ ?_
  show zW p l e rmL_turns s m args below meth c 146 1713 Q G.1 A 1 (zWL G (zd dL3_) (zd dT0_) (zd dE1_) (zd dV0_) (zd dM0_) (zd dK0_)) [(0, .ref (G.2.2 0 0))] 207 [.int 0]
  refine zi_if_ne (pc := 207) (tgt := 380) F dL_turns_207 (by decide) (fun h => absurd h (by decide)) (fun _ => ?_)
  refine zi_aload_n (pc := 210) F dL_turns_210 0 rfl ?_
  refine zr_acting (pc := 211) hfl F hsx ev22_  (cwV 0 F.1.2.2.2.2 gL_turns_X4_acting rfl rfl rfl hd_X4_acting ⟨Nat.le_of_ble_eq_true rfl, Nat.le_of_ble_eq_true rfl⟩) (Nat.le_of_ble_eq_true rfl) dL_turns_211 ⟨Nat.le_of_ble_eq_true rfl, Nat.le_of_ble_eq_true rfl⟩ ?_
  show zW p l e rmL_turns s m args below meth c 146 1713 Q G.1 A 1 (zWL G (zd dL3_) (zd dT0_) (zd dE1_) (zd dV0_) (zd dM0_) (zd dK0_)) [(0, .ref (G.2.2 0 0))] 214 [.int 0]
  refine zi_if_ne (pc := 214) (tgt := 380) F dL_turns_214 (by decide) (fun h => absurd h (by decide)) (fun _ => ?_)
  refine zi_aload_n (pc := 217) F dL_turns_217 0 rfl ?_
  refine zi_iconst (pc := 218) (v := 1) F dL_turns_218 rfl ?_
  refine zi_iconst (pc := 219) (v := 0) F dL_turns_219 rfl ?_
  refine zr_obstacle (pc := 220) hfl F hsx ev23_ okdE1_ (cwV 2 F.1.2.2.2.2 gL_turns_X4_obstacle rfl rfl rfl hd_X4_obstacle ⟨Nat.le_of_ble_eq_true rfl, Nat.le_of_ble_eq_true rfl⟩) (Nat.le_of_ble_eq_true rfl) dL_turns_220 ⟨Nat.le_of_ble_eq_true rfl, Nat.le_of_ble_eq_true rfl⟩ ?_
  show zW p l e rmL_turns s m args below meth c 147 1719 Q G.1 A 1 (zWL G (zd dL3_) (zd dT0_) (zd dE1_) (zd dV0_) (zd dM0_) (zd dK0_)) [(0, .ref (G.2.2 0 0))] 223 [.int 1]
  refine zi_iconst (pc := 223) (v := 1) F dL_turns_223 rfl ?_
  refine zi_icmp_ne (pc := 224) (tgt := 380) F dL_turns_224 (by decide) (fun h => absurd h (by decide)) (fun _ => ?_)
  refine zi_aload_n (pc := 227) F dL_turns_227 0 rfl ?_
  refine zr_pass (pc := 228) hfl F hsx ev24_ okdT0_ okdE1_ okdM0_ (cwV 0 F.1.2.2.2.2 gL_turns_X4_pass rfl rfl rfl hd_X4_pass ⟨Nat.le_of_ble_eq_true rfl, Nat.le_of_ble_eq_true rfl⟩) (Nat.le_of_ble_eq_true rfl) dL_turns_228 ⟨Nat.le_of_ble_eq_true rfl, Nat.le_of_ble_eq_true rfl⟩ ?_
  show zW p l e rmL_turns s m args below meth c 147 1719 Q G.1 A 1 (zWL G (zd dL4_) (zd dT1_) (zd dE2_) (zd dV1_) (zd dM1_) (zd dK1_)) [(0, .ref (G.2.2 0 0))] 231 [.int 1]
  refine zi_iconst (pc := 231) (v := 1) F dL_turns_231 rfl ?_
  refine zi_icmp_ne (pc := 232) (tgt := 380) F dL_turns_232 (by decide) (fun h => absurd h (by decide)) (fun _ => ?_)
  refine zi_aload_n (pc := 235) F dL_turns_235 0 rfl ?_
  refine zr_acting (pc := 236) hfl F hsx ev25_  (cwV 0 F.1.2.2.2.2 gL_turns_X4_acting rfl rfl rfl hd_X4_acting ⟨Nat.le_of_ble_eq_true rfl, Nat.le_of_ble_eq_true rfl⟩) (Nat.le_of_ble_eq_true rfl) dL_turns_236 ⟨Nat.le_of_ble_eq_true rfl, Nat.le_of_ble_eq_true rfl⟩ ?_
  show zW p l e rmL_turns s m args below meth c 147 1719 Q G.1 A 1 (zWL G (zd dL4_) (zd dT1_) (zd dE2_) (zd dV1_) (zd dM1_) (zd dK1_)) [(0, .ref (G.2.2 0 0))] 239 [.int 0]
  refine zi_if_ne (pc := 239) (tgt := 380) F dL_turns_239 (by decide) (fun h => absurd h (by decide)) (fun _ => ?_)
  refine zi_aload_n (pc := 242) F dL_turns_242 0 rfl ?_
  refine zr_things (pc := 243) hfl F hsx ev26_  (cwV 0 F.1.2.2.2.2 gL_turns_X4_things rfl rfl rfl hd_X4_things ⟨Nat.le_of_ble_eq_true rfl, Nat.le_of_ble_eq_true rfl⟩) (Nat.le_of_ble_eq_true rfl) dL_turns_243 ⟨Nat.le_of_ble_eq_true rfl, Nat.le_of_ble_eq_true rfl⟩ ?_
  show zW p l e rmL_turns s m args below meth c 147 1719 Q G.1 A 1 (zWL G (zd dL4_) (zd dT1_) (zd dE2_) (zd dV1_) (zd dM1_) (zd dK1_)) [(0, .ref (G.2.2 0 0))] 246 [.int 1]
  refine zi_iconst (pc := 246) (v := 1) F dL_turns_246 rfl ?_
  refine zi_icmp_ne (pc := 247) (tgt := 380) F dL_turns_247 (by decide) (fun h => absurd h (by decide)) (fun _ => ?_)
  refine zi_aload_n (pc := 250) F dL_turns_250 0 rfl ?_
  refine zi_iconst (pc := 251) (v := 0) F dL_turns_251 rfl ?_
  refine zr_cardOf (pc := 252) hfl F hsx ev27_ okdT1_ (cwV 1 F.1.2.2.2.2 gL_turns_X4_cardOf rfl rfl rfl hd_X4_cardOf ⟨Nat.le_of_ble_eq_true rfl, Nat.le_of_ble_eq_true rfl⟩) (Nat.le_of_ble_eq_true rfl) dL_turns_252 ⟨Nat.le_of_ble_eq_true rfl, Nat.le_of_ble_eq_true rfl⟩ ?_
  show zW p l e rmL_turns s m args below meth c 148 1725 Q G.1 A 1 (zWL G (zd dL4_) (zd dT1_) (zd dE2_) (zd dV1_) (zd dM1_) (zd dK1_)) [(0, .ref (G.2.2 0 0))] 255 [.int 0]
  refine zi_if_ne (pc := 255) (tgt := 380) F dL_turns_255 (by decide) (fun h => absurd h (by decide)) (fun _ => ?_)
  exact kk
set_option maxHeartbeats 4000000 in
set_option maxRecDepth 100000 in
theorem sg_turns_3 {p : Program} {l : Launch} {e : Env} {s : State} {m : MethodId} {args : Array Value} {below : List Frame} {meth : Method} {c : Code} {Q : State → Prop} {A : Nat → Prop} {G : zG_t} (hfl : l.stackTraces = false) (F : zF p m c cL_turns 1 s args wsL_turns RL G.1 (zty G) A) (hsx : zSx s) (hao : zAOA s) (kk : zW p l e rmL_turns s m args below meth c 166 1833 Q G.1 A 1 (zWL G (zd dL6_) (zd dT2_) (zd dE4_) (zd dV2_) (zd dM3_) (zd dK2_)) [(0, .ref (G.2.2 0 0))] 363 []) : zW p l e rmL_turns s m args below meth c 148 1725 Q G.1 A 1 (zWL G (zd dL4_) (zd dT1_) (zd dE2_) (zd dV1_) (zd dM1_) (zd dK1_)) [(0, .ref (G.2.2 0 0))] 258 [] := by
  refine zi_aload_n (pc := 258) F dL_turns_258 0 rfl ?_
  refine zi_iconst (pc := 259) (v := 0) F dL_turns_259 rfl ?_
  refine zi_iconst (pc := 260) (v := 0) F dL_turns_260 rfl ?_
  refine zi_iconst (pc := 261) (v := 0) F dL_turns_261 rfl ?_
  refine zi_iconst (pc := 262) (v := 1) F dL_turns_262 rfl ?_
  refine zi_iconst (pc := 263) (v := 2) F dL_turns_263 rfl ?_
  refine zi_callQI (pc := 264) (rest := []) (ws' := zWL G (zd dL4_) (zd dT1_) (zd dE2_) (zd dV1_) (zd dM1_) (zd dK1_)) F hsx hao (c_L_is l hfl G ev28_ ev29_ ev30_ okdT1_) (va_cwS 6 F.1.2.2.2.2 gL_turns_L_is rfl rfl rfl hd_L_is ⟨Nat.le_of_ble_eq_true rfl, Nat.le_of_ble_eq_true rfl⟩) [] [] (zw_nil _) (zw_nil _).symm rfl rfl (Nat.le_of_ble_eq_true rfl) dL_turns_264 ⟨Nat.le_of_ble_eq_true rfl, Nat.le_of_ble_eq_true rfl⟩ ?_
  show zW p l e rmL_turns s m args below meth c 151 1743 Q G.1 A 1 (zWL G (zd dL4_) (zd dT1_) (zd dE2_) (zd dV1_) (zd dM1_) (zd dK1_)) [(0, .ref (G.2.2 0 0))] 267 [.int 1]
  refine zi_if_eq (pc := 267) (tgt := 380) F dL_turns_267 (by decide) (fun h => absurd h (by decide)) (fun _ => ?_)
  refine zi_aload_n (pc := 270) F dL_turns_270 0 rfl ?_
  refine zi_iconst (pc := 271) (v := 0) F dL_turns_271 rfl ?_
  refine zi_iconst (pc := 272) (v := 5) F dL_turns_272 rfl ?_
  refine zi_iconst (pc := 273) (v := 0) F dL_turns_273 rfl ?_
  refine zi_iconst (pc := 274) (v := 1) F dL_turns_274 rfl ?_
  refine zi_iconst (pc := 275) (v := 2) F dL_turns_275 rfl ?_
  refine zi_callQI (pc := 276) (rest := []) (ws' := zWL G (zd dL4_) (zd dT1_) (zd dE2_) (zd dV1_) (zd dM1_) (zd dK1_)) F hsx hao (c_L_is l hfl G ev31_ ev32_ ev33_ okdT1_) (va_cwS 6 F.1.2.2.2.2 gL_turns_L_is rfl rfl rfl hd_L_is ⟨Nat.le_of_ble_eq_true rfl, Nat.le_of_ble_eq_true rfl⟩) [] [] (zw_nil _) (zw_nil _).symm rfl rfl (Nat.le_of_ble_eq_true rfl) dL_turns_276 ⟨Nat.le_of_ble_eq_true rfl, Nat.le_of_ble_eq_true rfl⟩ ?_
  show zW p l e rmL_turns s m args below meth c 154 1761 Q G.1 A 1 (zWL G (zd dL4_) (zd dT1_) (zd dE2_) (zd dV1_) (zd dM1_) (zd dK1_)) [(0, .ref (G.2.2 0 0))] 279 [.int 1]
  refine zi_if_eq (pc := 279) (tgt := 380) F dL_turns_279 (by decide) (fun h => absurd h (by decide)) (fun _ => ?_)
  refine zi_aload_n (pc := 282) F dL_turns_282 0 rfl ?_
  refine zi_iconst (pc := 283) (v := 0) F dL_turns_283 rfl ?_
  refine zr_power (pc := 284) hfl F hsx ev34_ okdT1_ (cwV 1 F.1.2.2.2.2 gL_turns_X4_power rfl rfl rfl hd_X4_power ⟨Nat.le_of_ble_eq_true rfl, Nat.le_of_ble_eq_true rfl⟩) (Nat.le_of_ble_eq_true rfl) dL_turns_284 ⟨Nat.le_of_ble_eq_true rfl, Nat.le_of_ble_eq_true rfl⟩ ?_
  show zW p l e rmL_turns s m args below meth c 155 1767 Q G.1 A 1 (zWL G (zd dL4_) (zd dT1_) (zd dE2_) (zd dV1_) (zd dM1_) (zd dK1_)) [(0, .ref (G.2.2 0 0))] 287 [.int 2]
  refine zi_iconst (pc := 287) (v := 2) F dL_turns_287 rfl ?_
  refine zi_icmp_ne (pc := 288) (tgt := 380) F dL_turns_288 (by decide) (fun h => absurd h (by decide)) (fun _ => ?_)
  refine zi_aload_n (pc := 291) F dL_turns_291 0 rfl ?_
  refine zi_iconst (pc := 292) (v := 1) F dL_turns_292 rfl ?_
  refine zr_power (pc := 293) hfl F hsx ev35_ okdT1_ (cwV 1 F.1.2.2.2.2 gL_turns_X4_power rfl rfl rfl hd_X4_power ⟨Nat.le_of_ble_eq_true rfl, Nat.le_of_ble_eq_true rfl⟩) (Nat.le_of_ble_eq_true rfl) dL_turns_293 ⟨Nat.le_of_ble_eq_true rfl, Nat.le_of_ble_eq_true rfl⟩ ?_
  show zW p l e rmL_turns s m args below meth c 156 1773 Q G.1 A 1 (zWL G (zd dL4_) (zd dT1_) (zd dE2_) (zd dV1_) (zd dM1_) (zd dK1_)) [(0, .ref (G.2.2 0 0))] 296 [.int 0]
  refine zi_if_ne (pc := 296) (tgt := 380) F dL_turns_296 (by decide) (fun h => absurd h (by decide)) (fun _ => ?_)
  refine zi_aload_n (pc := 299) F dL_turns_299 0 rfl ?_
  refine zi_iconst (pc := 300) (v := 1) F dL_turns_300 rfl ?_
  refine zi_iconst (pc := 301) (v := 0) F dL_turns_301 rfl ?_
  refine zi_iconst (pc := 302) (v := 1) F dL_turns_302 rfl ?_
  refine zi_callQI (pc := 303) (rest := []) (ws' := zWL G (zd dL6_) (zd dT2_) (zd dE4_) (zd dV2_) (zd dM3_) (zd dK2_)) F hsx hao (c_L_lay l hfl G ev25_ ev36_ ev37_ ev38_ okdT1_ okdE2_ okdM1_ okdE3_ okdM2_) (va_cwS 4 F.1.2.2.2.2 gL_turns_L_lay rfl rfl rfl hd_L_lay ⟨Nat.le_of_ble_eq_true rfl, Nat.le_of_ble_eq_true rfl⟩) [] [] (zw_nil _) (zw_nil _).symm rfl rfl (Nat.le_of_ble_eq_true rfl) dL_turns_303 ⟨Nat.le_of_ble_eq_true rfl, Nat.le_of_ble_eq_true rfl⟩ ?_
  show zW p l e rmL_turns s m args below meth c 159 1791 Q G.1 A 1 (zWL G (zd dL6_) (zd dT2_) (zd dE4_) (zd dV2_) (zd dM3_) (zd dK2_)) [(0, .ref (G.2.2 0 0))] 306 [.int 1]
  refine zi_if_eq (pc := 306) (tgt := 380) F dL_turns_306 (by decide) (fun h => absurd h (by decide)) (fun _ => ?_)
  refine zi_aload_n (pc := 309) F dL_turns_309 0 rfl ?_
  refine zi_iconst (pc := 310) (v := 1) F dL_turns_310 rfl ?_
  refine zr_cardOf (pc := 311) hfl F hsx ev39_ okdT2_ (cwV 1 F.1.2.2.2.2 gL_turns_X4_cardOf rfl rfl rfl hd_X4_cardOf ⟨Nat.le_of_ble_eq_true rfl, Nat.le_of_ble_eq_true rfl⟩) (Nat.le_of_ble_eq_true rfl) dL_turns_311 ⟨Nat.le_of_ble_eq_true rfl, Nat.le_of_ble_eq_true rfl⟩ ?_
  show zW p l e rmL_turns s m args below meth c 160 1797 Q G.1 A 1 (zWL G (zd dL6_) (zd dT2_) (zd dE4_) (zd dV2_) (zd dM3_) (zd dK2_)) [(0, .ref (G.2.2 0 0))] 314 [.int 1]
  refine zi_iconst (pc := 314) (v := 1) F dL_turns_314 rfl ?_
  refine zi_icmp_ne (pc := 315) (tgt := 380) F dL_turns_315 (by decide) (fun h => absurd h (by decide)) (fun _ => ?_)
  refine zi_aload_n (pc := 318) F dL_turns_318 0 rfl ?_
  refine zi_iconst (pc := 319) (v := 1) F dL_turns_319 rfl ?_
  refine zi_iconst (pc := 320) (v := 5) F dL_turns_320 rfl ?_
  refine zi_iconst (pc := 321) (v := 0) F dL_turns_321 rfl ?_
  refine zi_iconst (pc := 322) (v := 2) F dL_turns_322 rfl ?_
  refine zi_iconst (pc := 323) (v := 1) F dL_turns_323 rfl ?_
  refine zi_callQI (pc := 324) (rest := []) (ws' := zWL G (zd dL6_) (zd dT2_) (zd dE4_) (zd dV2_) (zd dM3_) (zd dK2_)) F hsx hao (c_L_is l hfl G ev40_ ev41_ ev42_ okdT2_) (va_cwS 6 F.1.2.2.2.2 gL_turns_L_is rfl rfl rfl hd_L_is ⟨Nat.le_of_ble_eq_true rfl, Nat.le_of_ble_eq_true rfl⟩) [] [] (zw_nil _) (zw_nil _).symm rfl rfl (Nat.le_of_ble_eq_true rfl) dL_turns_324 ⟨Nat.le_of_ble_eq_true rfl, Nat.le_of_ble_eq_true rfl⟩ ?_
  show zW p l e rmL_turns s m args below meth c 163 1815 Q G.1 A 1 (zWL G (zd dL6_) (zd dT2_) (zd dE4_) (zd dV2_) (zd dM3_) (zd dK2_)) [(0, .ref (G.2.2 0 0))] 327 [.int 1]
  refine zi_if_eq (pc := 327) (tgt := 380) F dL_turns_327 (by decide) (fun h => absurd h (by decide)) (fun _ => ?_)
  refine zi_aload_n (pc := 330) F dL_turns_330 0 rfl ?_
  refine zi_iconst (pc := 331) (v := 0) F dL_turns_331 rfl ?_
  refine zi_iconst (pc := 332) (v := 0) F dL_turns_332 rfl ?_
  refine zr_obstacle (pc := 333) hfl F hsx ev43_ okdE4_ (cwV 2 F.1.2.2.2.2 gL_turns_X4_obstacle rfl rfl rfl hd_X4_obstacle ⟨Nat.le_of_ble_eq_true rfl, Nat.le_of_ble_eq_true rfl⟩) (Nat.le_of_ble_eq_true rfl) dL_turns_333 ⟨Nat.le_of_ble_eq_true rfl, Nat.le_of_ble_eq_true rfl⟩ ?_
  show zW p l e rmL_turns s m args below meth c 164 1821 Q G.1 A 1 (zWL G (zd dL6_) (zd dT2_) (zd dE4_) (zd dV2_) (zd dM3_) (zd dK2_)) [(0, .ref (G.2.2 0 0))] 336 [.int 2]
  refine zi_iconst (pc := 336) (v := 2) F dL_turns_336 rfl ?_
  refine zi_icmp_ne (pc := 337) (tgt := 380) F dL_turns_337 (by decide) (fun h => absurd h (by decide)) (fun _ => ?_)
  refine zi_aload_n (pc := 340) F dL_turns_340 0 rfl ?_
  refine zi_iconst (pc := 341) (v := 0) F dL_turns_341 rfl ?_
  refine zi_iconst (pc := 342) (v := 0) F dL_turns_342 rfl ?_
  refine zi_iconst (pc := 343) (v := 0) F dL_turns_343 rfl ?_
  refine zi_callQH (pc := 344) (rest := []) (ws' := zWL G (zd dL6_) (zd dT2_) (zd dE4_) (zd dV2_) (zd dM3_) (zd dK2_)) F hsx hao (cr_0o l hfl G (zd dL6_) (zd dT2_) (zd dE4_) (zd dV2_) (zd dM3_) (zd dK2_) okdT2_ okdE4_ okdM3_ 0 0 (by decide) (by decide) ev44_) (vx_cwSW 4 F.1.2.2.2.2 gL_turns_L_act rfl rfl rfl hd_L_act ⟨Nat.le_of_ble_eq_true rfl, Nat.le_of_ble_eq_true rfl⟩) [] [] (zw_nil _) (zw_nil _).symm rfl rfl (Nat.le_of_ble_eq_true rfl) dL_turns_344 ⟨Nat.le_of_ble_eq_true rfl, Nat.le_of_ble_eq_true rfl⟩ ?_
  show zW p l e rmL_turns s m args below meth c 165 1827 Q G.1 A 1 (zWL G (zd dL6_) (zd dT2_) (zd dE4_) (zd dV2_) (zd dM3_) (zd dK2_)) [(0, .ref (G.2.2 0 0))] 347 [.int (-73)]
  refine zi_bipush (pc := 347) (v := (-73)) F dL_turns_347 rfl ?_
  refine zi_icmp_ne (pc := 349) (tgt := 380) F dL_turns_349 (by decide) (fun h => absurd h (by decide)) (fun _ => ?_)
  refine zi_aload_n (pc := 352) F dL_turns_352 0 rfl ?_
  refine zi_bipush (pc := 353) (v := 12) F dL_turns_353 rfl ?_
  refine zi_iconst (pc := 355) (v := 2) F dL_turns_355 rfl ?_
  refine zr_obstacle (pc := 356) hfl F hsx ev45_ okdE4_ (cwV 2 F.1.2.2.2.2 gL_turns_X4_obstacle rfl rfl rfl hd_X4_obstacle ⟨Nat.le_of_ble_eq_true rfl, Nat.le_of_ble_eq_true rfl⟩) (Nat.le_of_ble_eq_true rfl) dL_turns_356 ⟨Nat.le_of_ble_eq_true rfl, Nat.le_of_ble_eq_true rfl⟩ ?_
  show zW p l e rmL_turns s m args below meth c 166 1833 Q G.1 A 1 (zWL G (zd dL6_) (zd dT2_) (zd dE4_) (zd dV2_) (zd dM3_) (zd dK2_)) [(0, .ref (G.2.2 0 0))] 359 [.int 3]
  refine zi_iconst (pc := 359) (v := 3) F dL_turns_359 rfl ?_
  refine zi_icmp_ne (pc := 360) (tgt := 380) F dL_turns_360 (by decide) (fun h => absurd h (by decide)) (fun _ => ?_)
  exact kk
set_option maxHeartbeats 4000000 in
set_option maxRecDepth 100000 in
theorem sg_turns_4 {p : Program} {l : Launch} {e : Env} {s : State} {m : MethodId} {args : Array Value} {below : List Frame} {meth : Method} {c : Code} {Q : State → Prop} {A : Nat → Prop} {G : zG_t} (hfl : l.stackTraces = false) (F : zF p m c cL_turns 1 s args wsL_turns RL G.1 (zty G) A) (hsx : zSx s) (hao : zAOA s) (kk : zW p l e rmL_turns s m args below meth c 241 2283 Q G.1 A 1 (zWL G (zd dL12_) (zd dT2_) (zd dE4_) (zd dV2_) (zd dM4_) (zd dK2_)) [(0, .ref (G.2.2 0 0))] 449 []) : zW p l e rmL_turns s m args below meth c 166 1833 Q G.1 A 1 (zWL G (zd dL6_) (zd dT2_) (zd dE4_) (zd dV2_) (zd dM3_) (zd dK2_)) [(0, .ref (G.2.2 0 0))] 363 [] := by
  refine zi_aload_n (pc := 363) F dL_turns_363 0 rfl ?_
  refine zi_bipush (pc := 364) (v := 12) F dL_turns_364 rfl ?_
  refine zi_iconst (pc := 366) (v := 1) F dL_turns_366 rfl ?_
  refine zr_obstacle (pc := 367) hfl F hsx ev46_ okdE4_ (cwV 2 F.1.2.2.2.2 gL_turns_X4_obstacle rfl rfl rfl hd_X4_obstacle ⟨Nat.le_of_ble_eq_true rfl, Nat.le_of_ble_eq_true rfl⟩) (Nat.le_of_ble_eq_true rfl) dL_turns_367 ⟨Nat.le_of_ble_eq_true rfl, Nat.le_of_ble_eq_true rfl⟩ ?_
  show zW p l e rmL_turns s m args below meth c 167 1839 Q G.1 A 1 (zWL G (zd dL6_) (zd dT2_) (zd dE4_) (zd dV2_) (zd dM3_) (zd dK2_)) [(0, .ref (G.2.2 0 0))] 370 [.int 0]
  refine zi_if_ne (pc := 370) (tgt := 380) F dL_turns_370 (by decide) (fun h => absurd h (by decide)) (fun _ => ?_)
  refine zi_aload_n (pc := 373) F dL_turns_373 0 rfl ?_
  refine zi_callQI (pc := 374) (rest := []) (ws' := zWL G (zd dL6_) (zd dT2_) (zd dE4_) (zd dV2_) (zd dM3_) (zd dK2_)) F hsx hao (c_L_refuses l hfl G (zd dL6_) (zd dT2_) (zd dE4_) (zd dV2_) (zd dM3_) (zd dK2_) okdT2_ okdE4_ okdM3_) (va_cwS 1 F.1.2.2.2.2 gL_turns_L_refuses rfl rfl rfl hd_L_refuses ⟨Nat.le_of_ble_eq_true rfl, Nat.le_of_ble_eq_true rfl⟩) [] [] (zw_nil _) (zw_nil _).symm rfl rfl (Nat.le_of_ble_eq_true rfl) dL_turns_374 ⟨Nat.le_of_ble_eq_true rfl, Nat.le_of_ble_eq_true rfl⟩ ?_
  show zW p l e rmL_turns s m args below meth c 239 2271 Q G.1 A 1 (zWL G (zd dL6_) (zd dT2_) (zd dE4_) (zd dV2_) (zd dM3_) (zd dK2_)) [(0, .ref (G.2.2 0 0))] 377 [.int 1]
  refine zi_if_ne (pc := 377) (tgt := 382) F dL_turns_377 (by decide) (fun _ => ?_) (fun h => absurd h (by decide))
  refine zi_aload_n (pc := 382) F dL_turns_382 0 rfl ?_
  refine zi_callQI (pc := 383) (rest := []) (ws' := zWL G (zd dL9_) (zd dT2_) (zd dE4_) (zd dV2_) (zd dM4_) (zd dK2_)) F hsx hao (c_L_round l hfl G ev47_ ev48_ ev49_ okdT2_ okdE4_ okdM3_ okdT2_ okdE4_ okdM3_ okdT2_ okdE4_ okdM3_) (va_cwS 1 F.1.2.2.2.2 gL_turns_L_round rfl rfl rfl hd_L_round ⟨Nat.le_of_ble_eq_true rfl, Nat.le_of_ble_eq_true rfl⟩) [] [] (zw_nil _) (zw_nil _).symm rfl rfl (Nat.le_of_ble_eq_true rfl) dL_turns_383 ⟨Nat.le_of_ble_eq_true rfl, Nat.le_of_ble_eq_true rfl⟩ ?_
  show zW p l e rmL_turns s m args below meth c 239 2271 Q G.1 A 1 (zWL G (zd dL9_) (zd dT2_) (zd dE4_) (zd dV2_) (zd dM4_) (zd dK2_)) [(0, .ref (G.2.2 0 0))] 386 [.int 2]
  refine zi_iconst (pc := 386) (v := 2) F dL_turns_386 rfl ?_
  refine zi_icmp_ne (pc := 387) (tgt := 584) F dL_turns_387 (by decide) (fun h => absurd h (by decide)) (fun _ => ?_)
  refine zi_aload_n (pc := 390) F dL_turns_390 0 rfl ?_
  refine zr_turn (pc := 391) hfl F hsx ev50_  (cwV 0 F.1.2.2.2.2 gL_turns_X4_turn rfl rfl rfl hd_X4_turn ⟨Nat.le_of_ble_eq_true rfl, Nat.le_of_ble_eq_true rfl⟩) (Nat.le_of_ble_eq_true rfl) dL_turns_391 ⟨Nat.le_of_ble_eq_true rfl, Nat.le_of_ble_eq_true rfl⟩ ?_
  show zW p l e rmL_turns s m args below meth c 239 2271 Q G.1 A 1 (zWL G (zd dL9_) (zd dT2_) (zd dE4_) (zd dV2_) (zd dM4_) (zd dK2_)) [(0, .ref (G.2.2 0 0))] 394 [.int 1]
  refine zi_iconst (pc := 394) (v := 1) F dL_turns_394 rfl ?_
  refine zi_icmp_ne (pc := 395) (tgt := 584) F dL_turns_395 (by decide) (fun h => absurd h (by decide)) (fun _ => ?_)
  refine zi_aload_n (pc := 398) F dL_turns_398 0 rfl ?_
  refine zr_acting (pc := 399) hfl F hsx ev51_  (cwV 0 F.1.2.2.2.2 gL_turns_X4_acting rfl rfl rfl hd_X4_acting ⟨Nat.le_of_ble_eq_true rfl, Nat.le_of_ble_eq_true rfl⟩) (Nat.le_of_ble_eq_true rfl) dL_turns_399 ⟨Nat.le_of_ble_eq_true rfl, Nat.le_of_ble_eq_true rfl⟩ ?_
  show zW p l e rmL_turns s m args below meth c 239 2271 Q G.1 A 1 (zWL G (zd dL9_) (zd dT2_) (zd dE4_) (zd dV2_) (zd dM4_) (zd dK2_)) [(0, .ref (G.2.2 0 0))] 402 [.int 1]
  refine zi_iconst (pc := 402) (v := 1) F dL_turns_402 rfl ?_
  refine zi_icmp_ne (pc := 403) (tgt := 584) F dL_turns_403 (by decide) (fun h => absurd h (by decide)) (fun _ => ?_)
  refine zi_aload_n (pc := 406) F dL_turns_406 0 rfl ?_
  refine zi_iconst (pc := 407) (v := 1) F dL_turns_407 rfl ?_
  refine zr_coins (pc := 408) hfl F hsx ev52_  (cwV 1 F.1.2.2.2.2 gL_turns_X4_coins rfl rfl rfl hd_X4_coins ⟨Nat.le_of_ble_eq_true rfl, Nat.le_of_ble_eq_true rfl⟩) (Nat.le_of_ble_eq_true rfl) dL_turns_408 ⟨Nat.le_of_ble_eq_true rfl, Nat.le_of_ble_eq_true rfl⟩ ?_
  show zW p l e rmL_turns s m args below meth c 240 2277 Q G.1 A 1 (zWL G (zd dL9_) (zd dT2_) (zd dE4_) (zd dV2_) (zd dM4_) (zd dK2_)) [(0, .ref (G.2.2 0 0))] 411 [.int 9]
  refine zi_bipush (pc := 411) (v := 9) F dL_turns_411 rfl ?_
  refine zi_icmp_ne (pc := 413) (tgt := 584) F dL_turns_413 (by decide) (fun h => absurd h (by decide)) (fun _ => ?_)
  refine zi_aload_n (pc := 416) F dL_turns_416 0 rfl ?_
  refine zr_rounds (pc := 417) hfl F hsx ev53_  (cwV 0 F.1.2.2.2.2 gL_turns_X4_rounds rfl rfl rfl hd_X4_rounds ⟨Nat.le_of_ble_eq_true rfl, Nat.le_of_ble_eq_true rfl⟩) (Nat.le_of_ble_eq_true rfl) dL_turns_417 ⟨Nat.le_of_ble_eq_true rfl, Nat.le_of_ble_eq_true rfl⟩ ?_
  show zW p l e rmL_turns s m args below meth c 240 2277 Q G.1 A 1 (zWL G (zd dL9_) (zd dT2_) (zd dE4_) (zd dV2_) (zd dM4_) (zd dK2_)) [(0, .ref (G.2.2 0 0))] 420 [.int 1]
  refine zi_iconst (pc := 420) (v := 1) F dL_turns_420 rfl ?_
  refine zi_icmp_ne (pc := 421) (tgt := 584) F dL_turns_421 (by decide) (fun h => absurd h (by decide)) (fun _ => ?_)
  refine zi_aload_n (pc := 424) F dL_turns_424 0 rfl ?_
  refine zr_stack (pc := 425) hfl F hsx ev54_  (cwV 0 F.1.2.2.2.2 gL_turns_X4_stack rfl rfl rfl hd_X4_stack ⟨Nat.le_of_ble_eq_true rfl, Nat.le_of_ble_eq_true rfl⟩) (Nat.le_of_ble_eq_true rfl) dL_turns_425 ⟨Nat.le_of_ble_eq_true rfl, Nat.le_of_ble_eq_true rfl⟩ ?_
  show zW p l e rmL_turns s m args below meth c 240 2277 Q G.1 A 1 (zWL G (zd dL9_) (zd dT2_) (zd dE4_) (zd dV2_) (zd dM4_) (zd dK2_)) [(0, .ref (G.2.2 0 0))] 428 [.int 0]
  refine zi_if_ne (pc := 428) (tgt := 584) F dL_turns_428 (by decide) (fun h => absurd h (by decide)) (fun _ => ?_)
  refine zi_aload_n (pc := 431) F dL_turns_431 0 rfl ?_
  refine zi_callQI (pc := 432) (rest := []) (ws' := zWL G (zd dL12_) (zd dT2_) (zd dE4_) (zd dV2_) (zd dM4_) (zd dK2_)) F hsx hao (c_L_round l hfl G ev55_ ev56_ ev57_ okdT2_ okdE4_ okdM4_ okdT2_ okdE4_ okdM4_ okdT2_ okdE4_ okdM4_) (va_cwS 1 F.1.2.2.2.2 gL_turns_L_round rfl rfl rfl hd_L_round ⟨Nat.le_of_ble_eq_true rfl, Nat.le_of_ble_eq_true rfl⟩) [] [] (zw_nil _) (zw_nil _).symm rfl rfl (Nat.le_of_ble_eq_true rfl) dL_turns_432 ⟨Nat.le_of_ble_eq_true rfl, Nat.le_of_ble_eq_true rfl⟩ ?_
  show zW p l e rmL_turns s m args below meth c 240 2277 Q G.1 A 1 (zWL G (zd dL12_) (zd dT2_) (zd dE4_) (zd dV2_) (zd dM4_) (zd dK2_)) [(0, .ref (G.2.2 0 0))] 435 [.int 2]
  refine zi_iconst (pc := 435) (v := 2) F dL_turns_435 rfl ?_
  refine zi_icmp_ne (pc := 436) (tgt := 584) F dL_turns_436 (by decide) (fun h => absurd h (by decide)) (fun _ => ?_)
  refine zi_aload_n (pc := 439) F dL_turns_439 0 rfl ?_
  refine zi_iconst (pc := 440) (v := 2) F dL_turns_440 rfl ?_
  refine zr_coins (pc := 441) hfl F hsx ev58_  (cwV 1 F.1.2.2.2.2 gL_turns_X4_coins rfl rfl rfl hd_X4_coins ⟨Nat.le_of_ble_eq_true rfl, Nat.le_of_ble_eq_true rfl⟩) (Nat.le_of_ble_eq_true rfl) dL_turns_441 ⟨Nat.le_of_ble_eq_true rfl, Nat.le_of_ble_eq_true rfl⟩ ?_
  show zW p l e rmL_turns s m args below meth c 241 2283 Q G.1 A 1 (zWL G (zd dL12_) (zd dT2_) (zd dE4_) (zd dV2_) (zd dM4_) (zd dK2_)) [(0, .ref (G.2.2 0 0))] 444 [.int 9]
  refine zi_bipush (pc := 444) (v := 9) F dL_turns_444 rfl ?_
  refine zi_icmp_ne (pc := 446) (tgt := 584) F dL_turns_446 (by decide) (fun h => absurd h (by decide)) (fun _ => ?_)
  exact kk
set_option maxHeartbeats 4000000 in
set_option maxRecDepth 100000 in
theorem sg_turns_5 {p : Program} {l : Launch} {e : Env} {s : State} {m : MethodId} {args : Array Value} {below : List Frame} {meth : Method} {c : Code} {Q : State → Prop} {A : Nat → Prop} {G : zG_t} (hfl : l.stackTraces = false) (F : zF p m c cL_turns 1 s args wsL_turns RL G.1 (zty G) A) (hsx : zSx s) (hao : zAOA s) (kk : zW p l e rmL_turns s m args below meth c 246 2313 Q G.1 A 1 (zWL G (zd dL15_) (zd dT2_) (zd dE5_) (zd dV2_) (zd dM4_) (zd dK2_)) [(0, .ref (G.2.2 0 0))] 528 []) : zW p l e rmL_turns s m args below meth c 241 2283 Q G.1 A 1 (zWL G (zd dL12_) (zd dT2_) (zd dE4_) (zd dV2_) (zd dM4_) (zd dK2_)) [(0, .ref (G.2.2 0 0))] 449 [] := by
  refine zi_aload_n (pc := 449) F dL_turns_449 0 rfl ?_
  refine zr_pass (pc := 450) hfl F hsx ev59_ okdT2_ okdE4_ okdM4_ (cwV 0 F.1.2.2.2.2 gL_turns_X4_pass rfl rfl rfl hd_X4_pass ⟨Nat.le_of_ble_eq_true rfl, Nat.le_of_ble_eq_true rfl⟩) (Nat.le_of_ble_eq_true rfl) dL_turns_450 ⟨Nat.le_of_ble_eq_true rfl, Nat.le_of_ble_eq_true rfl⟩ ?_
  show zW p l e rmL_turns s m args below meth c 241 2283 Q G.1 A 1 (zWL G (zd dL13_) (zd dT2_) (zd dE4_) (zd dV2_) (zd dM4_) (zd dK2_)) [(0, .ref (G.2.2 0 0))] 453 [.int 0]
  refine zi_if_ne (pc := 453) (tgt := 584) F dL_turns_453 (by decide) (fun h => absurd h (by decide)) (fun _ => ?_)
  refine zi_aload_n (pc := 456) F dL_turns_456 0 rfl ?_
  refine zi_iconst (pc := 457) (v := 5) F dL_turns_457 rfl ?_
  refine zr_settle (pc := 458) hfl F hsx ev60_ okdT2_ okdE4_ okdM4_ (cwV 1 F.1.2.2.2.2 gL_turns_X4_settle rfl rfl rfl hd_X4_settle ⟨Nat.le_of_ble_eq_true rfl, Nat.le_of_ble_eq_true rfl⟩) (Nat.le_of_ble_eq_true rfl) dL_turns_458 ⟨Nat.le_of_ble_eq_true rfl, Nat.le_of_ble_eq_true rfl⟩ ?_
  show zW p l e rmL_turns s m args below meth c 242 2289 Q G.1 A 1 (zWL G (zd dL13_) (zd dT2_) (zd dE4_) (zd dV2_) (zd dM4_) (zd dK2_)) [(0, .ref (G.2.2 0 0))] 461 [.int 0]
  refine zi_if_ne (pc := 461) (tgt := 584) F dL_turns_461 (by decide) (fun h => absurd h (by decide)) (fun _ => ?_)
  refine zi_aload_n (pc := 464) F dL_turns_464 0 rfl ?_
  refine zr_pass (pc := 465) hfl F hsx ev61_ okdT2_ okdE4_ okdM4_ (cwV 0 F.1.2.2.2.2 gL_turns_X4_pass rfl rfl rfl hd_X4_pass ⟨Nat.le_of_ble_eq_true rfl, Nat.le_of_ble_eq_true rfl⟩) (Nat.le_of_ble_eq_true rfl) dL_turns_465 ⟨Nat.le_of_ble_eq_true rfl, Nat.le_of_ble_eq_true rfl⟩ ?_
  show zW p l e rmL_turns s m args below meth c 242 2289 Q G.1 A 1 (zWL G (zd dL14_) (zd dT2_) (zd dE4_) (zd dV2_) (zd dM4_) (zd dK2_)) [(0, .ref (G.2.2 0 0))] 468 [.int 0]
  refine zi_if_ne (pc := 468) (tgt := 584) F dL_turns_468 (by decide) (fun h => absurd h (by decide)) (fun _ => ?_)
  refine zi_aload_n (pc := 471) F dL_turns_471 0 rfl ?_
  refine zr_pass (pc := 472) hfl F hsx ev62_ okdT2_ okdE4_ okdM4_ (cwV 0 F.1.2.2.2.2 gL_turns_X4_pass rfl rfl rfl hd_X4_pass ⟨Nat.le_of_ble_eq_true rfl, Nat.le_of_ble_eq_true rfl⟩) (Nat.le_of_ble_eq_true rfl) dL_turns_472 ⟨Nat.le_of_ble_eq_true rfl, Nat.le_of_ble_eq_true rfl⟩ ?_
  show zW p l e rmL_turns s m args below meth c 242 2289 Q G.1 A 1 (zWL G (zd dL15_) (zd dT2_) (zd dE5_) (zd dV2_) (zd dM4_) (zd dK2_)) [(0, .ref (G.2.2 0 0))] 475 [.int 2]
  refine zi_iconst (pc := 475) (v := 2) F dL_turns_475 rfl ?_
  refine zi_icmp_ne (pc := 476) (tgt := 584) F dL_turns_476 (by decide) (fun h => absurd h (by decide)) (fun _ => ?_)
  refine zi_aload_n (pc := 479) F dL_turns_479 0 rfl ?_
  refine zr_turn (pc := 480) hfl F hsx ev63_  (cwV 0 F.1.2.2.2.2 gL_turns_X4_turn rfl rfl rfl hd_X4_turn ⟨Nat.le_of_ble_eq_true rfl, Nat.le_of_ble_eq_true rfl⟩) (Nat.le_of_ble_eq_true rfl) dL_turns_480 ⟨Nat.le_of_ble_eq_true rfl, Nat.le_of_ble_eq_true rfl⟩ ?_
  show zW p l e rmL_turns s m args below meth c 242 2289 Q G.1 A 1 (zWL G (zd dL15_) (zd dT2_) (zd dE5_) (zd dV2_) (zd dM4_) (zd dK2_)) [(0, .ref (G.2.2 0 0))] 483 [.int 0]
  refine zi_if_ne (pc := 483) (tgt := 584) F dL_turns_483 (by decide) (fun h => absurd h (by decide)) (fun _ => ?_)
  refine zi_aload_n (pc := 486) F dL_turns_486 0 rfl ?_
  refine zi_iconst (pc := 487) (v := 0) F dL_turns_487 rfl ?_
  refine zr_coins (pc := 488) hfl F hsx ev64_  (cwV 1 F.1.2.2.2.2 gL_turns_X4_coins rfl rfl rfl hd_X4_coins ⟨Nat.le_of_ble_eq_true rfl, Nat.le_of_ble_eq_true rfl⟩) (Nat.le_of_ble_eq_true rfl) dL_turns_488 ⟨Nat.le_of_ble_eq_true rfl, Nat.le_of_ble_eq_true rfl⟩ ?_
  show zW p l e rmL_turns s m args below meth c 243 2295 Q G.1 A 1 (zWL G (zd dL15_) (zd dT2_) (zd dE5_) (zd dV2_) (zd dM4_) (zd dK2_)) [(0, .ref (G.2.2 0 0))] 491 [.int 4]
  refine zi_iconst (pc := 491) (v := 4) F dL_turns_491 rfl ?_
  refine zi_icmp_ne (pc := 492) (tgt := 584) F dL_turns_492 (by decide) (fun h => absurd h (by decide)) (fun _ => ?_)
  refine zi_aload_n (pc := 495) F dL_turns_495 0 rfl ?_
  refine zr_stack (pc := 496) hfl F hsx ev65_  (cwV 0 F.1.2.2.2.2 gL_turns_X4_stack rfl rfl rfl hd_X4_stack ⟨Nat.le_of_ble_eq_true rfl, Nat.le_of_ble_eq_true rfl⟩) (Nat.le_of_ble_eq_true rfl) dL_turns_496 ⟨Nat.le_of_ble_eq_true rfl, Nat.le_of_ble_eq_true rfl⟩ ?_
  show zW p l e rmL_turns s m args below meth c 243 2295 Q G.1 A 1 (zWL G (zd dL15_) (zd dT2_) (zd dE5_) (zd dV2_) (zd dM4_) (zd dK2_)) [(0, .ref (G.2.2 0 0))] 499 [.int 1]
  refine zi_iconst (pc := 499) (v := 1) F dL_turns_499 rfl ?_
  refine zi_icmp_ne (pc := 500) (tgt := 584) F dL_turns_500 (by decide) (fun h => absurd h (by decide)) (fun _ => ?_)
  refine zi_aload_n (pc := 503) F dL_turns_503 0 rfl ?_
  refine zi_iconst (pc := 504) (v := 0) F dL_turns_504 rfl ?_
  refine zr_entryCard (pc := 505) hfl F hsx ev66_ okdE5_ (cwV 1 F.1.2.2.2.2 gL_turns_X4_entryCard rfl rfl rfl hd_X4_entryCard ⟨Nat.le_of_ble_eq_true rfl, Nat.le_of_ble_eq_true rfl⟩) (Nat.le_of_ble_eq_true rfl) dL_turns_505 ⟨Nat.le_of_ble_eq_true rfl, Nat.le_of_ble_eq_true rfl⟩ ?_
  show zW p l e rmL_turns s m args below meth c 244 2301 Q G.1 A 1 (zWL G (zd dL15_) (zd dT2_) (zd dE5_) (zd dV2_) (zd dM4_) (zd dK2_)) [(0, .ref (G.2.2 0 0))] 508 [.int 1]
  refine zi_iconst (pc := 508) (v := 1) F dL_turns_508 rfl ?_
  refine zi_icmp_ne (pc := 509) (tgt := 584) F dL_turns_509 (by decide) (fun h => absurd h (by decide)) (fun _ => ?_)
  refine zi_aload_n (pc := 512) F dL_turns_512 0 rfl ?_
  refine zi_iconst (pc := 513) (v := 0) F dL_turns_513 rfl ?_
  refine zr_isTrigger (pc := 514) hfl F hsx ev67_ okdE5_ (cwV 1 F.1.2.2.2.2 gL_turns_X4_isTrigger rfl rfl rfl hd_X4_isTrigger ⟨Nat.le_of_ble_eq_true rfl, Nat.le_of_ble_eq_true rfl⟩) (Nat.le_of_ble_eq_true rfl) dL_turns_514 ⟨Nat.le_of_ble_eq_true rfl, Nat.le_of_ble_eq_true rfl⟩ ?_
  show zW p l e rmL_turns s m args below meth c 245 2307 Q G.1 A 1 (zWL G (zd dL15_) (zd dT2_) (zd dE5_) (zd dV2_) (zd dM4_) (zd dK2_)) [(0, .ref (G.2.2 0 0))] 517 [.int 1]
  refine zi_if_eq (pc := 517) (tgt := 584) F dL_turns_517 (by decide) (fun h => absurd h (by decide)) (fun _ => ?_)
  refine zi_aload_n (pc := 520) F dL_turns_520 0 rfl ?_
  refine zi_iconst (pc := 521) (v := 0) F dL_turns_521 rfl ?_
  refine zr_entryPlayer (pc := 522) hfl F hsx ev68_ okdE5_ (cwV 1 F.1.2.2.2.2 gL_turns_X4_entryPlayer rfl rfl rfl hd_X4_entryPlayer ⟨Nat.le_of_ble_eq_true rfl, Nat.le_of_ble_eq_true rfl⟩) (Nat.le_of_ble_eq_true rfl) dL_turns_522 ⟨Nat.le_of_ble_eq_true rfl, Nat.le_of_ble_eq_true rfl⟩ ?_
  show zW p l e rmL_turns s m args below meth c 246 2313 Q G.1 A 1 (zWL G (zd dL15_) (zd dT2_) (zd dE5_) (zd dV2_) (zd dM4_) (zd dK2_)) [(0, .ref (G.2.2 0 0))] 525 [.int 0]
  refine zi_if_ne (pc := 525) (tgt := 584) F dL_turns_525 (by decide) (fun h => absurd h (by decide)) (fun _ => ?_)
  exact kk
set_option maxHeartbeats 4000000 in
set_option maxRecDepth 100000 in
theorem sg_turns_6 {p : Program} {l : Launch} {e : Env} {s : State} {m : MethodId} {args : Array Value} {below : List Frame} {meth : Method} {c : Code} {Q : State → Prop} {A : Nat → Prop} {G : zG_t} (hfl : l.stackTraces = false) (F : zF p m c cL_turns 1 s args wsL_turns RL G.1 (zty G) A) (hsx : zSx s) (hao : zAOA s) (kk : zW p l e rmL_turns s m args below meth c 323 2775 Q G.1 A 1 (zWL G (zd dL18_) (zd dT2_) (zd dE6_) (zd dV2_) (zd dM3_) (zd dK2_)) [(0, .ref (G.2.2 0 0))] 607 [.int 1]) : zW p l e rmL_turns s m args below meth c 246 2313 Q G.1 A 1 (zWL G (zd dL15_) (zd dT2_) (zd dE5_) (zd dV2_) (zd dM4_) (zd dK2_)) [(0, .ref (G.2.2 0 0))] 528 [] := by
  refine zi_aload_n (pc := 528) F dL_turns_528 0 rfl ?_
  refine zi_iconst (pc := 529) (v := 0) F dL_turns_529 rfl ?_
  refine zr_entryTarget (pc := 530) hfl F hsx ev69_ okdT2_ okdE5_ (cwV 1 F.1.2.2.2.2 gL_turns_X4_entryTarget rfl rfl rfl hd_X4_entryTarget ⟨Nat.le_of_ble_eq_true rfl, Nat.le_of_ble_eq_true rfl⟩) (Nat.le_of_ble_eq_true rfl) dL_turns_530 ⟨Nat.le_of_ble_eq_true rfl, Nat.le_of_ble_eq_true rfl⟩ ?_
  show zW p l e rmL_turns s m args below meth c 247 2319 Q G.1 A 1 (zWL G (zd dL15_) (zd dT2_) (zd dE5_) (zd dV2_) (zd dM4_) (zd dK2_)) [(0, .ref (G.2.2 0 0))] 533 [.int (-1)]
  refine zi_iconst (pc := 533) (v := (-1)) F dL_turns_533 rfl ?_
  refine zi_icmp_ne (pc := 534) (tgt := 584) F dL_turns_534 (by decide) (fun h => absurd h (by decide)) (fun _ => ?_)
  refine zi_aload_n (pc := 537) F dL_turns_537 0 rfl ?_
  refine zi_bipush (pc := 538) (v := 13) F dL_turns_538 rfl ?_
  refine zi_iconst (pc := 540) (v := 0) F dL_turns_540 rfl ?_
  refine zr_obstacle (pc := 541) hfl F hsx ev70_ okdE5_ (cwV 2 F.1.2.2.2.2 gL_turns_X4_obstacle rfl rfl rfl hd_X4_obstacle ⟨Nat.le_of_ble_eq_true rfl, Nat.le_of_ble_eq_true rfl⟩) (Nat.le_of_ble_eq_true rfl) dL_turns_541 ⟨Nat.le_of_ble_eq_true rfl, Nat.le_of_ble_eq_true rfl⟩ ?_
  show zW p l e rmL_turns s m args below meth c 248 2325 Q G.1 A 1 (zWL G (zd dL15_) (zd dT2_) (zd dE5_) (zd dV2_) (zd dM4_) (zd dK2_)) [(0, .ref (G.2.2 0 0))] 544 [.int 3]
  refine zi_iconst (pc := 544) (v := 3) F dL_turns_544 rfl ?_
  refine zi_icmp_ne (pc := 545) (tgt := 584) F dL_turns_545 (by decide) (fun h => absurd h (by decide)) (fun _ => ?_)
  refine zi_aload_n (pc := 548) F dL_turns_548 0 rfl ?_
  refine zi_iconst (pc := 549) (v := 0) F dL_turns_549 rfl ?_
  refine zi_iconst (pc := 550) (v := 0) F dL_turns_550 rfl ?_
  refine zr_obstacle (pc := 551) hfl F hsx ev71_ okdE5_ (cwV 2 F.1.2.2.2.2 gL_turns_X4_obstacle rfl rfl rfl hd_X4_obstacle ⟨Nat.le_of_ble_eq_true rfl, Nat.le_of_ble_eq_true rfl⟩) (Nat.le_of_ble_eq_true rfl) dL_turns_551 ⟨Nat.le_of_ble_eq_true rfl, Nat.le_of_ble_eq_true rfl⟩ ?_
  show zW p l e rmL_turns s m args below meth c 249 2331 Q G.1 A 1 (zWL G (zd dL15_) (zd dT2_) (zd dE5_) (zd dV2_) (zd dM4_) (zd dK2_)) [(0, .ref (G.2.2 0 0))] 554 [.int 1]
  refine zi_iconst (pc := 554) (v := 1) F dL_turns_554 rfl ?_
  refine zi_icmp_ne (pc := 555) (tgt := 584) F dL_turns_555 (by decide) (fun h => absurd h (by decide)) (fun _ => ?_)
  refine zi_aload_n (pc := 558) F dL_turns_558 0 rfl ?_
  refine zi_callQI (pc := 559) (rest := []) (ws' := zWL G (zd dL18_) (zd dT2_) (zd dE6_) (zd dV2_) (zd dM3_) (zd dK2_)) F hsx hao (c_L_round l hfl G ev72_ ev73_ ev74_ okdT2_ okdE5_ okdM4_ okdT2_ okdE5_ okdM4_ okdT2_ okdE5_ okdM4_) (va_cwS 1 F.1.2.2.2.2 gL_turns_L_round rfl rfl rfl hd_L_round ⟨Nat.le_of_ble_eq_true rfl, Nat.le_of_ble_eq_true rfl⟩) [] [] (zw_nil _) (zw_nil _).symm rfl rfl (Nat.le_of_ble_eq_true rfl) dL_turns_559 ⟨Nat.le_of_ble_eq_true rfl, Nat.le_of_ble_eq_true rfl⟩ ?_
  show zW p l e rmL_turns s m args below meth c 249 2331 Q G.1 A 1 (zWL G (zd dL18_) (zd dT2_) (zd dE6_) (zd dV2_) (zd dM3_) (zd dK2_)) [(0, .ref (G.2.2 0 0))] 562 [.int 1]
  refine zi_iconst (pc := 562) (v := 1) F dL_turns_562 rfl ?_
  refine zi_icmp_ne (pc := 563) (tgt := 584) F dL_turns_563 (by decide) (fun h => absurd h (by decide)) (fun _ => ?_)
  refine zi_aload_n (pc := 566) F dL_turns_566 0 rfl ?_
  refine zi_iconst (pc := 567) (v := 0) F dL_turns_567 rfl ?_
  refine zr_coins (pc := 568) hfl F hsx ev75_  (cwV 1 F.1.2.2.2.2 gL_turns_X4_coins rfl rfl rfl hd_X4_coins ⟨Nat.le_of_ble_eq_true rfl, Nat.le_of_ble_eq_true rfl⟩) (Nat.le_of_ble_eq_true rfl) dL_turns_568 ⟨Nat.le_of_ble_eq_true rfl, Nat.le_of_ble_eq_true rfl⟩ ?_
  show zW p l e rmL_turns s m args below meth c 250 2337 Q G.1 A 1 (zWL G (zd dL18_) (zd dT2_) (zd dE6_) (zd dV2_) (zd dM3_) (zd dK2_)) [(0, .ref (G.2.2 0 0))] 571 [.int 6]
  refine zi_bipush (pc := 571) (v := 6) F dL_turns_571 rfl ?_
  refine zi_icmp_ne (pc := 573) (tgt := 584) F dL_turns_573 (by decide) (fun h => absurd h (by decide)) (fun _ => ?_)
  refine zi_aload_n (pc := 576) F dL_turns_576 0 rfl ?_
  refine zr_rounds (pc := 577) hfl F hsx ev76_  (cwV 0 F.1.2.2.2.2 gL_turns_X4_rounds rfl rfl rfl hd_X4_rounds ⟨Nat.le_of_ble_eq_true rfl, Nat.le_of_ble_eq_true rfl⟩) (Nat.le_of_ble_eq_true rfl) dL_turns_577 ⟨Nat.le_of_ble_eq_true rfl, Nat.le_of_ble_eq_true rfl⟩ ?_
  show zW p l e rmL_turns s m args below meth c 250 2337 Q G.1 A 1 (zWL G (zd dL18_) (zd dT2_) (zd dE6_) (zd dV2_) (zd dM3_) (zd dK2_)) [(0, .ref (G.2.2 0 0))] 580 [.int 3]
  refine zi_iconst (pc := 580) (v := 3) F dL_turns_580 rfl ?_
  refine zi_icmp_eq (pc := 581) (tgt := 586) F dL_turns_581 (by decide) (fun _ => ?_) (fun h => absurd h (by decide))
  refine zi_aload_n (pc := 586) F dL_turns_586 0 rfl ?_
  refine zi_iconst (pc := 587) (v := 0) F dL_turns_587 rfl ?_
  refine zr_power (pc := 588) hfl F hsx ev77_ okdT2_ (cwV 1 F.1.2.2.2.2 gL_turns_X4_power rfl rfl rfl hd_X4_power ⟨Nat.le_of_ble_eq_true rfl, Nat.le_of_ble_eq_true rfl⟩) (Nat.le_of_ble_eq_true rfl) dL_turns_588 ⟨Nat.le_of_ble_eq_true rfl, Nat.le_of_ble_eq_true rfl⟩ ?_
  show zW p l e rmL_turns s m args below meth c 251 2343 Q G.1 A 1 (zWL G (zd dL18_) (zd dT2_) (zd dE6_) (zd dV2_) (zd dM3_) (zd dK2_)) [(0, .ref (G.2.2 0 0))] 591 [.int 2]
  refine zi_iconst (pc := 591) (v := 2) F dL_turns_591 rfl ?_
  refine zi_icmp_ne (pc := 592) (tgt := 606) F dL_turns_592 (by decide) (fun h => absurd h (by decide)) (fun _ => ?_)
  refine zi_aload_n (pc := 595) F dL_turns_595 0 rfl ?_
  refine zi_callQI (pc := 596) (rest := []) (ws' := zWL G (zd dL18_) (zd dT2_) (zd dE6_) (zd dV2_) (zd dM3_) (zd dK2_)) F hsx hao (c_L_refuses l hfl G (zd dL18_) (zd dT2_) (zd dE6_) (zd dV2_) (zd dM3_) (zd dK2_) okdT2_ okdE6_ okdM3_) (va_cwS 1 F.1.2.2.2.2 gL_turns_L_refuses rfl rfl rfl hd_L_refuses ⟨Nat.le_of_ble_eq_true rfl, Nat.le_of_ble_eq_true rfl⟩) [] [] (zw_nil _) (zw_nil _).symm rfl rfl (Nat.le_of_ble_eq_true rfl) dL_turns_596 ⟨Nat.le_of_ble_eq_true rfl, Nat.le_of_ble_eq_true rfl⟩ ?_
  show zW p l e rmL_turns s m args below meth c 323 2775 Q G.1 A 1 (zWL G (zd dL18_) (zd dT2_) (zd dE6_) (zd dV2_) (zd dM3_) (zd dK2_)) [(0, .ref (G.2.2 0 0))] 599 [.int 1]
  refine zi_if_eq (pc := 599) (tgt := 606) F dL_turns_599 (by decide) (fun h => absurd h (by decide)) (fun _ => ?_)
  refine zi_iconst (pc := 602) (v := 1) F dL_turns_602 rfl ?_
  refine zi_goto (pc := 603) (tgt := 607) F dL_turns_603 (by decide) ?_
  exact kk
