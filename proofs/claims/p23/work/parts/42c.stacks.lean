set_option maxHeartbeats 4000000 in
set_option maxRecDepth 100000 in
theorem sg_stacks_0 {p : Program} {l : Launch} {e : Env} {s : State} {m : MethodId} {args : Array Value} {below : List Frame} {meth : Method} {c : Code} {Q : State → Prop} {A : Nat → Prop} {G : zG_t} (hfl : l.stackTraces = false) (F : zF p m c cL_stacks 2 s args wsL_stacks RL G.1 (zty G) A) (hsx : zSx s) (hao : zAOA s) (kk : zW p l e rmL_stacks s m args below meth c 70 1257 Q G.1 A 2 (zWL G (zd dL53_) (zd dT0_) (zd dE33_) (zd dV0_) (zd dM26_) (zd dK14_)) [(0, .ref (G.2.2 0 0))] 100 []) : zW p l e rmL_stacks s m args below meth c 62 1209 Q G.1 A 2 (zWL G (zd dL0_) (zd dT0_) (zd dE0_) (zd dV0_) (zd dM0_) (zd dK0_)) [(0, .ref (G.2.2 0 0))] 8 [] := by
  refine zi_aload_n (pc := 8) F dL_stacks_8 0 rfl ?_
  refine zi_iconst (pc := 9) (v := 0) F dL_stacks_9 rfl ?_
  refine zi_iconst (pc := 10) (v := 0) F dL_stacks_10 rfl ?_
  refine zr_play (pc := 11) hfl F hsx ev198_ okdT0_ okdE0_ okdM0_ (cwV 2 F.1.2.2.2.2 gL_stacks_X4_play rfl rfl rfl hd_X4_play ⟨Nat.le_of_ble_eq_true rfl, Nat.le_of_ble_eq_true rfl⟩) (Nat.le_of_ble_eq_true rfl) dL_stacks_11 ⟨Nat.le_of_ble_eq_true rfl, Nat.le_of_ble_eq_true rfl⟩ ?_
  show zW p l e rmL_stacks s m args below meth c 63 1215 Q G.1 A 2 (zWL G (zd dL1_) (zd dT0_) (zd dE1_) (zd dV0_) (zd dM0_) (zd dK0_)) [(0, .ref (G.2.2 0 0))] 14 [.int 1]
  refine zi_iconst (pc := 14) (v := 1) F dL_stacks_14 rfl ?_
  refine zi_icmp_ne (pc := 15) (tgt := 144) F dL_stacks_15 (by decide) (fun h => absurd h (by decide)) (fun _ => ?_)
  refine zi_aload_n (pc := 18) F dL_stacks_18 0 rfl ?_
  refine zi_bipush (pc := 19) (v := 13) F dL_stacks_19 rfl ?_
  refine zi_iconst (pc := 21) (v := 0) F dL_stacks_21 rfl ?_
  refine zr_play (pc := 22) hfl F hsx ev199_ okdT0_ okdE1_ okdM0_ (cwV 2 F.1.2.2.2.2 gL_stacks_X4_play rfl rfl rfl hd_X4_play ⟨Nat.le_of_ble_eq_true rfl, Nat.le_of_ble_eq_true rfl⟩) (Nat.le_of_ble_eq_true rfl) dL_stacks_22 ⟨Nat.le_of_ble_eq_true rfl, Nat.le_of_ble_eq_true rfl⟩ ?_
  show zW p l e rmL_stacks s m args below meth c 64 1221 Q G.1 A 2 (zWL G (zd dL52_) (zd dT0_) (zd dE31_) (zd dV0_) (zd dM0_) (zd dK0_)) [(0, .ref (G.2.2 0 0))] 25 [.int 2]
  refine zi_iconst (pc := 25) (v := 2) F dL_stacks_25 rfl ?_
  refine zi_icmp_ne (pc := 26) (tgt := 144) F dL_stacks_26 (by decide) (fun h => absurd h (by decide)) (fun _ => ?_)
  refine zi_aload_n (pc := 29) F dL_stacks_29 0 rfl ?_
  refine zi_iconst (pc := 30) (v := 0) F dL_stacks_30 rfl ?_
  refine zr_entryTarget (pc := 31) hfl F hsx ev200_ okdT0_ okdE31_ (cwV 1 F.1.2.2.2.2 gL_stacks_X4_entryTarget rfl rfl rfl hd_X4_entryTarget ⟨Nat.le_of_ble_eq_true rfl, Nat.le_of_ble_eq_true rfl⟩) (Nat.le_of_ble_eq_true rfl) dL_stacks_31 ⟨Nat.le_of_ble_eq_true rfl, Nat.le_of_ble_eq_true rfl⟩ ?_
  show zW p l e rmL_stacks s m args below meth c 65 1227 Q G.1 A 2 (zWL G (zd dL52_) (zd dT0_) (zd dE31_) (zd dV0_) (zd dM0_) (zd dK0_)) [(0, .ref (G.2.2 0 0))] 34 [.int 1]
  refine zi_iconst (pc := 34) (v := 1) F dL_stacks_34 rfl ?_
  refine zi_icmp_ne (pc := 35) (tgt := 144) F dL_stacks_35 (by decide) (fun h => absurd h (by decide)) (fun _ => ?_)
  refine zi_aload_n (pc := 38) F dL_stacks_38 0 rfl ?_
  refine zi_bipush (pc := 39) (v := 13) F dL_stacks_39 rfl ?_
  refine zi_iconst (pc := 41) (v := 0) F dL_stacks_41 rfl ?_
  refine zr_play (pc := 42) hfl F hsx ev201_ okdT0_ okdE31_ okdM0_ (cwV 2 F.1.2.2.2.2 gL_stacks_X4_play rfl rfl rfl hd_X4_play ⟨Nat.le_of_ble_eq_true rfl, Nat.le_of_ble_eq_true rfl⟩) (Nat.le_of_ble_eq_true rfl) dL_stacks_42 ⟨Nat.le_of_ble_eq_true rfl, Nat.le_of_ble_eq_true rfl⟩ ?_
  show zW p l e rmL_stacks s m args below meth c 66 1233 Q G.1 A 2 (zWL G (zd dL53_) (zd dT0_) (zd dE32_) (zd dV0_) (zd dM0_) (zd dK0_)) [(0, .ref (G.2.2 0 0))] 45 [.int 3]
  refine zi_iconst (pc := 45) (v := 3) F dL_stacks_45 rfl ?_
  refine zi_icmp_ne (pc := 46) (tgt := 144) F dL_stacks_46 (by decide) (fun h => absurd h (by decide)) (fun _ => ?_)
  refine zi_aload_n (pc := 49) F dL_stacks_49 0 rfl ?_
  refine zi_iconst (pc := 50) (v := 0) F dL_stacks_50 rfl ?_
  refine zr_entryTarget (pc := 51) hfl F hsx ev202_ okdT0_ okdE32_ (cwV 1 F.1.2.2.2.2 gL_stacks_X4_entryTarget rfl rfl rfl hd_X4_entryTarget ⟨Nat.le_of_ble_eq_true rfl, Nat.le_of_ble_eq_true rfl⟩) (Nat.le_of_ble_eq_true rfl) dL_stacks_51 ⟨Nat.le_of_ble_eq_true rfl, Nat.le_of_ble_eq_true rfl⟩ ?_
  show zW p l e rmL_stacks s m args below meth c 67 1239 Q G.1 A 2 (zWL G (zd dL53_) (zd dT0_) (zd dE32_) (zd dV0_) (zd dM0_) (zd dK0_)) [(0, .ref (G.2.2 0 0))] 54 [.int 1]
  refine zi_iconst (pc := 54) (v := 1) F dL_stacks_54 rfl ?_
  refine zi_icmp_ne (pc := 55) (tgt := 144) F dL_stacks_55 (by decide) (fun h => absurd h (by decide)) (fun _ => ?_)
  refine zi_aload_n (pc := 58) F dL_stacks_58 0 rfl ?_
  refine zi_iconst (pc := 59) (v := 1) F dL_stacks_59 rfl ?_
  refine zr_entryTarget (pc := 60) hfl F hsx ev203_ okdT0_ okdE32_ (cwV 1 F.1.2.2.2.2 gL_stacks_X4_entryTarget rfl rfl rfl hd_X4_entryTarget ⟨Nat.le_of_ble_eq_true rfl, Nat.le_of_ble_eq_true rfl⟩) (Nat.le_of_ble_eq_true rfl) dL_stacks_60 ⟨Nat.le_of_ble_eq_true rfl, Nat.le_of_ble_eq_true rfl⟩ ?_
  show zW p l e rmL_stacks s m args below meth c 68 1245 Q G.1 A 2 (zWL G (zd dL53_) (zd dT0_) (zd dE32_) (zd dV0_) (zd dM0_) (zd dK0_)) [(0, .ref (G.2.2 0 0))] 63 [.int 2]
  refine zi_iconst (pc := 63) (v := 2) F dL_stacks_63 rfl ?_
  refine zi_icmp_ne (pc := 64) (tgt := 144) F dL_stacks_64 (by decide) (fun h => absurd h (by decide)) (fun _ => ?_)
  refine zi_aload_n (pc := 67) F dL_stacks_67 0 rfl ?_
  refine zi_iconst (pc := 68) (v := 2) F dL_stacks_68 rfl ?_
  refine zr_entryTarget (pc := 69) hfl F hsx ev204_ okdT0_ okdE32_ (cwV 1 F.1.2.2.2.2 gL_stacks_X4_entryTarget rfl rfl rfl hd_X4_entryTarget ⟨Nat.le_of_ble_eq_true rfl, Nat.le_of_ble_eq_true rfl⟩) (Nat.le_of_ble_eq_true rfl) dL_stacks_69 ⟨Nat.le_of_ble_eq_true rfl, Nat.le_of_ble_eq_true rfl⟩ ?_
  show zW p l e rmL_stacks s m args below meth c 69 1251 Q G.1 A 2 (zWL G (zd dL53_) (zd dT0_) (zd dE32_) (zd dV0_) (zd dM0_) (zd dK0_)) [(0, .ref (G.2.2 0 0))] 72 [.int (-1)]
  refine zi_iconst (pc := 72) (v := (-1)) F dL_stacks_72 rfl ?_
  refine zi_icmp_ne (pc := 73) (tgt := 144) F dL_stacks_73 (by decide) (fun h => absurd h (by decide)) (fun _ => ?_)
  refine zi_aload_n (pc := 76) F dL_stacks_76 0 rfl ?_
  refine zr_acting (pc := 77) hfl F hsx ev205_  (cwV 0 F.1.2.2.2.2 gL_stacks_X4_acting rfl rfl rfl hd_X4_acting ⟨Nat.le_of_ble_eq_true rfl, Nat.le_of_ble_eq_true rfl⟩) (Nat.le_of_ble_eq_true rfl) dL_stacks_77 ⟨Nat.le_of_ble_eq_true rfl, Nat.le_of_ble_eq_true rfl⟩ ?_
  show zW p l e rmL_stacks s m args below meth c 69 1251 Q G.1 A 2 (zWL G (zd dL53_) (zd dT0_) (zd dE32_) (zd dV0_) (zd dM0_) (zd dK0_)) [(0, .ref (G.2.2 0 0))] 80 [.int 0]
  refine zi_if_ne (pc := 80) (tgt := 144) F dL_stacks_80 (by decide) (fun h => absurd h (by decide)) (fun _ => ?_)
  refine zi_aload_n (pc := 83) F dL_stacks_83 0 rfl ?_
  refine zi_iconst (pc := 84) (v := 1) F dL_stacks_84 rfl ?_
  refine zr_settle (pc := 85) hfl F hsx ev206_ okdT0_ okdE32_ okdM0_ (cwV 1 F.1.2.2.2.2 gL_stacks_X4_settle rfl rfl rfl hd_X4_settle ⟨Nat.le_of_ble_eq_true rfl, Nat.le_of_ble_eq_true rfl⟩) (Nat.le_of_ble_eq_true rfl) dL_stacks_85 ⟨Nat.le_of_ble_eq_true rfl, Nat.le_of_ble_eq_true rfl⟩ ?_
  show zW p l e rmL_stacks s m args below meth c 70 1257 Q G.1 A 2 (zWL G (zd dL53_) (zd dT0_) (zd dE33_) (zd dV0_) (zd dM26_) (zd dK14_)) [(0, .ref (G.2.2 0 0))] 88 [.int 1]
  refine zi_iconst (pc := 88) (v := 1) F dL_stacks_88 rfl ?_
  refine zi_icmp_ne (pc := 89) (tgt := 144) F dL_stacks_89 (by decide) (fun h => absurd h (by decide)) (fun _ => ?_)
  refine zi_aload_n (pc := 92) F dL_stacks_92 0 rfl ?_
  refine zr_stack (pc := 93) hfl F hsx ev207_  (cwV 0 F.1.2.2.2.2 gL_stacks_X4_stack rfl rfl rfl hd_X4_stack ⟨Nat.le_of_ble_eq_true rfl, Nat.le_of_ble_eq_true rfl⟩) (Nat.le_of_ble_eq_true rfl) dL_stacks_93 ⟨Nat.le_of_ble_eq_true rfl, Nat.le_of_ble_eq_true rfl⟩ ?_
  show zW p l e rmL_stacks s m args below meth c 70 1257 Q G.1 A 2 (zWL G (zd dL53_) (zd dT0_) (zd dE33_) (zd dV0_) (zd dM26_) (zd dK14_)) [(0, .ref (G.2.2 0 0))] 96 [.int 1]
  refine zi_iconst (pc := 96) (v := 1) F dL_stacks_96 rfl ?_
  refine zi_icmp_ne (pc := 97) (tgt := 144) F dL_stacks_97 (by decide) (fun h => absurd h (by decide)) (fun _ => ?_)
  exact kk
set_option maxHeartbeats 4000000 in
set_option maxRecDepth 100000 in
theorem sg_stacks_1 {p : Program} {l : Launch} {e : Env} {s : State} {m : MethodId} {args : Array Value} {below : List Frame} {meth : Method} {c : Code} {Q : State → Prop} {A : Nat → Prop} {G : zG_t} (hfl : l.stackTraces = false) (F : zF p m c cL_stacks 2 s args wsL_stacks RL G.1 (zty G) A) (hsx : zSx s) (hao : zAOA s) (kk : zW p l e rmL_stacks s m args below meth c 76 1293 Q G.1 A 2 (zWL G (zd dL56_) (zd dT14_) (zd dE36_) (zd dV1_) (zd dM2_) (zd dK15_)) [(0, .ref (G.2.2 0 0)), (1, .int 2)] 164 []) : zW p l e rmL_stacks s m args below meth c 70 1257 Q G.1 A 2 (zWL G (zd dL53_) (zd dT0_) (zd dE33_) (zd dV0_) (zd dM26_) (zd dK14_)) [(0, .ref (G.2.2 0 0))] 100 [] := by
  refine zi_aload_n (pc := 100) F dL_stacks_100 0 rfl ?_
  refine zi_iconst (pc := 101) (v := 0) F dL_stacks_101 rfl ?_
  refine zr_entryCard (pc := 102) hfl F hsx ev208_ okdE33_ (cwV 1 F.1.2.2.2.2 gL_stacks_X4_entryCard rfl rfl rfl hd_X4_entryCard ⟨Nat.le_of_ble_eq_true rfl, Nat.le_of_ble_eq_true rfl⟩) (Nat.le_of_ble_eq_true rfl) dL_stacks_102 ⟨Nat.le_of_ble_eq_true rfl, Nat.le_of_ble_eq_true rfl⟩ ?_
  show zW p l e rmL_stacks s m args below meth c 71 1263 Q G.1 A 2 (zWL G (zd dL53_) (zd dT0_) (zd dE33_) (zd dV0_) (zd dM26_) (zd dK14_)) [(0, .ref (G.2.2 0 0))] 105 [.int 0]
  refine zi_if_ne (pc := 105) (tgt := 144) F dL_stacks_105 (by decide) (fun h => absurd h (by decide)) (fun _ => ?_)
  refine zi_aload_n (pc := 108) F dL_stacks_108 0 rfl ?_
  refine zi_bipush (pc := 109) (v := 60) F dL_stacks_109 rfl ?_
  refine zr_settle (pc := 111) hfl F hsx ev209_ okdT0_ okdE33_ okdM26_ (cwV 1 F.1.2.2.2.2 gL_stacks_X4_settle rfl rfl rfl hd_X4_settle ⟨Nat.le_of_ble_eq_true rfl, Nat.le_of_ble_eq_true rfl⟩) (Nat.le_of_ble_eq_true rfl) dL_stacks_111 ⟨Nat.le_of_ble_eq_true rfl, Nat.le_of_ble_eq_true rfl⟩ ?_
  show zW p l e rmL_stacks s m args below meth c 72 1269 Q G.1 A 2 (zWL G (zd dL54_) (zd dT14_) (zd dE34_) (zd dV1_) (zd dM27_) (zd dK15_)) [(0, .ref (G.2.2 0 0))] 114 [.int 1]
  refine zi_iconst (pc := 114) (v := 1) F dL_stacks_114 rfl ?_
  refine zi_icmp_ne (pc := 115) (tgt := 144) F dL_stacks_115 (by decide) (fun h => absurd h (by decide)) (fun _ => ?_)
  refine zi_aload_n (pc := 118) F dL_stacks_118 0 rfl ?_
  refine zr_things (pc := 119) hfl F hsx ev210_  (cwV 0 F.1.2.2.2.2 gL_stacks_X4_things rfl rfl rfl hd_X4_things ⟨Nat.le_of_ble_eq_true rfl, Nat.le_of_ble_eq_true rfl⟩) (Nat.le_of_ble_eq_true rfl) dL_stacks_119 ⟨Nat.le_of_ble_eq_true rfl, Nat.le_of_ble_eq_true rfl⟩ ?_
  show zW p l e rmL_stacks s m args below meth c 72 1269 Q G.1 A 2 (zWL G (zd dL54_) (zd dT14_) (zd dE34_) (zd dV1_) (zd dM27_) (zd dK15_)) [(0, .ref (G.2.2 0 0))] 122 [.int 1]
  refine zi_iconst (pc := 122) (v := 1) F dL_stacks_122 rfl ?_
  refine zi_icmp_ne (pc := 123) (tgt := 144) F dL_stacks_123 (by decide) (fun h => absurd h (by decide)) (fun _ => ?_)
  refine zi_aload_n (pc := 126) F dL_stacks_126 0 rfl ?_
  refine zi_iconst (pc := 127) (v := 1) F dL_stacks_127 rfl ?_
  refine zr_coins (pc := 128) hfl F hsx ev211_  (cwV 1 F.1.2.2.2.2 gL_stacks_X4_coins rfl rfl rfl hd_X4_coins ⟨Nat.le_of_ble_eq_true rfl, Nat.le_of_ble_eq_true rfl⟩) (Nat.le_of_ble_eq_true rfl) dL_stacks_128 ⟨Nat.le_of_ble_eq_true rfl, Nat.le_of_ble_eq_true rfl⟩ ?_
  show zW p l e rmL_stacks s m args below meth c 73 1275 Q G.1 A 2 (zWL G (zd dL54_) (zd dT14_) (zd dE34_) (zd dV1_) (zd dM27_) (zd dK15_)) [(0, .ref (G.2.2 0 0))] 131 [.int 5]
  refine zi_iconst (pc := 131) (v := 5) F dL_stacks_131 rfl ?_
  refine zi_icmp_ne (pc := 132) (tgt := 144) F dL_stacks_132 (by decide) (fun h => absurd h (by decide)) (fun _ => ?_)
  refine zi_aload_n (pc := 135) F dL_stacks_135 0 rfl ?_
  refine zi_iconst (pc := 136) (v := 2) F dL_stacks_136 rfl ?_
  refine zr_coins (pc := 137) hfl F hsx ev212_  (cwV 1 F.1.2.2.2.2 gL_stacks_X4_coins rfl rfl rfl hd_X4_coins ⟨Nat.le_of_ble_eq_true rfl, Nat.le_of_ble_eq_true rfl⟩) (Nat.le_of_ble_eq_true rfl) dL_stacks_137 ⟨Nat.le_of_ble_eq_true rfl, Nat.le_of_ble_eq_true rfl⟩ ?_
  show zW p l e rmL_stacks s m args below meth c 74 1281 Q G.1 A 2 (zWL G (zd dL54_) (zd dT14_) (zd dE34_) (zd dV1_) (zd dM27_) (zd dK15_)) [(0, .ref (G.2.2 0 0))] 140 [.int 5]
  refine zi_iconst (pc := 140) (v := 5) F dL_stacks_140 rfl ?_
  refine zi_icmp_eq (pc := 141) (tgt := 146) F dL_stacks_141 (by decide) (fun _ => ?_) (fun h => absurd h (by decide))
  refine zi_iconst (pc := 146) (v := 0) F dL_stacks_146 rfl ?_
  refine zi_istore_n (pc := 147) (lv' := [(0, .ref (G.2.2 0 0)), (1, .int 0)]) F dL_stacks_147 (by decide) rfl ?_
  refine zi_iload_n (pc := 148) F dL_stacks_148 1 rfl ?_
  refine zi_bipush (pc := 149) (v := 12) F dL_stacks_149 rfl ?_
  refine zi_icmp_ge (pc := 151) (tgt := 185) F dL_stacks_151 (by decide) (fun h => absurd h (by decide)) (fun _ => ?_)
  refine zi_aload_n (pc := 154) F dL_stacks_154 0 rfl ?_
  refine zr_acting (pc := 155) hfl F hsx ev213_  (cwV 0 F.1.2.2.2.2 gL_stacks_X4_acting rfl rfl rfl hd_X4_acting ⟨Nat.le_of_ble_eq_true rfl, Nat.le_of_ble_eq_true rfl⟩) (Nat.le_of_ble_eq_true rfl) dL_stacks_155 ⟨Nat.le_of_ble_eq_true rfl, Nat.le_of_ble_eq_true rfl⟩ ?_
  show zW p l e rmL_stacks s m args below meth c 74 1281 Q G.1 A 2 (zWL G (zd dL54_) (zd dT14_) (zd dE34_) (zd dV1_) (zd dM27_) (zd dK15_)) [(0, .ref (G.2.2 0 0)), (1, .int 0)] 158 [.int 0]
  refine zi_iload_n (pc := 158) F dL_stacks_158 1 rfl ?_
  refine zi_iconst (pc := 159) (v := 3) F dL_stacks_159 rfl ?_
  refine zi_irem (pc := 160) F dL_stacks_160 (by decide) ?_
  refine zi_toplit (y := 0) (by decide) ?_
  refine zi_icmp_ne (pc := 161) (tgt := 177) F dL_stacks_161 (by decide) (fun h => absurd h (by decide)) (fun _ => ?_)
  refine zi_aload_n (pc := 164) F dL_stacks_164 0 rfl ?_
  refine zi_bipush (pc := 165) (v := 12) F dL_stacks_165 rfl ?_
  refine zi_iconst (pc := 167) (v := 0) F dL_stacks_167 rfl ?_
  refine zr_play (pc := 168) hfl F hsx ev214_ okdT14_ okdE34_ okdM27_ (cwV 2 F.1.2.2.2.2 gL_stacks_X4_play rfl rfl rfl hd_X4_play ⟨Nat.le_of_ble_eq_true rfl, Nat.le_of_ble_eq_true rfl⟩) (Nat.le_of_ble_eq_true rfl) dL_stacks_168 ⟨Nat.le_of_ble_eq_true rfl, Nat.le_of_ble_eq_true rfl⟩ ?_
  show zW p l e rmL_stacks s m args below meth c 75 1287 Q G.1 A 2 (zWL G (zd dL55_) (zd dT14_) (zd dE35_) (zd dV1_) (zd dM2_) (zd dK15_)) [(0, .ref (G.2.2 0 0)), (1, .int 0)] 171 [.int 1]
  refine zi_iload_n (pc := 171) F dL_stacks_171 1 rfl ?_
  refine zi_iconst (pc := 172) (v := 1) F dL_stacks_172 rfl ?_
  refine zi_iadd (pc := 173) F dL_stacks_173 ?_
  refine zi_toplit (y := 1) (by decide) ?_
  refine zi_icmp_eq (pc := 174) (tgt := 179) F dL_stacks_174 (by decide) (fun _ => ?_) (fun h => absurd h (by decide))
  refine zi_iinc (pc := 179) (lv' := [(0, .ref (G.2.2 0 0)), (1, .int 1)]) F dL_stacks_179 1 rfl (by decide) (by decide) rfl ?_
  refine zi_goto (pc := 182) (tgt := 148) F dL_stacks_182 (by decide) ?_
  refine zi_iload_n (pc := 148) F dL_stacks_148 1 rfl ?_
  refine zi_bipush (pc := 149) (v := 12) F dL_stacks_149 rfl ?_
  refine zi_icmp_ge (pc := 151) (tgt := 185) F dL_stacks_151 (by decide) (fun h => absurd h (by decide)) (fun _ => ?_)
  refine zi_aload_n (pc := 154) F dL_stacks_154 0 rfl ?_
  refine zr_acting (pc := 155) hfl F hsx ev215_  (cwV 0 F.1.2.2.2.2 gL_stacks_X4_acting rfl rfl rfl hd_X4_acting ⟨Nat.le_of_ble_eq_true rfl, Nat.le_of_ble_eq_true rfl⟩) (Nat.le_of_ble_eq_true rfl) dL_stacks_155 ⟨Nat.le_of_ble_eq_true rfl, Nat.le_of_ble_eq_true rfl⟩ ?_
  show zW p l e rmL_stacks s m args below meth c 75 1287 Q G.1 A 2 (zWL G (zd dL55_) (zd dT14_) (zd dE35_) (zd dV1_) (zd dM2_) (zd dK15_)) [(0, .ref (G.2.2 0 0)), (1, .int 1)] 158 [.int 1]
  refine zi_iload_n (pc := 158) F dL_stacks_158 1 rfl ?_
  refine zi_iconst (pc := 159) (v := 3) F dL_stacks_159 rfl ?_
  refine zi_irem (pc := 160) F dL_stacks_160 (by decide) ?_
  refine zi_toplit (y := 1) (by decide) ?_
  refine zi_icmp_ne (pc := 161) (tgt := 177) F dL_stacks_161 (by decide) (fun h => absurd h (by decide)) (fun _ => ?_)
  refine zi_aload_n (pc := 164) F dL_stacks_164 0 rfl ?_
  refine zi_bipush (pc := 165) (v := 12) F dL_stacks_165 rfl ?_
  refine zi_iconst (pc := 167) (v := 0) F dL_stacks_167 rfl ?_
  refine zr_play (pc := 168) hfl F hsx ev216_ okdT14_ okdE35_ okdM2_ (cwV 2 F.1.2.2.2.2 gL_stacks_X4_play rfl rfl rfl hd_X4_play ⟨Nat.le_of_ble_eq_true rfl, Nat.le_of_ble_eq_true rfl⟩) (Nat.le_of_ble_eq_true rfl) dL_stacks_168 ⟨Nat.le_of_ble_eq_true rfl, Nat.le_of_ble_eq_true rfl⟩ ?_
  show zW p l e rmL_stacks s m args below meth c 76 1293 Q G.1 A 2 (zWL G (zd dL56_) (zd dT14_) (zd dE36_) (zd dV1_) (zd dM2_) (zd dK15_)) [(0, .ref (G.2.2 0 0)), (1, .int 1)] 171 [.int 2]
  refine zi_iload_n (pc := 171) F dL_stacks_171 1 rfl ?_
  refine zi_iconst (pc := 172) (v := 1) F dL_stacks_172 rfl ?_
  refine zi_iadd (pc := 173) F dL_stacks_173 ?_
  refine zi_toplit (y := 2) (by decide) ?_
  refine zi_icmp_eq (pc := 174) (tgt := 179) F dL_stacks_174 (by decide) (fun _ => ?_) (fun h => absurd h (by decide))
  refine zi_iinc (pc := 179) (lv' := [(0, .ref (G.2.2 0 0)), (1, .int 2)]) F dL_stacks_179 1 rfl (by decide) (by decide) rfl ?_
  refine zi_goto (pc := 182) (tgt := 148) F dL_stacks_182 (by decide) ?_
  refine zi_iload_n (pc := 148) F dL_stacks_148 1 rfl ?_
  refine zi_bipush (pc := 149) (v := 12) F dL_stacks_149 rfl ?_
  refine zi_icmp_ge (pc := 151) (tgt := 185) F dL_stacks_151 (by decide) (fun h => absurd h (by decide)) (fun _ => ?_)
  refine zi_aload_n (pc := 154) F dL_stacks_154 0 rfl ?_
  refine zr_acting (pc := 155) hfl F hsx ev217_  (cwV 0 F.1.2.2.2.2 gL_stacks_X4_acting rfl rfl rfl hd_X4_acting ⟨Nat.le_of_ble_eq_true rfl, Nat.le_of_ble_eq_true rfl⟩) (Nat.le_of_ble_eq_true rfl) dL_stacks_155 ⟨Nat.le_of_ble_eq_true rfl, Nat.le_of_ble_eq_true rfl⟩ ?_
  show zW p l e rmL_stacks s m args below meth c 76 1293 Q G.1 A 2 (zWL G (zd dL56_) (zd dT14_) (zd dE36_) (zd dV1_) (zd dM2_) (zd dK15_)) [(0, .ref (G.2.2 0 0)), (1, .int 2)] 158 [.int 2]
  refine zi_iload_n (pc := 158) F dL_stacks_158 1 rfl ?_
  refine zi_iconst (pc := 159) (v := 3) F dL_stacks_159 rfl ?_
  refine zi_irem (pc := 160) F dL_stacks_160 (by decide) ?_
  refine zi_toplit (y := 2) (by decide) ?_
  refine zi_icmp_ne (pc := 161) (tgt := 177) F dL_stacks_161 (by decide) (fun h => absurd h (by decide)) (fun _ => ?_)
  exact kk
set_option maxHeartbeats 4000000 in
set_option maxRecDepth 100000 in
theorem sg_stacks_2 {p : Program} {l : Launch} {e : Env} {s : State} {m : MethodId} {args : Array Value} {below : List Frame} {meth : Method} {c : Code} {Q : State → Prop} {A : Nat → Prop} {G : zG_t} (hfl : l.stackTraces = false) (F : zF p m c cL_stacks 2 s args wsL_stacks RL G.1 (zty G) A) (hsx : zSx s) (hao : zAOA s) (kk : zW p l e rmL_stacks s m args below meth c 81 1323 Q G.1 A 2 (zWL G (zd dL61_) (zd dT14_) (zd dE41_) (zd dV1_) (zd dM2_) (zd dK15_)) [(0, .ref (G.2.2 0 0)), (1, .int 7)] 164 []) : zW p l e rmL_stacks s m args below meth c 76 1293 Q G.1 A 2 (zWL G (zd dL56_) (zd dT14_) (zd dE36_) (zd dV1_) (zd dM2_) (zd dK15_)) [(0, .ref (G.2.2 0 0)), (1, .int 2)] 164 [] := by
  refine zi_aload_n (pc := 164) F dL_stacks_164 0 rfl ?_
  refine zi_bipush (pc := 165) (v := 12) F dL_stacks_165 rfl ?_
  refine zi_iconst (pc := 167) (v := 0) F dL_stacks_167 rfl ?_
  refine zr_play (pc := 168) hfl F hsx ev218_ okdT14_ okdE36_ okdM2_ (cwV 2 F.1.2.2.2.2 gL_stacks_X4_play rfl rfl rfl hd_X4_play ⟨Nat.le_of_ble_eq_true rfl, Nat.le_of_ble_eq_true rfl⟩) (Nat.le_of_ble_eq_true rfl) dL_stacks_168 ⟨Nat.le_of_ble_eq_true rfl, Nat.le_of_ble_eq_true rfl⟩ ?_
  show zW p l e rmL_stacks s m args below meth c 77 1299 Q G.1 A 2 (zWL G (zd dL57_) (zd dT14_) (zd dE37_) (zd dV1_) (zd dM2_) (zd dK15_)) [(0, .ref (G.2.2 0 0)), (1, .int 2)] 171 [.int 3]
  refine zi_iload_n (pc := 171) F dL_stacks_171 1 rfl ?_
  refine zi_iconst (pc := 172) (v := 1) F dL_stacks_172 rfl ?_
  refine zi_iadd (pc := 173) F dL_stacks_173 ?_
  refine zi_toplit (y := 3) (by decide) ?_
  refine zi_icmp_eq (pc := 174) (tgt := 179) F dL_stacks_174 (by decide) (fun _ => ?_) (fun h => absurd h (by decide))
  refine zi_iinc (pc := 179) (lv' := [(0, .ref (G.2.2 0 0)), (1, .int 3)]) F dL_stacks_179 1 rfl (by decide) (by decide) rfl ?_
  refine zi_goto (pc := 182) (tgt := 148) F dL_stacks_182 (by decide) ?_
  refine zi_iload_n (pc := 148) F dL_stacks_148 1 rfl ?_
  refine zi_bipush (pc := 149) (v := 12) F dL_stacks_149 rfl ?_
  refine zi_icmp_ge (pc := 151) (tgt := 185) F dL_stacks_151 (by decide) (fun h => absurd h (by decide)) (fun _ => ?_)
  refine zi_aload_n (pc := 154) F dL_stacks_154 0 rfl ?_
  refine zr_acting (pc := 155) hfl F hsx ev219_  (cwV 0 F.1.2.2.2.2 gL_stacks_X4_acting rfl rfl rfl hd_X4_acting ⟨Nat.le_of_ble_eq_true rfl, Nat.le_of_ble_eq_true rfl⟩) (Nat.le_of_ble_eq_true rfl) dL_stacks_155 ⟨Nat.le_of_ble_eq_true rfl, Nat.le_of_ble_eq_true rfl⟩ ?_
  show zW p l e rmL_stacks s m args below meth c 77 1299 Q G.1 A 2 (zWL G (zd dL57_) (zd dT14_) (zd dE37_) (zd dV1_) (zd dM2_) (zd dK15_)) [(0, .ref (G.2.2 0 0)), (1, .int 3)] 158 [.int 0]
  refine zi_iload_n (pc := 158) F dL_stacks_158 1 rfl ?_
  refine zi_iconst (pc := 159) (v := 3) F dL_stacks_159 rfl ?_
  refine zi_irem (pc := 160) F dL_stacks_160 (by decide) ?_
  refine zi_toplit (y := 0) (by decide) ?_
  refine zi_icmp_ne (pc := 161) (tgt := 177) F dL_stacks_161 (by decide) (fun h => absurd h (by decide)) (fun _ => ?_)
  refine zi_aload_n (pc := 164) F dL_stacks_164 0 rfl ?_
  refine zi_bipush (pc := 165) (v := 12) F dL_stacks_165 rfl ?_
  refine zi_iconst (pc := 167) (v := 0) F dL_stacks_167 rfl ?_
  refine zr_play (pc := 168) hfl F hsx ev220_ okdT14_ okdE37_ okdM2_ (cwV 2 F.1.2.2.2.2 gL_stacks_X4_play rfl rfl rfl hd_X4_play ⟨Nat.le_of_ble_eq_true rfl, Nat.le_of_ble_eq_true rfl⟩) (Nat.le_of_ble_eq_true rfl) dL_stacks_168 ⟨Nat.le_of_ble_eq_true rfl, Nat.le_of_ble_eq_true rfl⟩ ?_
  show zW p l e rmL_stacks s m args below meth c 78 1305 Q G.1 A 2 (zWL G (zd dL58_) (zd dT14_) (zd dE38_) (zd dV1_) (zd dM2_) (zd dK15_)) [(0, .ref (G.2.2 0 0)), (1, .int 3)] 171 [.int 4]
  refine zi_iload_n (pc := 171) F dL_stacks_171 1 rfl ?_
  refine zi_iconst (pc := 172) (v := 1) F dL_stacks_172 rfl ?_
  refine zi_iadd (pc := 173) F dL_stacks_173 ?_
  refine zi_toplit (y := 4) (by decide) ?_
  refine zi_icmp_eq (pc := 174) (tgt := 179) F dL_stacks_174 (by decide) (fun _ => ?_) (fun h => absurd h (by decide))
  refine zi_iinc (pc := 179) (lv' := [(0, .ref (G.2.2 0 0)), (1, .int 4)]) F dL_stacks_179 1 rfl (by decide) (by decide) rfl ?_
  refine zi_goto (pc := 182) (tgt := 148) F dL_stacks_182 (by decide) ?_
  refine zi_iload_n (pc := 148) F dL_stacks_148 1 rfl ?_
  refine zi_bipush (pc := 149) (v := 12) F dL_stacks_149 rfl ?_
  refine zi_icmp_ge (pc := 151) (tgt := 185) F dL_stacks_151 (by decide) (fun h => absurd h (by decide)) (fun _ => ?_)
  refine zi_aload_n (pc := 154) F dL_stacks_154 0 rfl ?_
  refine zr_acting (pc := 155) hfl F hsx ev221_  (cwV 0 F.1.2.2.2.2 gL_stacks_X4_acting rfl rfl rfl hd_X4_acting ⟨Nat.le_of_ble_eq_true rfl, Nat.le_of_ble_eq_true rfl⟩) (Nat.le_of_ble_eq_true rfl) dL_stacks_155 ⟨Nat.le_of_ble_eq_true rfl, Nat.le_of_ble_eq_true rfl⟩ ?_
  show zW p l e rmL_stacks s m args below meth c 78 1305 Q G.1 A 2 (zWL G (zd dL58_) (zd dT14_) (zd dE38_) (zd dV1_) (zd dM2_) (zd dK15_)) [(0, .ref (G.2.2 0 0)), (1, .int 4)] 158 [.int 1]
  refine zi_iload_n (pc := 158) F dL_stacks_158 1 rfl ?_
  refine zi_iconst (pc := 159) (v := 3) F dL_stacks_159 rfl ?_
  refine zi_irem (pc := 160) F dL_stacks_160 (by decide) ?_
  refine zi_toplit (y := 1) (by decide) ?_
  refine zi_icmp_ne (pc := 161) (tgt := 177) F dL_stacks_161 (by decide) (fun h => absurd h (by decide)) (fun _ => ?_)
  refine zi_aload_n (pc := 164) F dL_stacks_164 0 rfl ?_
  refine zi_bipush (pc := 165) (v := 12) F dL_stacks_165 rfl ?_
  refine zi_iconst (pc := 167) (v := 0) F dL_stacks_167 rfl ?_
  refine zr_play (pc := 168) hfl F hsx ev222_ okdT14_ okdE38_ okdM2_ (cwV 2 F.1.2.2.2.2 gL_stacks_X4_play rfl rfl rfl hd_X4_play ⟨Nat.le_of_ble_eq_true rfl, Nat.le_of_ble_eq_true rfl⟩) (Nat.le_of_ble_eq_true rfl) dL_stacks_168 ⟨Nat.le_of_ble_eq_true rfl, Nat.le_of_ble_eq_true rfl⟩ ?_
  show zW p l e rmL_stacks s m args below meth c 79 1311 Q G.1 A 2 (zWL G (zd dL59_) (zd dT14_) (zd dE39_) (zd dV1_) (zd dM2_) (zd dK15_)) [(0, .ref (G.2.2 0 0)), (1, .int 4)] 171 [.int 5]
  refine zi_iload_n (pc := 171) F dL_stacks_171 1 rfl ?_
  refine zi_iconst (pc := 172) (v := 1) F dL_stacks_172 rfl ?_
  refine zi_iadd (pc := 173) F dL_stacks_173 ?_
  refine zi_toplit (y := 5) (by decide) ?_
  refine zi_icmp_eq (pc := 174) (tgt := 179) F dL_stacks_174 (by decide) (fun _ => ?_) (fun h => absurd h (by decide))
  refine zi_iinc (pc := 179) (lv' := [(0, .ref (G.2.2 0 0)), (1, .int 5)]) F dL_stacks_179 1 rfl (by decide) (by decide) rfl ?_
  refine zi_goto (pc := 182) (tgt := 148) F dL_stacks_182 (by decide) ?_
  refine zi_iload_n (pc := 148) F dL_stacks_148 1 rfl ?_
  refine zi_bipush (pc := 149) (v := 12) F dL_stacks_149 rfl ?_
  refine zi_icmp_ge (pc := 151) (tgt := 185) F dL_stacks_151 (by decide) (fun h => absurd h (by decide)) (fun _ => ?_)
  refine zi_aload_n (pc := 154) F dL_stacks_154 0 rfl ?_
  refine zr_acting (pc := 155) hfl F hsx ev223_  (cwV 0 F.1.2.2.2.2 gL_stacks_X4_acting rfl rfl rfl hd_X4_acting ⟨Nat.le_of_ble_eq_true rfl, Nat.le_of_ble_eq_true rfl⟩) (Nat.le_of_ble_eq_true rfl) dL_stacks_155 ⟨Nat.le_of_ble_eq_true rfl, Nat.le_of_ble_eq_true rfl⟩ ?_
  show zW p l e rmL_stacks s m args below meth c 79 1311 Q G.1 A 2 (zWL G (zd dL59_) (zd dT14_) (zd dE39_) (zd dV1_) (zd dM2_) (zd dK15_)) [(0, .ref (G.2.2 0 0)), (1, .int 5)] 158 [.int 2]
  refine zi_iload_n (pc := 158) F dL_stacks_158 1 rfl ?_
  refine zi_iconst (pc := 159) (v := 3) F dL_stacks_159 rfl ?_
  refine zi_irem (pc := 160) F dL_stacks_160 (by decide) ?_
  refine zi_toplit (y := 2) (by decide) ?_
  refine zi_icmp_ne (pc := 161) (tgt := 177) F dL_stacks_161 (by decide) (fun h => absurd h (by decide)) (fun _ => ?_)
  refine zi_aload_n (pc := 164) F dL_stacks_164 0 rfl ?_
  refine zi_bipush (pc := 165) (v := 12) F dL_stacks_165 rfl ?_
  refine zi_iconst (pc := 167) (v := 0) F dL_stacks_167 rfl ?_
  refine zr_play (pc := 168) hfl F hsx ev224_ okdT14_ okdE39_ okdM2_ (cwV 2 F.1.2.2.2.2 gL_stacks_X4_play rfl rfl rfl hd_X4_play ⟨Nat.le_of_ble_eq_true rfl, Nat.le_of_ble_eq_true rfl⟩) (Nat.le_of_ble_eq_true rfl) dL_stacks_168 ⟨Nat.le_of_ble_eq_true rfl, Nat.le_of_ble_eq_true rfl⟩ ?_
  show zW p l e rmL_stacks s m args below meth c 80 1317 Q G.1 A 2 (zWL G (zd dL60_) (zd dT14_) (zd dE40_) (zd dV1_) (zd dM2_) (zd dK15_)) [(0, .ref (G.2.2 0 0)), (1, .int 5)] 171 [.int 6]
  refine zi_iload_n (pc := 171) F dL_stacks_171 1 rfl ?_
  refine zi_iconst (pc := 172) (v := 1) F dL_stacks_172 rfl ?_
  refine zi_iadd (pc := 173) F dL_stacks_173 ?_
  refine zi_toplit (y := 6) (by decide) ?_
  refine zi_icmp_eq (pc := 174) (tgt := 179) F dL_stacks_174 (by decide) (fun _ => ?_) (fun h => absurd h (by decide))
  refine zi_iinc (pc := 179) (lv' := [(0, .ref (G.2.2 0 0)), (1, .int 6)]) F dL_stacks_179 1 rfl (by decide) (by decide) rfl ?_
  refine zi_goto (pc := 182) (tgt := 148) F dL_stacks_182 (by decide) ?_
  refine zi_iload_n (pc := 148) F dL_stacks_148 1 rfl ?_
  refine zi_bipush (pc := 149) (v := 12) F dL_stacks_149 rfl ?_
  refine zi_icmp_ge (pc := 151) (tgt := 185) F dL_stacks_151 (by decide) (fun h => absurd h (by decide)) (fun _ => ?_)
  refine zi_aload_n (pc := 154) F dL_stacks_154 0 rfl ?_
  refine zr_acting (pc := 155) hfl F hsx ev225_  (cwV 0 F.1.2.2.2.2 gL_stacks_X4_acting rfl rfl rfl hd_X4_acting ⟨Nat.le_of_ble_eq_true rfl, Nat.le_of_ble_eq_true rfl⟩) (Nat.le_of_ble_eq_true rfl) dL_stacks_155 ⟨Nat.le_of_ble_eq_true rfl, Nat.le_of_ble_eq_true rfl⟩ ?_
  show zW p l e rmL_stacks s m args below meth c 80 1317 Q G.1 A 2 (zWL G (zd dL60_) (zd dT14_) (zd dE40_) (zd dV1_) (zd dM2_) (zd dK15_)) [(0, .ref (G.2.2 0 0)), (1, .int 6)] 158 [.int 0]
  refine zi_iload_n (pc := 158) F dL_stacks_158 1 rfl ?_
  refine zi_iconst (pc := 159) (v := 3) F dL_stacks_159 rfl ?_
  refine zi_irem (pc := 160) F dL_stacks_160 (by decide) ?_
  refine zi_toplit (y := 0) (by decide) ?_
  refine zi_icmp_ne (pc := 161) (tgt := 177) F dL_stacks_161 (by decide) (fun h => absurd h (by decide)) (fun _ => ?_)
  refine zi_aload_n (pc := 164) F dL_stacks_164 0 rfl ?_
  refine zi_bipush (pc := 165) (v := 12) F dL_stacks_165 rfl ?_
  refine zi_iconst (pc := 167) (v := 0) F dL_stacks_167 rfl ?_
  refine zr_play (pc := 168) hfl F hsx ev226_ okdT14_ okdE40_ okdM2_ (cwV 2 F.1.2.2.2.2 gL_stacks_X4_play rfl rfl rfl hd_X4_play ⟨Nat.le_of_ble_eq_true rfl, Nat.le_of_ble_eq_true rfl⟩) (Nat.le_of_ble_eq_true rfl) dL_stacks_168 ⟨Nat.le_of_ble_eq_true rfl, Nat.le_of_ble_eq_true rfl⟩ ?_
  show zW p l e rmL_stacks s m args below meth c 81 1323 Q G.1 A 2 (zWL G (zd dL61_) (zd dT14_) (zd dE41_) (zd dV1_) (zd dM2_) (zd dK15_)) [(0, .ref (G.2.2 0 0)), (1, .int 6)] 171 [.int 7]
  refine zi_iload_n (pc := 171) F dL_stacks_171 1 rfl ?_
  refine zi_iconst (pc := 172) (v := 1) F dL_stacks_172 rfl ?_
  refine zi_iadd (pc := 173) F dL_stacks_173 ?_
  refine zi_toplit (y := 7) (by decide) ?_
  refine zi_icmp_eq (pc := 174) (tgt := 179) F dL_stacks_174 (by decide) (fun _ => ?_) (fun h => absurd h (by decide))
  refine zi_iinc (pc := 179) (lv' := [(0, .ref (G.2.2 0 0)), (1, .int 7)]) F dL_stacks_179 1 rfl (by decide) (by decide) rfl ?_
  refine zi_goto (pc := 182) (tgt := 148) F dL_stacks_182 (by decide) ?_
  refine zi_iload_n (pc := 148) F dL_stacks_148 1 rfl ?_
  refine zi_bipush (pc := 149) (v := 12) F dL_stacks_149 rfl ?_
  refine zi_icmp_ge (pc := 151) (tgt := 185) F dL_stacks_151 (by decide) (fun h => absurd h (by decide)) (fun _ => ?_)
  refine zi_aload_n (pc := 154) F dL_stacks_154 0 rfl ?_
  refine zr_acting (pc := 155) hfl F hsx ev227_  (cwV 0 F.1.2.2.2.2 gL_stacks_X4_acting rfl rfl rfl hd_X4_acting ⟨Nat.le_of_ble_eq_true rfl, Nat.le_of_ble_eq_true rfl⟩) (Nat.le_of_ble_eq_true rfl) dL_stacks_155 ⟨Nat.le_of_ble_eq_true rfl, Nat.le_of_ble_eq_true rfl⟩ ?_
  show zW p l e rmL_stacks s m args below meth c 81 1323 Q G.1 A 2 (zWL G (zd dL61_) (zd dT14_) (zd dE41_) (zd dV1_) (zd dM2_) (zd dK15_)) [(0, .ref (G.2.2 0 0)), (1, .int 7)] 158 [.int 1]
  refine zi_iload_n (pc := 158) F dL_stacks_158 1 rfl ?_
  refine zi_iconst (pc := 159) (v := 3) F dL_stacks_159 rfl ?_
  refine zi_irem (pc := 160) F dL_stacks_160 (by decide) ?_
  refine zi_toplit (y := 1) (by decide) ?_
  refine zi_icmp_ne (pc := 161) (tgt := 177) F dL_stacks_161 (by decide) (fun h => absurd h (by decide)) (fun _ => ?_)
  exact kk
set_option maxHeartbeats 4000000 in
set_option maxRecDepth 100000 in
theorem sg_stacks_3 {p : Program} {l : Launch} {e : Env} {s : State} {m : MethodId} {args : Array Value} {below : List Frame} {meth : Method} {c : Code} {Q : State → Prop} {A : Nat → Prop} {G : zG_t} (hfl : l.stackTraces = false) (F : zF p m c cL_stacks 2 s args wsL_stacks RL G.1 (zty G) A) (hsx : zSx s) (hao : zAOA s) (kk : zW p l e rmL_stacks s m args below meth c 87 1359 Q G.1 A 2 (zWL G (zd dL66_) (zd dT14_) (zd dE46_) (zd dV1_) (zd dM2_) (zd dK15_)) [(0, .ref (G.2.2 0 0)), (1, .int 12)] 196 []) : zW p l e rmL_stacks s m args below meth c 81 1323 Q G.1 A 2 (zWL G (zd dL61_) (zd dT14_) (zd dE41_) (zd dV1_) (zd dM2_) (zd dK15_)) [(0, .ref (G.2.2 0 0)), (1, .int 7)] 164 [] := by
  refine zi_aload_n (pc := 164) F dL_stacks_164 0 rfl ?_
  refine zi_bipush (pc := 165) (v := 12) F dL_stacks_165 rfl ?_
  refine zi_iconst (pc := 167) (v := 0) F dL_stacks_167 rfl ?_
  refine zr_play (pc := 168) hfl F hsx ev228_ okdT14_ okdE41_ okdM2_ (cwV 2 F.1.2.2.2.2 gL_stacks_X4_play rfl rfl rfl hd_X4_play ⟨Nat.le_of_ble_eq_true rfl, Nat.le_of_ble_eq_true rfl⟩) (Nat.le_of_ble_eq_true rfl) dL_stacks_168 ⟨Nat.le_of_ble_eq_true rfl, Nat.le_of_ble_eq_true rfl⟩ ?_
  show zW p l e rmL_stacks s m args below meth c 82 1329 Q G.1 A 2 (zWL G (zd dL62_) (zd dT14_) (zd dE42_) (zd dV1_) (zd dM2_) (zd dK15_)) [(0, .ref (G.2.2 0 0)), (1, .int 7)] 171 [.int 8]
  refine zi_iload_n (pc := 171) F dL_stacks_171 1 rfl ?_
  refine zi_iconst (pc := 172) (v := 1) F dL_stacks_172 rfl ?_
  refine zi_iadd (pc := 173) F dL_stacks_173 ?_
  refine zi_toplit (y := 8) (by decide) ?_
  refine zi_icmp_eq (pc := 174) (tgt := 179) F dL_stacks_174 (by decide) (fun _ => ?_) (fun h => absurd h (by decide))
  refine zi_iinc (pc := 179) (lv' := [(0, .ref (G.2.2 0 0)), (1, .int 8)]) F dL_stacks_179 1 rfl (by decide) (by decide) rfl ?_
  refine zi_goto (pc := 182) (tgt := 148) F dL_stacks_182 (by decide) ?_
  refine zi_iload_n (pc := 148) F dL_stacks_148 1 rfl ?_
  refine zi_bipush (pc := 149) (v := 12) F dL_stacks_149 rfl ?_
  refine zi_icmp_ge (pc := 151) (tgt := 185) F dL_stacks_151 (by decide) (fun h => absurd h (by decide)) (fun _ => ?_)
  refine zi_aload_n (pc := 154) F dL_stacks_154 0 rfl ?_
  refine zr_acting (pc := 155) hfl F hsx ev229_  (cwV 0 F.1.2.2.2.2 gL_stacks_X4_acting rfl rfl rfl hd_X4_acting ⟨Nat.le_of_ble_eq_true rfl, Nat.le_of_ble_eq_true rfl⟩) (Nat.le_of_ble_eq_true rfl) dL_stacks_155 ⟨Nat.le_of_ble_eq_true rfl, Nat.le_of_ble_eq_true rfl⟩ ?_
  show zW p l e rmL_stacks s m args below meth c 82 1329 Q G.1 A 2 (zWL G (zd dL62_) (zd dT14_) (zd dE42_) (zd dV1_) (zd dM2_) (zd dK15_)) [(0, .ref (G.2.2 0 0)), (1, .int 8)] 158 [.int 2]
  refine zi_iload_n (pc := 158) F dL_stacks_158 1 rfl ?_
  refine zi_iconst (pc := 159) (v := 3) F dL_stacks_159 rfl ?_
  refine zi_irem (pc := 160) F dL_stacks_160 (by decide) ?_
  refine zi_toplit (y := 2) (by decide) ?_
  refine zi_icmp_ne (pc := 161) (tgt := 177) F dL_stacks_161 (by decide) (fun h => absurd h (by decide)) (fun _ => ?_)
  refine zi_aload_n (pc := 164) F dL_stacks_164 0 rfl ?_
  refine zi_bipush (pc := 165) (v := 12) F dL_stacks_165 rfl ?_
  refine zi_iconst (pc := 167) (v := 0) F dL_stacks_167 rfl ?_
  refine zr_play (pc := 168) hfl F hsx ev230_ okdT14_ okdE42_ okdM2_ (cwV 2 F.1.2.2.2.2 gL_stacks_X4_play rfl rfl rfl hd_X4_play ⟨Nat.le_of_ble_eq_true rfl, Nat.le_of_ble_eq_true rfl⟩) (Nat.le_of_ble_eq_true rfl) dL_stacks_168 ⟨Nat.le_of_ble_eq_true rfl, Nat.le_of_ble_eq_true rfl⟩ ?_
  show zW p l e rmL_stacks s m args below meth c 83 1335 Q G.1 A 2 (zWL G (zd dL63_) (zd dT14_) (zd dE43_) (zd dV1_) (zd dM2_) (zd dK15_)) [(0, .ref (G.2.2 0 0)), (1, .int 8)] 171 [.int 9]
  refine zi_iload_n (pc := 171) F dL_stacks_171 1 rfl ?_
  refine zi_iconst (pc := 172) (v := 1) F dL_stacks_172 rfl ?_
  refine zi_iadd (pc := 173) F dL_stacks_173 ?_
  refine zi_toplit (y := 9) (by decide) ?_
  refine zi_icmp_eq (pc := 174) (tgt := 179) F dL_stacks_174 (by decide) (fun _ => ?_) (fun h => absurd h (by decide))
  refine zi_iinc (pc := 179) (lv' := [(0, .ref (G.2.2 0 0)), (1, .int 9)]) F dL_stacks_179 1 rfl (by decide) (by decide) rfl ?_
  refine zi_goto (pc := 182) (tgt := 148) F dL_stacks_182 (by decide) ?_
  refine zi_iload_n (pc := 148) F dL_stacks_148 1 rfl ?_
  refine zi_bipush (pc := 149) (v := 12) F dL_stacks_149 rfl ?_
  refine zi_icmp_ge (pc := 151) (tgt := 185) F dL_stacks_151 (by decide) (fun h => absurd h (by decide)) (fun _ => ?_)
  refine zi_aload_n (pc := 154) F dL_stacks_154 0 rfl ?_
  refine zr_acting (pc := 155) hfl F hsx ev231_  (cwV 0 F.1.2.2.2.2 gL_stacks_X4_acting rfl rfl rfl hd_X4_acting ⟨Nat.le_of_ble_eq_true rfl, Nat.le_of_ble_eq_true rfl⟩) (Nat.le_of_ble_eq_true rfl) dL_stacks_155 ⟨Nat.le_of_ble_eq_true rfl, Nat.le_of_ble_eq_true rfl⟩ ?_
  show zW p l e rmL_stacks s m args below meth c 83 1335 Q G.1 A 2 (zWL G (zd dL63_) (zd dT14_) (zd dE43_) (zd dV1_) (zd dM2_) (zd dK15_)) [(0, .ref (G.2.2 0 0)), (1, .int 9)] 158 [.int 0]
  refine zi_iload_n (pc := 158) F dL_stacks_158 1 rfl ?_
  refine zi_iconst (pc := 159) (v := 3) F dL_stacks_159 rfl ?_
  refine zi_irem (pc := 160) F dL_stacks_160 (by decide) ?_
  refine zi_toplit (y := 0) (by decide) ?_
  refine zi_icmp_ne (pc := 161) (tgt := 177) F dL_stacks_161 (by decide) (fun h => absurd h (by decide)) (fun _ => ?_)
  refine zi_aload_n (pc := 164) F dL_stacks_164 0 rfl ?_
  refine zi_bipush (pc := 165) (v := 12) F dL_stacks_165 rfl ?_
  refine zi_iconst (pc := 167) (v := 0) F dL_stacks_167 rfl ?_
  refine zr_play (pc := 168) hfl F hsx ev232_ okdT14_ okdE43_ okdM2_ (cwV 2 F.1.2.2.2.2 gL_stacks_X4_play rfl rfl rfl hd_X4_play ⟨Nat.le_of_ble_eq_true rfl, Nat.le_of_ble_eq_true rfl⟩) (Nat.le_of_ble_eq_true rfl) dL_stacks_168 ⟨Nat.le_of_ble_eq_true rfl, Nat.le_of_ble_eq_true rfl⟩ ?_
  show zW p l e rmL_stacks s m args below meth c 84 1341 Q G.1 A 2 (zWL G (zd dL64_) (zd dT14_) (zd dE44_) (zd dV1_) (zd dM2_) (zd dK15_)) [(0, .ref (G.2.2 0 0)), (1, .int 9)] 171 [.int 10]
  refine zi_iload_n (pc := 171) F dL_stacks_171 1 rfl ?_
  refine zi_iconst (pc := 172) (v := 1) F dL_stacks_172 rfl ?_
  refine zi_iadd (pc := 173) F dL_stacks_173 ?_
  refine zi_toplit (y := 10) (by decide) ?_
  refine zi_icmp_eq (pc := 174) (tgt := 179) F dL_stacks_174 (by decide) (fun _ => ?_) (fun h => absurd h (by decide))
  refine zi_iinc (pc := 179) (lv' := [(0, .ref (G.2.2 0 0)), (1, .int 10)]) F dL_stacks_179 1 rfl (by decide) (by decide) rfl ?_
  refine zi_goto (pc := 182) (tgt := 148) F dL_stacks_182 (by decide) ?_
  refine zi_iload_n (pc := 148) F dL_stacks_148 1 rfl ?_
  refine zi_bipush (pc := 149) (v := 12) F dL_stacks_149 rfl ?_
  refine zi_icmp_ge (pc := 151) (tgt := 185) F dL_stacks_151 (by decide) (fun h => absurd h (by decide)) (fun _ => ?_)
  refine zi_aload_n (pc := 154) F dL_stacks_154 0 rfl ?_
  refine zr_acting (pc := 155) hfl F hsx ev233_  (cwV 0 F.1.2.2.2.2 gL_stacks_X4_acting rfl rfl rfl hd_X4_acting ⟨Nat.le_of_ble_eq_true rfl, Nat.le_of_ble_eq_true rfl⟩) (Nat.le_of_ble_eq_true rfl) dL_stacks_155 ⟨Nat.le_of_ble_eq_true rfl, Nat.le_of_ble_eq_true rfl⟩ ?_
  show zW p l e rmL_stacks s m args below meth c 84 1341 Q G.1 A 2 (zWL G (zd dL64_) (zd dT14_) (zd dE44_) (zd dV1_) (zd dM2_) (zd dK15_)) [(0, .ref (G.2.2 0 0)), (1, .int 10)] 158 [.int 1]
  refine zi_iload_n (pc := 158) F dL_stacks_158 1 rfl ?_
  refine zi_iconst (pc := 159) (v := 3) F dL_stacks_159 rfl ?_
  refine zi_irem (pc := 160) F dL_stacks_160 (by decide) ?_
  refine zi_toplit (y := 1) (by decide) ?_
  refine zi_icmp_ne (pc := 161) (tgt := 177) F dL_stacks_161 (by decide) (fun h => absurd h (by decide)) (fun _ => ?_)
  refine zi_aload_n (pc := 164) F dL_stacks_164 0 rfl ?_
  refine zi_bipush (pc := 165) (v := 12) F dL_stacks_165 rfl ?_
  refine zi_iconst (pc := 167) (v := 0) F dL_stacks_167 rfl ?_
  refine zr_play (pc := 168) hfl F hsx ev234_ okdT14_ okdE44_ okdM2_ (cwV 2 F.1.2.2.2.2 gL_stacks_X4_play rfl rfl rfl hd_X4_play ⟨Nat.le_of_ble_eq_true rfl, Nat.le_of_ble_eq_true rfl⟩) (Nat.le_of_ble_eq_true rfl) dL_stacks_168 ⟨Nat.le_of_ble_eq_true rfl, Nat.le_of_ble_eq_true rfl⟩ ?_
  show zW p l e rmL_stacks s m args below meth c 85 1347 Q G.1 A 2 (zWL G (zd dL65_) (zd dT14_) (zd dE45_) (zd dV1_) (zd dM2_) (zd dK15_)) [(0, .ref (G.2.2 0 0)), (1, .int 10)] 171 [.int 11]
  refine zi_iload_n (pc := 171) F dL_stacks_171 1 rfl ?_
  refine zi_iconst (pc := 172) (v := 1) F dL_stacks_172 rfl ?_
  refine zi_iadd (pc := 173) F dL_stacks_173 ?_
  refine zi_toplit (y := 11) (by decide) ?_
  refine zi_icmp_eq (pc := 174) (tgt := 179) F dL_stacks_174 (by decide) (fun _ => ?_) (fun h => absurd h (by decide))
  refine zi_iinc (pc := 179) (lv' := [(0, .ref (G.2.2 0 0)), (1, .int 11)]) F dL_stacks_179 1 rfl (by decide) (by decide) rfl ?_
  refine zi_goto (pc := 182) (tgt := 148) F dL_stacks_182 (by decide) ?_
  refine zi_iload_n (pc := 148) F dL_stacks_148 1 rfl ?_
  refine zi_bipush (pc := 149) (v := 12) F dL_stacks_149 rfl ?_
  refine zi_icmp_ge (pc := 151) (tgt := 185) F dL_stacks_151 (by decide) (fun h => absurd h (by decide)) (fun _ => ?_)
  refine zi_aload_n (pc := 154) F dL_stacks_154 0 rfl ?_
  refine zr_acting (pc := 155) hfl F hsx ev235_  (cwV 0 F.1.2.2.2.2 gL_stacks_X4_acting rfl rfl rfl hd_X4_acting ⟨Nat.le_of_ble_eq_true rfl, Nat.le_of_ble_eq_true rfl⟩) (Nat.le_of_ble_eq_true rfl) dL_stacks_155 ⟨Nat.le_of_ble_eq_true rfl, Nat.le_of_ble_eq_true rfl⟩ ?_
  show zW p l e rmL_stacks s m args below meth c 85 1347 Q G.1 A 2 (zWL G (zd dL65_) (zd dT14_) (zd dE45_) (zd dV1_) (zd dM2_) (zd dK15_)) [(0, .ref (G.2.2 0 0)), (1, .int 11)] 158 [.int 2]
  refine zi_iload_n (pc := 158) F dL_stacks_158 1 rfl ?_
  refine zi_iconst (pc := 159) (v := 3) F dL_stacks_159 rfl ?_
  refine zi_irem (pc := 160) F dL_stacks_160 (by decide) ?_
  refine zi_toplit (y := 2) (by decide) ?_
  refine zi_icmp_ne (pc := 161) (tgt := 177) F dL_stacks_161 (by decide) (fun h => absurd h (by decide)) (fun _ => ?_)
  refine zi_aload_n (pc := 164) F dL_stacks_164 0 rfl ?_
  refine zi_bipush (pc := 165) (v := 12) F dL_stacks_165 rfl ?_
  refine zi_iconst (pc := 167) (v := 0) F dL_stacks_167 rfl ?_
  refine zr_play (pc := 168) hfl F hsx ev236_ okdT14_ okdE45_ okdM2_ (cwV 2 F.1.2.2.2.2 gL_stacks_X4_play rfl rfl rfl hd_X4_play ⟨Nat.le_of_ble_eq_true rfl, Nat.le_of_ble_eq_true rfl⟩) (Nat.le_of_ble_eq_true rfl) dL_stacks_168 ⟨Nat.le_of_ble_eq_true rfl, Nat.le_of_ble_eq_true rfl⟩ ?_
  show zW p l e rmL_stacks s m args below meth c 86 1353 Q G.1 A 2 (zWL G (zd dL66_) (zd dT14_) (zd dE46_) (zd dV1_) (zd dM2_) (zd dK15_)) [(0, .ref (G.2.2 0 0)), (1, .int 11)] 171 [.int 12]
  refine zi_iload_n (pc := 171) F dL_stacks_171 1 rfl ?_
  refine zi_iconst (pc := 172) (v := 1) F dL_stacks_172 rfl ?_
  refine zi_iadd (pc := 173) F dL_stacks_173 ?_
  refine zi_toplit (y := 12) (by decide) ?_
  refine zi_icmp_eq (pc := 174) (tgt := 179) F dL_stacks_174 (by decide) (fun _ => ?_) (fun h => absurd h (by decide))
  refine zi_iinc (pc := 179) (lv' := [(0, .ref (G.2.2 0 0)), (1, .int 12)]) F dL_stacks_179 1 rfl (by decide) (by decide) rfl ?_
  refine zi_goto (pc := 182) (tgt := 148) F dL_stacks_182 (by decide) ?_
  refine zi_iload_n (pc := 148) F dL_stacks_148 1 rfl ?_
  refine zi_bipush (pc := 149) (v := 12) F dL_stacks_149 rfl ?_
  refine zi_icmp_ge (pc := 151) (tgt := 185) F dL_stacks_151 (by decide) (fun _ => ?_) (fun h => absurd h (by decide))
  refine zi_aload_n (pc := 185) F dL_stacks_185 0 rfl ?_
  refine zi_bipush (pc := 186) (v := 12) F dL_stacks_186 rfl ?_
  refine zi_iconst (pc := 188) (v := 0) F dL_stacks_188 rfl ?_
  refine zr_obstacle (pc := 189) hfl F hsx ev237_ okdE46_ (cwV 2 F.1.2.2.2.2 gL_stacks_X4_obstacle rfl rfl rfl hd_X4_obstacle ⟨Nat.le_of_ble_eq_true rfl, Nat.le_of_ble_eq_true rfl⟩) (Nat.le_of_ble_eq_true rfl) dL_stacks_189 ⟨Nat.le_of_ble_eq_true rfl, Nat.le_of_ble_eq_true rfl⟩ ?_
  show zW p l e rmL_stacks s m args below meth c 87 1359 Q G.1 A 2 (zWL G (zd dL66_) (zd dT14_) (zd dE46_) (zd dV1_) (zd dM2_) (zd dK15_)) [(0, .ref (G.2.2 0 0)), (1, .int 12)] 192 [.int 2]
  refine zi_iconst (pc := 192) (v := 2) F dL_stacks_192 rfl ?_
  refine zi_icmp_ne (pc := 193) (tgt := 310) F dL_stacks_193 (by decide) (fun h => absurd h (by decide)) (fun _ => ?_)
  exact kk
set_option maxHeartbeats 4000000 in
set_option maxRecDepth 100000 in
theorem sg_stacks_4 {p : Program} {l : Launch} {e : Env} {s : State} {m : MethodId} {args : Array Value} {below : List Frame} {meth : Method} {c : Code} {Q : State → Prop} {A : Nat → Prop} {G : zG_t} (hfl : l.stackTraces = false) (F : zF p m c cL_stacks 2 s args wsL_stacks RL G.1 (zty G) A) (hsx : zSx s) (hao : zAOA s) (kk : zW p l e rmL_stacks s m args below meth c 95 1407 Q G.1 A 2 (zWL G (zd dL66_) (zd dT15_) (zd dE48_) (zd dV1_) (zd dM29_) (zd dK17_)) [(0, .ref (G.2.2 0 0)), (1, .int 12)] 296 []) : zW p l e rmL_stacks s m args below meth c 87 1359 Q G.1 A 2 (zWL G (zd dL66_) (zd dT14_) (zd dE46_) (zd dV1_) (zd dM2_) (zd dK15_)) [(0, .ref (G.2.2 0 0)), (1, .int 12)] 196 [] := by
  refine zi_aload_n (pc := 196) F dL_stacks_196 0 rfl ?_
  refine zr_pass (pc := 197) hfl F hsx ev238_ okdT14_ okdE46_ okdM2_ (cwV 0 F.1.2.2.2.2 gL_stacks_X4_pass rfl rfl rfl hd_X4_pass ⟨Nat.le_of_ble_eq_true rfl, Nat.le_of_ble_eq_true rfl⟩) (Nat.le_of_ble_eq_true rfl) dL_stacks_197 ⟨Nat.le_of_ble_eq_true rfl, Nat.le_of_ble_eq_true rfl⟩ ?_
  show zW p l e rmL_stacks s m args below meth c 87 1359 Q G.1 A 2 (zWL G (zd dL67_) (zd dT14_) (zd dE46_) (zd dV1_) (zd dM2_) (zd dK15_)) [(0, .ref (G.2.2 0 0)), (1, .int 12)] 200 [.int 0]
  refine zi_if_ne (pc := 200) (tgt := 310) F dL_stacks_200 (by decide) (fun h => absurd h (by decide)) (fun _ => ?_)
  refine zi_aload_n (pc := 203) F dL_stacks_203 0 rfl ?_
  refine zi_bipush (pc := 204) (v := 12) F dL_stacks_204 rfl ?_
  refine zi_iconst (pc := 206) (v := 0) F dL_stacks_206 rfl ?_
  refine zr_obstacle (pc := 207) hfl F hsx ev239_ okdE46_ (cwV 2 F.1.2.2.2.2 gL_stacks_X4_obstacle rfl rfl rfl hd_X4_obstacle ⟨Nat.le_of_ble_eq_true rfl, Nat.le_of_ble_eq_true rfl⟩) (Nat.le_of_ble_eq_true rfl) dL_stacks_207 ⟨Nat.le_of_ble_eq_true rfl, Nat.le_of_ble_eq_true rfl⟩ ?_
  show zW p l e rmL_stacks s m args below meth c 88 1365 Q G.1 A 2 (zWL G (zd dL67_) (zd dT14_) (zd dE46_) (zd dV1_) (zd dM2_) (zd dK15_)) [(0, .ref (G.2.2 0 0)), (1, .int 12)] 210 [.int 4]
  refine zi_iconst (pc := 210) (v := 4) F dL_stacks_210 rfl ?_
  refine zi_icmp_ne (pc := 211) (tgt := 310) F dL_stacks_211 (by decide) (fun h => absurd h (by decide)) (fun _ => ?_)
  refine zi_aload_n (pc := 214) F dL_stacks_214 0 rfl ?_
  refine zi_bipush (pc := 215) (v := 12) F dL_stacks_215 rfl ?_
  refine zi_iconst (pc := 217) (v := 1) F dL_stacks_217 rfl ?_
  refine zr_obstacle (pc := 218) hfl F hsx ev240_ okdE46_ (cwV 2 F.1.2.2.2.2 gL_stacks_X4_obstacle rfl rfl rfl hd_X4_obstacle ⟨Nat.le_of_ble_eq_true rfl, Nat.le_of_ble_eq_true rfl⟩) (Nat.le_of_ble_eq_true rfl) dL_stacks_218 ⟨Nat.le_of_ble_eq_true rfl, Nat.le_of_ble_eq_true rfl⟩ ?_
  show zW p l e rmL_stacks s m args below meth c 89 1371 Q G.1 A 2 (zWL G (zd dL67_) (zd dT14_) (zd dE46_) (zd dV1_) (zd dM2_) (zd dK15_)) [(0, .ref (G.2.2 0 0)), (1, .int 12)] 221 [.int 3]
  refine zi_iconst (pc := 221) (v := 3) F dL_stacks_221 rfl ?_
  refine zi_icmp_ne (pc := 222) (tgt := 310) F dL_stacks_222 (by decide) (fun h => absurd h (by decide)) (fun _ => ?_)
  refine zi_aload_n (pc := 225) F dL_stacks_225 0 rfl ?_
  refine zi_bipush (pc := 226) (v := 13) F dL_stacks_226 rfl ?_
  refine zi_bipush (pc := 228) (v := 11) F dL_stacks_228 rfl ?_
  refine zr_obstacle (pc := 230) hfl F hsx ev241_ okdE46_ (cwV 2 F.1.2.2.2.2 gL_stacks_X4_obstacle rfl rfl rfl hd_X4_obstacle ⟨Nat.le_of_ble_eq_true rfl, Nat.le_of_ble_eq_true rfl⟩) (Nat.le_of_ble_eq_true rfl) dL_stacks_230 ⟨Nat.le_of_ble_eq_true rfl, Nat.le_of_ble_eq_true rfl⟩ ?_
  show zW p l e rmL_stacks s m args below meth c 90 1377 Q G.1 A 2 (zWL G (zd dL67_) (zd dT14_) (zd dE46_) (zd dV1_) (zd dM2_) (zd dK15_)) [(0, .ref (G.2.2 0 0)), (1, .int 12)] 233 [.int 4]
  refine zi_iconst (pc := 233) (v := 4) F dL_stacks_233 rfl ?_
  refine zi_icmp_ne (pc := 234) (tgt := 310) F dL_stacks_234 (by decide) (fun h => absurd h (by decide)) (fun _ => ?_)
  refine zi_aload_n (pc := 237) F dL_stacks_237 0 rfl ?_
  refine zi_iconst (pc := 238) (v := 0) F dL_stacks_238 rfl ?_
  refine zi_bipush (pc := 239) (v := 13) F dL_stacks_239 rfl ?_
  refine zi_bipush (pc := 241) (v := 11) F dL_stacks_241 rfl ?_
  refine zi_callQH (pc := 243) (rest := []) (ws' := zWL G (zd dL67_) (zd dT14_) (zd dE46_) (zd dV1_) (zd dM2_) (zd dK15_)) F hsx hao (cr_0o l hfl G (zd dL67_) (zd dT14_) (zd dE46_) (zd dV1_) (zd dM2_) (zd dK15_) okdT14_ okdE46_ okdM2_ 13 11 (by decide) (by decide) ev242_) (vx_cwSW 4 F.1.2.2.2.2 gL_stacks_L_act rfl rfl rfl hd_L_act ⟨Nat.le_of_ble_eq_true rfl, Nat.le_of_ble_eq_true rfl⟩) [] [] (zw_nil _) (zw_nil _).symm rfl rfl (Nat.le_of_ble_eq_true rfl) dL_stacks_243 ⟨Nat.le_of_ble_eq_true rfl, Nat.le_of_ble_eq_true rfl⟩ ?_
  show zW p l e rmL_stacks s m args below meth c 91 1383 Q G.1 A 2 (zWL G (zd dL67_) (zd dT14_) (zd dE46_) (zd dV1_) (zd dM2_) (zd dK15_)) [(0, .ref (G.2.2 0 0)), (1, .int 12)] 246 [.int (-73)]
  refine zi_bipush (pc := 246) (v := (-73)) F dL_stacks_246 rfl ?_
  refine zi_icmp_ne (pc := 248) (tgt := 310) F dL_stacks_248 (by decide) (fun h => absurd h (by decide)) (fun _ => ?_)
  refine zi_aload_n (pc := 251) F dL_stacks_251 0 rfl ?_
  refine zi_bipush (pc := 252) (v := 11) F dL_stacks_252 rfl ?_
  refine zr_entryTarget (pc := 254) hfl F hsx ev243_ okdT14_ okdE46_ (cwV 1 F.1.2.2.2.2 gL_stacks_X4_entryTarget rfl rfl rfl hd_X4_entryTarget ⟨Nat.le_of_ble_eq_true rfl, Nat.le_of_ble_eq_true rfl⟩) (Nat.le_of_ble_eq_true rfl) dL_stacks_254 ⟨Nat.le_of_ble_eq_true rfl, Nat.le_of_ble_eq_true rfl⟩ ?_
  show zW p l e rmL_stacks s m args below meth c 92 1389 Q G.1 A 2 (zWL G (zd dL67_) (zd dT14_) (zd dE46_) (zd dV1_) (zd dM2_) (zd dK15_)) [(0, .ref (G.2.2 0 0)), (1, .int 12)] 257 [.int 0]
  refine zi_if_ne (pc := 257) (tgt := 310) F dL_stacks_257 (by decide) (fun h => absurd h (by decide)) (fun _ => ?_)
  refine zi_aload_n (pc := 260) F dL_stacks_260 0 rfl ?_
  refine zi_iconst (pc := 261) (v := 3) F dL_stacks_261 rfl ?_
  refine zr_settle (pc := 262) hfl F hsx ev244_ okdT14_ okdE46_ okdM2_ (cwV 1 F.1.2.2.2.2 gL_stacks_X4_settle rfl rfl rfl hd_X4_settle ⟨Nat.le_of_ble_eq_true rfl, Nat.le_of_ble_eq_true rfl⟩) (Nat.le_of_ble_eq_true rfl) dL_stacks_262 ⟨Nat.le_of_ble_eq_true rfl, Nat.le_of_ble_eq_true rfl⟩ ?_
  show zW p l e rmL_stacks s m args below meth c 93 1395 Q G.1 A 2 (zWL G (zd dL66_) (zd dT15_) (zd dE47_) (zd dV1_) (zd dM28_) (zd dK16_)) [(0, .ref (G.2.2 0 0)), (1, .int 12)] 265 [.int 3]
  refine zi_iconst (pc := 265) (v := 3) F dL_stacks_265 rfl ?_
  refine zi_icmp_ne (pc := 266) (tgt := 310) F dL_stacks_266 (by decide) (fun h => absurd h (by decide)) (fun _ => ?_)
  refine zi_aload_n (pc := 269) F dL_stacks_269 0 rfl ?_
  refine zr_things (pc := 270) hfl F hsx ev245_  (cwV 0 F.1.2.2.2.2 gL_stacks_X4_things rfl rfl rfl hd_X4_things ⟨Nat.le_of_ble_eq_true rfl, Nat.le_of_ble_eq_true rfl⟩) (Nat.le_of_ble_eq_true rfl) dL_stacks_270 ⟨Nat.le_of_ble_eq_true rfl, Nat.le_of_ble_eq_true rfl⟩ ?_
  show zW p l e rmL_stacks s m args below meth c 93 1395 Q G.1 A 2 (zWL G (zd dL66_) (zd dT15_) (zd dE47_) (zd dV1_) (zd dM28_) (zd dK16_)) [(0, .ref (G.2.2 0 0)), (1, .int 12)] 273 [.int 0]
  refine zi_if_ne (pc := 273) (tgt := 310) F dL_stacks_273 (by decide) (fun h => absurd h (by decide)) (fun _ => ?_)
  refine zi_aload_n (pc := 276) F dL_stacks_276 0 rfl ?_
  refine zi_iconst (pc := 277) (v := 0) F dL_stacks_277 rfl ?_
  refine zr_entryTarget (pc := 278) hfl F hsx ev246_ okdT15_ okdE47_ (cwV 1 F.1.2.2.2.2 gL_stacks_X4_entryTarget rfl rfl rfl hd_X4_entryTarget ⟨Nat.le_of_ble_eq_true rfl, Nat.le_of_ble_eq_true rfl⟩) (Nat.le_of_ble_eq_true rfl) dL_stacks_278 ⟨Nat.le_of_ble_eq_true rfl, Nat.le_of_ble_eq_true rfl⟩ ?_
  show zW p l e rmL_stacks s m args below meth c 94 1401 Q G.1 A 2 (zWL G (zd dL66_) (zd dT15_) (zd dE47_) (zd dV1_) (zd dM28_) (zd dK16_)) [(0, .ref (G.2.2 0 0)), (1, .int 12)] 281 [.int (-1)]
  refine zi_iconst (pc := 281) (v := (-1)) F dL_stacks_281 rfl ?_
  refine zi_icmp_ne (pc := 282) (tgt := 310) F dL_stacks_282 (by decide) (fun h => absurd h (by decide)) (fun _ => ?_)
  refine zi_aload_n (pc := 285) F dL_stacks_285 0 rfl ?_
  refine zi_bipush (pc := 286) (v := 60) F dL_stacks_286 rfl ?_
  refine zr_settle (pc := 288) hfl F hsx ev247_ okdT15_ okdE47_ okdM28_ (cwV 1 F.1.2.2.2.2 gL_stacks_X4_settle rfl rfl rfl hd_X4_settle ⟨Nat.le_of_ble_eq_true rfl, Nat.le_of_ble_eq_true rfl⟩) (Nat.le_of_ble_eq_true rfl) dL_stacks_288 ⟨Nat.le_of_ble_eq_true rfl, Nat.le_of_ble_eq_true rfl⟩ ?_
  show zW p l e rmL_stacks s m args below meth c 95 1407 Q G.1 A 2 (zWL G (zd dL66_) (zd dT15_) (zd dE48_) (zd dV1_) (zd dM29_) (zd dK17_)) [(0, .ref (G.2.2 0 0)), (1, .int 12)] 291 [.int 9]
  refine zi_bipush (pc := 291) (v := 9) F dL_stacks_291 rfl ?_
  refine zi_icmp_ne (pc := 293) (tgt := 310) F dL_stacks_293 (by decide) (fun h => absurd h (by decide)) (fun _ => ?_)
  exact kk
set_option maxHeartbeats 4000000 in
set_option maxRecDepth 100000 in
theorem sg_stacks_5 {p : Program} {l : Launch} {e : Env} {s : State} {m : MethodId} {args : Array Value} {below : List Frame} {meth : Method} {c : Code} {Q : State → Prop} {A : Nat → Prop} {G : zG_t} (hfl : l.stackTraces = false) (F : zF p m c cL_stacks 2 s args wsL_stacks RL G.1 (zty G) A) (hsx : zSx s) (hao : zAOA s) (kk : zW p l e rmL_stacks s m args below meth c 167 1839 Q G.1 A 2 (zWL G (zd dL66_) (zd dT15_) (zd dE48_) (zd dV1_) (zd dM29_) (zd dK17_)) [(0, .ref (G.2.2 0 0)), (1, .int 12)] 312 []) : zW p l e rmL_stacks s m args below meth c 95 1407 Q G.1 A 2 (zWL G (zd dL66_) (zd dT15_) (zd dE48_) (zd dV1_) (zd dM29_) (zd dK17_)) [(0, .ref (G.2.2 0 0)), (1, .int 12)] 296 [] := by
  refine zi_aload_n (pc := 296) F dL_stacks_296 0 rfl ?_
  refine zr_loops (pc := 297) hfl F hsx ev248_  (cwV 0 F.1.2.2.2.2 gL_stacks_X4_loops rfl rfl rfl hd_X4_loops ⟨Nat.le_of_ble_eq_true rfl, Nat.le_of_ble_eq_true rfl⟩) (Nat.le_of_ble_eq_true rfl) dL_stacks_297 ⟨Nat.le_of_ble_eq_true rfl, Nat.le_of_ble_eq_true rfl⟩ ?_
  show zW p l e rmL_stacks s m args below meth c 95 1407 Q G.1 A 2 (zWL G (zd dL66_) (zd dT15_) (zd dE48_) (zd dV1_) (zd dM29_) (zd dK17_)) [(0, .ref (G.2.2 0 0)), (1, .int 12)] 300 [.int 0]
  refine zi_if_ne (pc := 300) (tgt := 310) F dL_stacks_300 (by decide) (fun h => absurd h (by decide)) (fun _ => ?_)
  refine zi_aload_n (pc := 303) F dL_stacks_303 0 rfl ?_
  refine zi_callQI (pc := 304) (rest := []) (ws' := zWL G (zd dL66_) (zd dT15_) (zd dE48_) (zd dV1_) (zd dM29_) (zd dK17_)) F hsx hao (c_L_refuses l hfl G (zd dL66_) (zd dT15_) (zd dE48_) (zd dV1_) (zd dM29_) (zd dK17_) okdT15_ okdE48_ okdM29_) (va_cwS 1 F.1.2.2.2.2 gL_stacks_L_refuses rfl rfl rfl hd_L_refuses ⟨Nat.le_of_ble_eq_true rfl, Nat.le_of_ble_eq_true rfl⟩) [] [] (zw_nil _) (zw_nil _).symm rfl rfl (Nat.le_of_ble_eq_true rfl) dL_stacks_304 ⟨Nat.le_of_ble_eq_true rfl, Nat.le_of_ble_eq_true rfl⟩ ?_
  show zW p l e rmL_stacks s m args below meth c 167 1839 Q G.1 A 2 (zWL G (zd dL66_) (zd dT15_) (zd dE48_) (zd dV1_) (zd dM29_) (zd dK17_)) [(0, .ref (G.2.2 0 0)), (1, .int 12)] 307 [.int 1]
  refine zi_if_ne (pc := 307) (tgt := 312) F dL_stacks_307 (by decide) (fun _ => ?_) (fun h => absurd h (by decide))
  exact kk
set_option maxHeartbeats 4000000 in
set_option maxRecDepth 100000 in
theorem sg_stacks_6 {p : Program} {l : Launch} {e : Env} {s : State} {m : MethodId} {args : Array Value} {below : List Frame} {meth : Method} {c : Code} {Q : State → Prop} {A : Nat → Prop} {G : zG_t} (hfl : l.stackTraces = false) (F : zF p m c cL_stacks 2 s args wsL_stacks RL G.1 (zty G) A) (hsx : zSx s) (hao : zAOA s) (kk : zW p l e rmL_stacks s m args below meth c 242 3126 Q G.1 A 2 (zWL G (zd dL78_) (zd dT19_) (zd dE57_) (zd dV24_) (zd dM37_) (zd dK22_)) [(1, .ref (G.2.2 0 0))] 416 []) : zW p l e rmL_stacks s m args below meth c 229 3048 Q G.1 A 2 (zWL G (zd dL0_) (zd dT0_) (zd dE0_) (zd dV0_) (zd dM0_) (zd dK0_)) [(1, .ref (G.2.2 0 0))] 320 [] := by
  refine zi_aload_n (pc := 320) F dL_stacks_320 0 rfl ?_
  refine zi_bipush (pc := 321) (v := 10) F dL_stacks_321 rfl ?_
  refine zi_iconst (pc := 323) (v := 0) F dL_stacks_323 rfl ?_
  refine zi_iconst (pc := 324) (v := 3) F dL_stacks_324 rfl ?_
  refine zi_callQI (pc := 325) (rest := []) (ws' := zWL G (zd dL69_) (zd dT16_) (zd dE50_) (zd dV3_) (zd dM30_) (zd dK18_)) F hsx hao (c_L_lay l hfl G ev1_ ev249_ ev250_ ev251_ okdT0_ okdE0_ okdM0_ okdE49_ okdM0_) (va_cwS 4 F.1.2.2.2.2 gL_stacks_L_lay rfl rfl rfl hd_L_lay ⟨Nat.le_of_ble_eq_true rfl, Nat.le_of_ble_eq_true rfl⟩) [] [] (zw_nil _) (zw_nil _).symm rfl rfl (Nat.le_of_ble_eq_true rfl) dL_stacks_325 ⟨Nat.le_of_ble_eq_true rfl, Nat.le_of_ble_eq_true rfl⟩ ?_
  show zW p l e rmL_stacks s m args below meth c 232 3066 Q G.1 A 2 (zWL G (zd dL69_) (zd dT16_) (zd dE50_) (zd dV3_) (zd dM30_) (zd dK18_)) [(1, .ref (G.2.2 0 0))] 328 [.int 1]
  refine zi_if_eq (pc := 328) (tgt := 469) F dL_stacks_328 (by decide) (fun h => absurd h (by decide)) (fun _ => ?_)
  refine zi_aload_n (pc := 331) F dL_stacks_331 0 rfl ?_
  refine zi_bipush (pc := 332) (v := 11) F dL_stacks_332 rfl ?_
  refine zi_iconst (pc := 334) (v := 0) F dL_stacks_334 rfl ?_
  refine zi_iconst (pc := 335) (v := 0) F dL_stacks_335 rfl ?_
  refine zi_callQI (pc := 336) (rest := []) (ws' := zWL G (zd dL71_) (zd dT17_) (zd dE52_) (zd dV22_) (zd dM32_) (zd dK19_)) F hsx hao (c_L_lay l hfl G ev252_ ev253_ ev254_ ev255_ okdT16_ okdE50_ okdM30_ okdE51_ okdM31_) (va_cwS 4 F.1.2.2.2.2 gL_stacks_L_lay rfl rfl rfl hd_L_lay ⟨Nat.le_of_ble_eq_true rfl, Nat.le_of_ble_eq_true rfl⟩) [] [] (zw_nil _) (zw_nil _).symm rfl rfl (Nat.le_of_ble_eq_true rfl) dL_stacks_336 ⟨Nat.le_of_ble_eq_true rfl, Nat.le_of_ble_eq_true rfl⟩ ?_
  show zW p l e rmL_stacks s m args below meth c 235 3084 Q G.1 A 2 (zWL G (zd dL71_) (zd dT17_) (zd dE52_) (zd dV22_) (zd dM32_) (zd dK19_)) [(1, .ref (G.2.2 0 0))] 339 [.int 1]
  refine zi_if_eq (pc := 339) (tgt := 469) F dL_stacks_339 (by decide) (fun h => absurd h (by decide)) (fun _ => ?_)
  refine zi_aload_n (pc := 342) F dL_stacks_342 0 rfl ?_
  refine zr_stack (pc := 343) hfl F hsx ev256_  (cwV 0 F.1.2.2.2.2 gL_stacks_X4_stack rfl rfl rfl hd_X4_stack ⟨Nat.le_of_ble_eq_true rfl, Nat.le_of_ble_eq_true rfl⟩) (Nat.le_of_ble_eq_true rfl) dL_stacks_343 ⟨Nat.le_of_ble_eq_true rfl, Nat.le_of_ble_eq_true rfl⟩ ?_
  show zW p l e rmL_stacks s m args below meth c 235 3084 Q G.1 A 2 (zWL G (zd dL71_) (zd dT17_) (zd dE52_) (zd dV22_) (zd dM32_) (zd dK19_)) [(1, .ref (G.2.2 0 0))] 346 [.int 0]
  refine zi_if_ne (pc := 346) (tgt := 469) F dL_stacks_346 (by decide) (fun h => absurd h (by decide)) (fun _ => ?_)
  refine zi_aload_n (pc := 349) F dL_stacks_349 0 rfl ?_
  refine zi_callQI (pc := 350) (rest := []) (ws' := zWL G (zd dL74_) (zd dT17_) (zd dE52_) (zd dV22_) (zd dM33_) (zd dK19_)) F hsx hao (c_L_round l hfl G ev257_ ev258_ ev259_ okdT17_ okdE52_ okdM32_ okdT17_ okdE52_ okdM32_ okdT17_ okdE52_ okdM32_) (va_cwS 1 F.1.2.2.2.2 gL_stacks_L_round rfl rfl rfl hd_L_round ⟨Nat.le_of_ble_eq_true rfl, Nat.le_of_ble_eq_true rfl⟩) [] [] (zw_nil _) (zw_nil _).symm rfl rfl (Nat.le_of_ble_eq_true rfl) dL_stacks_350 ⟨Nat.le_of_ble_eq_true rfl, Nat.le_of_ble_eq_true rfl⟩ ?_
  show zW p l e rmL_stacks s m args below meth c 235 3084 Q G.1 A 2 (zWL G (zd dL74_) (zd dT17_) (zd dE52_) (zd dV22_) (zd dM33_) (zd dK19_)) [(1, .ref (G.2.2 0 0))] 353 [.int 2]
  refine zi_iconst (pc := 353) (v := 2) F dL_stacks_353 rfl ?_
  refine zi_icmp_ne (pc := 354) (tgt := 469) F dL_stacks_354 (by decide) (fun h => absurd h (by decide)) (fun _ => ?_)
  refine zi_aload_n (pc := 357) F dL_stacks_357 0 rfl ?_
  refine zi_bipush (pc := 358) (v := 9) F dL_stacks_358 rfl ?_
  refine zi_iconst (pc := 360) (v := 0) F dL_stacks_360 rfl ?_
  refine zi_bipush (pc := 361) (v := 7) F dL_stacks_361 rfl ?_
  refine zi_callQI (pc := 363) (rest := []) (ws' := zWL G (zd dL76_) (zd dT18_) (zd dE54_) (zd dV23_) (zd dM34_) (zd dK20_)) F hsx hao (c_L_lay l hfl G ev260_ ev261_ ev262_ ev263_ okdT17_ okdE52_ okdM33_ okdE53_ okdM33_) (va_cwS 4 F.1.2.2.2.2 gL_stacks_L_lay rfl rfl rfl hd_L_lay ⟨Nat.le_of_ble_eq_true rfl, Nat.le_of_ble_eq_true rfl⟩) [] [] (zw_nil _) (zw_nil _).symm rfl rfl (Nat.le_of_ble_eq_true rfl) dL_stacks_363 ⟨Nat.le_of_ble_eq_true rfl, Nat.le_of_ble_eq_true rfl⟩ ?_
  show zW p l e rmL_stacks s m args below meth c 238 3102 Q G.1 A 2 (zWL G (zd dL76_) (zd dT18_) (zd dE54_) (zd dV23_) (zd dM34_) (zd dK20_)) [(1, .ref (G.2.2 0 0))] 366 [.int 1]
  refine zi_if_eq (pc := 366) (tgt := 469) F dL_stacks_366 (by decide) (fun h => absurd h (by decide)) (fun _ => ?_)
  refine zi_aload_n (pc := 369) F dL_stacks_369 0 rfl ?_
  refine zr_stack (pc := 370) hfl F hsx ev264_  (cwV 0 F.1.2.2.2.2 gL_stacks_X4_stack rfl rfl rfl hd_X4_stack ⟨Nat.le_of_ble_eq_true rfl, Nat.le_of_ble_eq_true rfl⟩) (Nat.le_of_ble_eq_true rfl) dL_stacks_370 ⟨Nat.le_of_ble_eq_true rfl, Nat.le_of_ble_eq_true rfl⟩ ?_
  show zW p l e rmL_stacks s m args below meth c 238 3102 Q G.1 A 2 (zWL G (zd dL76_) (zd dT18_) (zd dE54_) (zd dV23_) (zd dM34_) (zd dK20_)) [(1, .ref (G.2.2 0 0))] 373 [.int 1]
  refine zi_iconst (pc := 373) (v := 1) F dL_stacks_373 rfl ?_
  refine zi_icmp_ne (pc := 374) (tgt := 469) F dL_stacks_374 (by decide) (fun h => absurd h (by decide)) (fun _ => ?_)
  refine zi_aload_n (pc := 377) F dL_stacks_377 0 rfl ?_
  refine zi_iconst (pc := 378) (v := 0) F dL_stacks_378 rfl ?_
  refine zr_entryCard (pc := 379) hfl F hsx ev265_ okdE54_ (cwV 1 F.1.2.2.2.2 gL_stacks_X4_entryCard rfl rfl rfl hd_X4_entryCard ⟨Nat.le_of_ble_eq_true rfl, Nat.le_of_ble_eq_true rfl⟩) (Nat.le_of_ble_eq_true rfl) dL_stacks_379 ⟨Nat.le_of_ble_eq_true rfl, Nat.le_of_ble_eq_true rfl⟩ ?_
  show zW p l e rmL_stacks s m args below meth c 239 3108 Q G.1 A 2 (zWL G (zd dL76_) (zd dT18_) (zd dE54_) (zd dV23_) (zd dM34_) (zd dK20_)) [(1, .ref (G.2.2 0 0))] 382 [.int 11]
  refine zi_bipush (pc := 382) (v := 11) F dL_stacks_382 rfl ?_
  refine zi_icmp_ne (pc := 384) (tgt := 469) F dL_stacks_384 (by decide) (fun h => absurd h (by decide)) (fun _ => ?_)
  refine zi_aload_n (pc := 387) F dL_stacks_387 0 rfl ?_
  refine zi_bipush (pc := 388) (v := 9) F dL_stacks_388 rfl ?_
  refine zr_settle (pc := 390) hfl F hsx ev266_ okdT18_ okdE54_ okdM34_ (cwV 1 F.1.2.2.2.2 gL_stacks_X4_settle rfl rfl rfl hd_X4_settle ⟨Nat.le_of_ble_eq_true rfl, Nat.le_of_ble_eq_true rfl⟩) (Nat.le_of_ble_eq_true rfl) dL_stacks_390 ⟨Nat.le_of_ble_eq_true rfl, Nat.le_of_ble_eq_true rfl⟩ ?_
  show zW p l e rmL_stacks s m args below meth c 240 3114 Q G.1 A 2 (zWL G (zd dL76_) (zd dT18_) (zd dE55_) (zd dV23_) (zd dM35_) (zd dK21_)) [(1, .ref (G.2.2 0 0))] 393 [.int 1]
  refine zi_iconst (pc := 393) (v := 1) F dL_stacks_393 rfl ?_
  refine zi_icmp_ne (pc := 394) (tgt := 469) F dL_stacks_394 (by decide) (fun h => absurd h (by decide)) (fun _ => ?_)
  refine zi_aload_n (pc := 397) F dL_stacks_397 0 rfl ?_
  refine zi_iconst (pc := 398) (v := 0) F dL_stacks_398 rfl ?_
  refine zi_iconst (pc := 399) (v := 0) F dL_stacks_399 rfl ?_
  refine zr_play (pc := 400) hfl F hsx ev267_ okdT18_ okdE55_ okdM35_ (cwV 2 F.1.2.2.2.2 gL_stacks_X4_play rfl rfl rfl hd_X4_play ⟨Nat.le_of_ble_eq_true rfl, Nat.le_of_ble_eq_true rfl⟩) (Nat.le_of_ble_eq_true rfl) dL_stacks_400 ⟨Nat.le_of_ble_eq_true rfl, Nat.le_of_ble_eq_true rfl⟩ ?_
  show zW p l e rmL_stacks s m args below meth c 241 3120 Q G.1 A 2 (zWL G (zd dL77_) (zd dT18_) (zd dE56_) (zd dV23_) (zd dM36_) (zd dK21_)) [(1, .ref (G.2.2 0 0))] 403 [.int 1]
  refine zi_iconst (pc := 403) (v := 1) F dL_stacks_403 rfl ?_
  refine zi_icmp_ne (pc := 404) (tgt := 469) F dL_stacks_404 (by decide) (fun h => absurd h (by decide)) (fun _ => ?_)
  refine zi_aload_n (pc := 407) F dL_stacks_407 0 rfl ?_
  refine zi_iconst (pc := 408) (v := 1) F dL_stacks_408 rfl ?_
  refine zr_settle (pc := 409) hfl F hsx ev268_ okdT18_ okdE56_ okdM36_ (cwV 1 F.1.2.2.2.2 gL_stacks_X4_settle rfl rfl rfl hd_X4_settle ⟨Nat.le_of_ble_eq_true rfl, Nat.le_of_ble_eq_true rfl⟩) (Nat.le_of_ble_eq_true rfl) dL_stacks_409 ⟨Nat.le_of_ble_eq_true rfl, Nat.le_of_ble_eq_true rfl⟩ ?_
  show zW p l e rmL_stacks s m args below meth c 242 3126 Q G.1 A 2 (zWL G (zd dL78_) (zd dT19_) (zd dE57_) (zd dV24_) (zd dM37_) (zd dK22_)) [(1, .ref (G.2.2 0 0))] 412 [.int 1]
  refine zi_iconst (pc := 412) (v := 1) F dL_stacks_412 rfl ?_
  refine zi_icmp_ne (pc := 413) (tgt := 469) F dL_stacks_413 (by decide) (fun h => absurd h (by decide)) (fun _ => ?_)
  exact kk
set_option maxHeartbeats 4000000 in
set_option maxRecDepth 100000 in
theorem sg_stacks_7 {p : Program} {l : Launch} {e : Env} {s : State} {m : MethodId} {args : Array Value} {below : List Frame} {meth : Method} {c : Code} {Q : State → Prop} {A : Nat → Prop} {G : zG_t} (hfl : l.stackTraces = false) (F : zF p m c cL_stacks 2 s args wsL_stacks RL G.1 (zty G) A) (hsx : zSx s) (hao : zAOA s) (kk : zW p l e rmL_stacks s m args below meth c 248 3162 Q G.1 A 2 (zWL G (zd dL79_) (zd dT20_) (zd dE58_) (zd dV24_) (zd dM38_) (zd dK23_)) [(1, .ref (G.2.2 0 0))] 506 []) : zW p l e rmL_stacks s m args below meth c 242 3126 Q G.1 A 2 (zWL G (zd dL78_) (zd dT19_) (zd dE57_) (zd dV24_) (zd dM37_) (zd dK22_)) [(1, .ref (G.2.2 0 0))] 416 [] := by
  refine zi_aload_n (pc := 416) F dL_stacks_416 0 rfl ?_
  refine zr_things (pc := 417) hfl F hsx ev269_  (cwV 0 F.1.2.2.2.2 gL_stacks_X4_things rfl rfl rfl hd_X4_things ⟨Nat.le_of_ble_eq_true rfl, Nat.le_of_ble_eq_true rfl⟩) (Nat.le_of_ble_eq_true rfl) dL_stacks_417 ⟨Nat.le_of_ble_eq_true rfl, Nat.le_of_ble_eq_true rfl⟩ ?_
  show zW p l e rmL_stacks s m args below meth c 242 3126 Q G.1 A 2 (zWL G (zd dL78_) (zd dT19_) (zd dE57_) (zd dV24_) (zd dM37_) (zd dK22_)) [(1, .ref (G.2.2 0 0))] 420 [.int 4]
  refine zi_iconst (pc := 420) (v := 4) F dL_stacks_420 rfl ?_
  refine zi_icmp_ne (pc := 421) (tgt := 469) F dL_stacks_421 (by decide) (fun h => absurd h (by decide)) (fun _ => ?_)
  refine zi_aload_n (pc := 424) F dL_stacks_424 0 rfl ?_
  refine zr_stack (pc := 425) hfl F hsx ev270_  (cwV 0 F.1.2.2.2.2 gL_stacks_X4_stack rfl rfl rfl hd_X4_stack ⟨Nat.le_of_ble_eq_true rfl, Nat.le_of_ble_eq_true rfl⟩) (Nat.le_of_ble_eq_true rfl) dL_stacks_425 ⟨Nat.le_of_ble_eq_true rfl, Nat.le_of_ble_eq_true rfl⟩ ?_
  show zW p l e rmL_stacks s m args below meth c 242 3126 Q G.1 A 2 (zWL G (zd dL78_) (zd dT19_) (zd dE57_) (zd dV24_) (zd dM37_) (zd dK22_)) [(1, .ref (G.2.2 0 0))] 428 [.int 2]
  refine zi_iconst (pc := 428) (v := 2) F dL_stacks_428 rfl ?_
  refine zi_icmp_ne (pc := 429) (tgt := 469) F dL_stacks_429 (by decide) (fun h => absurd h (by decide)) (fun _ => ?_)
  refine zi_aload_n (pc := 432) F dL_stacks_432 0 rfl ?_
  refine zi_iconst (pc := 433) (v := 0) F dL_stacks_433 rfl ?_
  refine zr_entryCard (pc := 434) hfl F hsx ev271_ okdE57_ (cwV 1 F.1.2.2.2.2 gL_stacks_X4_entryCard rfl rfl rfl hd_X4_entryCard ⟨Nat.le_of_ble_eq_true rfl, Nat.le_of_ble_eq_true rfl⟩) (Nat.le_of_ble_eq_true rfl) dL_stacks_434 ⟨Nat.le_of_ble_eq_true rfl, Nat.le_of_ble_eq_true rfl⟩ ?_
  show zW p l e rmL_stacks s m args below meth c 243 3132 Q G.1 A 2 (zWL G (zd dL78_) (zd dT19_) (zd dE57_) (zd dV24_) (zd dM37_) (zd dK22_)) [(1, .ref (G.2.2 0 0))] 437 [.int 11]
  refine zi_bipush (pc := 437) (v := 11) F dL_stacks_437 rfl ?_
  refine zi_icmp_ne (pc := 439) (tgt := 469) F dL_stacks_439 (by decide) (fun h => absurd h (by decide)) (fun _ => ?_)
  refine zi_aload_n (pc := 442) F dL_stacks_442 0 rfl ?_
  refine zi_iconst (pc := 443) (v := 0) F dL_stacks_443 rfl ?_
  refine zr_entryPlayer (pc := 444) hfl F hsx ev272_ okdE57_ (cwV 1 F.1.2.2.2.2 gL_stacks_X4_entryPlayer rfl rfl rfl hd_X4_entryPlayer ⟨Nat.le_of_ble_eq_true rfl, Nat.le_of_ble_eq_true rfl⟩) (Nat.le_of_ble_eq_true rfl) dL_stacks_444 ⟨Nat.le_of_ble_eq_true rfl, Nat.le_of_ble_eq_true rfl⟩ ?_
  show zW p l e rmL_stacks s m args below meth c 244 3138 Q G.1 A 2 (zWL G (zd dL78_) (zd dT19_) (zd dE57_) (zd dV24_) (zd dM37_) (zd dK22_)) [(1, .ref (G.2.2 0 0))] 447 [.int 0]
  refine zi_if_ne (pc := 447) (tgt := 469) F dL_stacks_447 (by decide) (fun h => absurd h (by decide)) (fun _ => ?_)
  refine zi_aload_n (pc := 450) F dL_stacks_450 0 rfl ?_
  refine zi_iconst (pc := 451) (v := 1) F dL_stacks_451 rfl ?_
  refine zr_entryCard (pc := 452) hfl F hsx ev273_ okdE57_ (cwV 1 F.1.2.2.2.2 gL_stacks_X4_entryCard rfl rfl rfl hd_X4_entryCard ⟨Nat.le_of_ble_eq_true rfl, Nat.le_of_ble_eq_true rfl⟩) (Nat.le_of_ble_eq_true rfl) dL_stacks_452 ⟨Nat.le_of_ble_eq_true rfl, Nat.le_of_ble_eq_true rfl⟩ ?_
  show zW p l e rmL_stacks s m args below meth c 245 3144 Q G.1 A 2 (zWL G (zd dL78_) (zd dT19_) (zd dE57_) (zd dV24_) (zd dM37_) (zd dK22_)) [(1, .ref (G.2.2 0 0))] 455 [.int 9]
  refine zi_bipush (pc := 455) (v := 9) F dL_stacks_455 rfl ?_
  refine zi_icmp_ne (pc := 457) (tgt := 469) F dL_stacks_457 (by decide) (fun h => absurd h (by decide)) (fun _ => ?_)
  refine zi_aload_n (pc := 460) F dL_stacks_460 0 rfl ?_
  refine zi_iconst (pc := 461) (v := 1) F dL_stacks_461 rfl ?_
  refine zr_entryPlayer (pc := 462) hfl F hsx ev274_ okdE57_ (cwV 1 F.1.2.2.2.2 gL_stacks_X4_entryPlayer rfl rfl rfl hd_X4_entryPlayer ⟨Nat.le_of_ble_eq_true rfl, Nat.le_of_ble_eq_true rfl⟩) (Nat.le_of_ble_eq_true rfl) dL_stacks_462 ⟨Nat.le_of_ble_eq_true rfl, Nat.le_of_ble_eq_true rfl⟩ ?_
  show zW p l e rmL_stacks s m args below meth c 246 3150 Q G.1 A 2 (zWL G (zd dL78_) (zd dT19_) (zd dE57_) (zd dV24_) (zd dM37_) (zd dK22_)) [(1, .ref (G.2.2 0 0))] 465 [.int 1]
  refine zi_iconst (pc := 465) (v := 1) F dL_stacks_465 rfl ?_
  refine zi_icmp_eq (pc := 466) (tgt := 471) F dL_stacks_466 (by decide) (fun _ => ?_) (fun h => absurd h (by decide))
  refine zi_aload_n (pc := 471) F dL_stacks_471 0 rfl ?_
  refine zi_iconst (pc := 472) (v := 1) F dL_stacks_472 rfl ?_
  refine zr_settle (pc := 473) hfl F hsx ev275_ okdT19_ okdE57_ okdM37_ (cwV 1 F.1.2.2.2.2 gL_stacks_X4_settle rfl rfl rfl hd_X4_settle ⟨Nat.le_of_ble_eq_true rfl, Nat.le_of_ble_eq_true rfl⟩) (Nat.le_of_ble_eq_true rfl) dL_stacks_473 ⟨Nat.le_of_ble_eq_true rfl, Nat.le_of_ble_eq_true rfl⟩ ?_
  show zW p l e rmL_stacks s m args below meth c 247 3156 Q G.1 A 2 (zWL G (zd dL79_) (zd dT20_) (zd dE58_) (zd dV24_) (zd dM38_) (zd dK23_)) [(1, .ref (G.2.2 0 0))] 476 [.int 1]
  refine zi_iconst (pc := 476) (v := 1) F dL_stacks_476 rfl ?_
  refine zi_icmp_ne (pc := 477) (tgt := 583) F dL_stacks_477 (by decide) (fun h => absurd h (by decide)) (fun _ => ?_)
  refine zi_aload_n (pc := 480) F dL_stacks_480 0 rfl ?_
  refine zr_things (pc := 481) hfl F hsx ev276_  (cwV 0 F.1.2.2.2.2 gL_stacks_X4_things rfl rfl rfl hd_X4_things ⟨Nat.le_of_ble_eq_true rfl, Nat.le_of_ble_eq_true rfl⟩) (Nat.le_of_ble_eq_true rfl) dL_stacks_481 ⟨Nat.le_of_ble_eq_true rfl, Nat.le_of_ble_eq_true rfl⟩ ?_
  show zW p l e rmL_stacks s m args below meth c 247 3156 Q G.1 A 2 (zWL G (zd dL79_) (zd dT20_) (zd dE58_) (zd dV24_) (zd dM38_) (zd dK23_)) [(1, .ref (G.2.2 0 0))] 484 [.int 3]
  refine zi_iconst (pc := 484) (v := 3) F dL_stacks_484 rfl ?_
  refine zi_icmp_ne (pc := 485) (tgt := 583) F dL_stacks_485 (by decide) (fun h => absurd h (by decide)) (fun _ => ?_)
  refine zi_aload_n (pc := 488) F dL_stacks_488 0 rfl ?_
  refine zr_stack (pc := 489) hfl F hsx ev277_  (cwV 0 F.1.2.2.2.2 gL_stacks_X4_stack rfl rfl rfl hd_X4_stack ⟨Nat.le_of_ble_eq_true rfl, Nat.le_of_ble_eq_true rfl⟩) (Nat.le_of_ble_eq_true rfl) dL_stacks_489 ⟨Nat.le_of_ble_eq_true rfl, Nat.le_of_ble_eq_true rfl⟩ ?_
  show zW p l e rmL_stacks s m args below meth c 247 3156 Q G.1 A 2 (zWL G (zd dL79_) (zd dT20_) (zd dE58_) (zd dV24_) (zd dM38_) (zd dK23_)) [(1, .ref (G.2.2 0 0))] 492 [.int 2]
  refine zi_iconst (pc := 492) (v := 2) F dL_stacks_492 rfl ?_
  refine zi_icmp_ne (pc := 493) (tgt := 583) F dL_stacks_493 (by decide) (fun h => absurd h (by decide)) (fun _ => ?_)
  refine zi_aload_n (pc := 496) F dL_stacks_496 0 rfl ?_
  refine zi_iconst (pc := 497) (v := 0) F dL_stacks_497 rfl ?_
  refine zr_entryCard (pc := 498) hfl F hsx ev278_ okdE58_ (cwV 1 F.1.2.2.2.2 gL_stacks_X4_entryCard rfl rfl rfl hd_X4_entryCard ⟨Nat.le_of_ble_eq_true rfl, Nat.le_of_ble_eq_true rfl⟩) (Nat.le_of_ble_eq_true rfl) dL_stacks_498 ⟨Nat.le_of_ble_eq_true rfl, Nat.le_of_ble_eq_true rfl⟩ ?_
  show zW p l e rmL_stacks s m args below meth c 248 3162 Q G.1 A 2 (zWL G (zd dL79_) (zd dT20_) (zd dE58_) (zd dV24_) (zd dM38_) (zd dK23_)) [(1, .ref (G.2.2 0 0))] 501 [.int 10]
  refine zi_bipush (pc := 501) (v := 10) F dL_stacks_501 rfl ?_
  refine zi_icmp_ne (pc := 503) (tgt := 583) F dL_stacks_503 (by decide) (fun h => absurd h (by decide)) (fun _ => ?_)
  exact kk
set_option maxHeartbeats 4000000 in
set_option maxRecDepth 100000 in
theorem sg_stacks_8 {p : Program} {l : Launch} {e : Env} {s : State} {m : MethodId} {args : Array Value} {below : List Frame} {meth : Method} {c : Code} {Q : State → Prop} {A : Nat → Prop} {G : zG_t} (hfl : l.stackTraces = false) (F : zF p m c cL_stacks 2 s args wsL_stacks RL G.1 (zty G) A) (hsx : zSx s) (hao : zAOA s) (kk : zW p l e rmL_stacks s m args below meth c 254 3198 Q G.1 A 2 (zWL G (zd dL80_) (zd dT21_) (zd dE59_) (zd dV25_) (zd dM39_) (zd dK24_)) [(1, .ref (G.2.2 0 0))] 584 [.int 1]) : zW p l e rmL_stacks s m args below meth c 248 3162 Q G.1 A 2 (zWL G (zd dL79_) (zd dT20_) (zd dE58_) (zd dV24_) (zd dM38_) (zd dK23_)) [(1, .ref (G.2.2 0 0))] 506 [] := by
  refine zi_aload_n (pc := 506) F dL_stacks_506 0 rfl ?_
  refine zi_iconst (pc := 507) (v := 1) F dL_stacks_507 rfl ?_
  refine zr_settle (pc := 508) hfl F hsx ev279_ okdT20_ okdE58_ okdM38_ (cwV 1 F.1.2.2.2.2 gL_stacks_X4_settle rfl rfl rfl hd_X4_settle ⟨Nat.le_of_ble_eq_true rfl, Nat.le_of_ble_eq_true rfl⟩) (Nat.le_of_ble_eq_true rfl) dL_stacks_508 ⟨Nat.le_of_ble_eq_true rfl, Nat.le_of_ble_eq_true rfl⟩ ?_
  show zW p l e rmL_stacks s m args below meth c 249 3168 Q G.1 A 2 (zWL G (zd dL80_) (zd dT21_) (zd dE59_) (zd dV25_) (zd dM39_) (zd dK24_)) [(1, .ref (G.2.2 0 0))] 511 [.int 1]
  refine zi_iconst (pc := 511) (v := 1) F dL_stacks_511 rfl ?_
  refine zi_icmp_ne (pc := 512) (tgt := 583) F dL_stacks_512 (by decide) (fun h => absurd h (by decide)) (fun _ => ?_)
  refine zi_aload_n (pc := 515) F dL_stacks_515 0 rfl ?_
  refine zr_things (pc := 516) hfl F hsx ev280_  (cwV 0 F.1.2.2.2.2 gL_stacks_X4_things rfl rfl rfl hd_X4_things ⟨Nat.le_of_ble_eq_true rfl, Nat.le_of_ble_eq_true rfl⟩) (Nat.le_of_ble_eq_true rfl) dL_stacks_516 ⟨Nat.le_of_ble_eq_true rfl, Nat.le_of_ble_eq_true rfl⟩ ?_
  show zW p l e rmL_stacks s m args below meth c 249 3168 Q G.1 A 2 (zWL G (zd dL80_) (zd dT21_) (zd dE59_) (zd dV25_) (zd dM39_) (zd dK24_)) [(1, .ref (G.2.2 0 0))] 519 [.int 4]
  refine zi_iconst (pc := 519) (v := 4) F dL_stacks_519 rfl ?_
  refine zi_icmp_ne (pc := 520) (tgt := 583) F dL_stacks_520 (by decide) (fun h => absurd h (by decide)) (fun _ => ?_)
  refine zi_aload_n (pc := 523) F dL_stacks_523 0 rfl ?_
  refine zi_iconst (pc := 524) (v := 3) F dL_stacks_524 rfl ?_
  refine zi_iconst (pc := 525) (v := 0) F dL_stacks_525 rfl ?_
  refine zr_controllerOf (pc := 526) hfl F hsx ev281_ okdT21_ (cwV 2 F.1.2.2.2.2 gL_stacks_X4_controllerOf rfl rfl rfl hd_X4_controllerOf ⟨Nat.le_of_ble_eq_true rfl, Nat.le_of_ble_eq_true rfl⟩) (Nat.le_of_ble_eq_true rfl) dL_stacks_526 ⟨Nat.le_of_ble_eq_true rfl, Nat.le_of_ble_eq_true rfl⟩ ?_
  show zW p l e rmL_stacks s m args below meth c 250 3174 Q G.1 A 2 (zWL G (zd dL80_) (zd dT21_) (zd dE59_) (zd dV25_) (zd dM39_) (zd dK24_)) [(1, .ref (G.2.2 0 0))] 529 [.int 0]
  refine zi_if_ne (pc := 529) (tgt := 583) F dL_stacks_529 (by decide) (fun h => absurd h (by decide)) (fun _ => ?_)
  refine zi_aload_n (pc := 532) F dL_stacks_532 0 rfl ?_
  refine zr_stack (pc := 533) hfl F hsx ev282_  (cwV 0 F.1.2.2.2.2 gL_stacks_X4_stack rfl rfl rfl hd_X4_stack ⟨Nat.le_of_ble_eq_true rfl, Nat.le_of_ble_eq_true rfl⟩) (Nat.le_of_ble_eq_true rfl) dL_stacks_533 ⟨Nat.le_of_ble_eq_true rfl, Nat.le_of_ble_eq_true rfl⟩ ?_
  show zW p l e rmL_stacks s m args below meth c 250 3174 Q G.1 A 2 (zWL G (zd dL80_) (zd dT21_) (zd dE59_) (zd dV25_) (zd dM39_) (zd dK24_)) [(1, .ref (G.2.2 0 0))] 536 [.int 3]
  refine zi_iconst (pc := 536) (v := 3) F dL_stacks_536 rfl ?_
  refine zi_icmp_ne (pc := 537) (tgt := 583) F dL_stacks_537 (by decide) (fun h => absurd h (by decide)) (fun _ => ?_)
  refine zi_aload_n (pc := 540) F dL_stacks_540 0 rfl ?_
  refine zi_iconst (pc := 541) (v := 0) F dL_stacks_541 rfl ?_
  refine zr_entryCard (pc := 542) hfl F hsx ev283_ okdE59_ (cwV 1 F.1.2.2.2.2 gL_stacks_X4_entryCard rfl rfl rfl hd_X4_entryCard ⟨Nat.le_of_ble_eq_true rfl, Nat.le_of_ble_eq_true rfl⟩) (Nat.le_of_ble_eq_true rfl) dL_stacks_542 ⟨Nat.le_of_ble_eq_true rfl, Nat.le_of_ble_eq_true rfl⟩ ?_
  show zW p l e rmL_stacks s m args below meth c 251 3180 Q G.1 A 2 (zWL G (zd dL80_) (zd dT21_) (zd dE59_) (zd dV25_) (zd dM39_) (zd dK24_)) [(1, .ref (G.2.2 0 0))] 545 [.int 11]
  refine zi_bipush (pc := 545) (v := 11) F dL_stacks_545 rfl ?_
  refine zi_icmp_ne (pc := 547) (tgt := 583) F dL_stacks_547 (by decide) (fun h => absurd h (by decide)) (fun _ => ?_)
  refine zi_aload_n (pc := 550) F dL_stacks_550 0 rfl ?_
  refine zi_iconst (pc := 551) (v := 1) F dL_stacks_551 rfl ?_
  refine zr_entryCard (pc := 552) hfl F hsx ev284_ okdE59_ (cwV 1 F.1.2.2.2.2 gL_stacks_X4_entryCard rfl rfl rfl hd_X4_entryCard ⟨Nat.le_of_ble_eq_true rfl, Nat.le_of_ble_eq_true rfl⟩) (Nat.le_of_ble_eq_true rfl) dL_stacks_552 ⟨Nat.le_of_ble_eq_true rfl, Nat.le_of_ble_eq_true rfl⟩ ?_
  show zW p l e rmL_stacks s m args below meth c 252 3186 Q G.1 A 2 (zWL G (zd dL80_) (zd dT21_) (zd dE59_) (zd dV25_) (zd dM39_) (zd dK24_)) [(1, .ref (G.2.2 0 0))] 555 [.int 9]
  refine zi_bipush (pc := 555) (v := 9) F dL_stacks_555 rfl ?_
  refine zi_icmp_ne (pc := 557) (tgt := 583) F dL_stacks_557 (by decide) (fun h => absurd h (by decide)) (fun _ => ?_)
  refine zi_aload_n (pc := 560) F dL_stacks_560 0 rfl ?_
  refine zi_iconst (pc := 561) (v := 2) F dL_stacks_561 rfl ?_
  refine zr_entryCard (pc := 562) hfl F hsx ev285_ okdE59_ (cwV 1 F.1.2.2.2.2 gL_stacks_X4_entryCard rfl rfl rfl hd_X4_entryCard ⟨Nat.le_of_ble_eq_true rfl, Nat.le_of_ble_eq_true rfl⟩) (Nat.le_of_ble_eq_true rfl) dL_stacks_562 ⟨Nat.le_of_ble_eq_true rfl, Nat.le_of_ble_eq_true rfl⟩ ?_
  show zW p l e rmL_stacks s m args below meth c 253 3192 Q G.1 A 2 (zWL G (zd dL80_) (zd dT21_) (zd dE59_) (zd dV25_) (zd dM39_) (zd dK24_)) [(1, .ref (G.2.2 0 0))] 565 [.int 9]
  refine zi_bipush (pc := 565) (v := 9) F dL_stacks_565 rfl ?_
  refine zi_icmp_ne (pc := 567) (tgt := 583) F dL_stacks_567 (by decide) (fun h => absurd h (by decide)) (fun _ => ?_)
  refine zi_aload_n (pc := 570) F dL_stacks_570 0 rfl ?_
  refine zi_iconst (pc := 571) (v := 1) F dL_stacks_571 rfl ?_
  refine zr_coins (pc := 572) hfl F hsx ev286_  (cwV 1 F.1.2.2.2.2 gL_stacks_X4_coins rfl rfl rfl hd_X4_coins ⟨Nat.le_of_ble_eq_true rfl, Nat.le_of_ble_eq_true rfl⟩) (Nat.le_of_ble_eq_true rfl) dL_stacks_572 ⟨Nat.le_of_ble_eq_true rfl, Nat.le_of_ble_eq_true rfl⟩ ?_
  show zW p l e rmL_stacks s m args below meth c 254 3198 Q G.1 A 2 (zWL G (zd dL80_) (zd dT21_) (zd dE59_) (zd dV25_) (zd dM39_) (zd dK24_)) [(1, .ref (G.2.2 0 0))] 575 [.int 5]
  refine zi_iconst (pc := 575) (v := 5) F dL_stacks_575 rfl ?_
  refine zi_icmp_ne (pc := 576) (tgt := 583) F dL_stacks_576 (by decide) (fun h => absurd h (by decide)) (fun _ => ?_)
  refine zi_iconst (pc := 579) (v := 1) F dL_stacks_579 rfl ?_
  refine zi_goto (pc := 580) (tgt := 584) F dL_stacks_580 (by decide) ?_
  exact kk
