set_option maxHeartbeats 4000000 in
set_option maxRecDepth 100000 in
theorem sg_loops_0 {p : Program} {l : Launch} {e : Env} {s : State} {m : MethodId} {args : Array Value} {below : List Frame} {meth : Method} {c : Code} {Q : State → Prop} {A : Nat → Prop} {G : zG_t} (hfl : l.stackTraces = false) (F : zF p m c cL_loops 2 s args wsL_loops RL G.1 (zty G) A) (hsx : zSx s) (hao : zAOA s) (kk : zW p l e rmL_loops s m args below meth c 70 1257 Q G.1 A 2 (zWL G (zd dL84_) (zd dT23_) (zd dE62_) (zd dV26_) (zd dM41_) (zd dK25_)) [(0, .ref (G.2.2 0 0))] 96 []) : zW p l e rmL_loops s m args below meth c 62 1209 Q G.1 A 2 (zWL G (zd dL0_) (zd dT0_) (zd dE0_) (zd dV0_) (zd dM0_) (zd dK0_)) [(0, .ref (G.2.2 0 0))] 8 [] := by
  refine zi_aload_n (pc := 8) F dL_loops_8 0 rfl ?_
  refine zi_bipush (pc := 9) (v := 10) F dL_loops_9 rfl ?_
  refine zi_iconst (pc := 11) (v := 0) F dL_loops_11 rfl ?_
  refine zi_iconst (pc := 12) (v := 3) F dL_loops_12 rfl ?_
  refine zi_callQI (pc := 13) (rest := []) (ws' := zWL G (zd dL69_) (zd dT16_) (zd dE50_) (zd dV3_) (zd dM30_) (zd dK18_)) F hsx hao (c_L_lay l hfl G ev1_ ev249_ ev250_ ev251_ okdT0_ okdE0_ okdM0_ okdE49_ okdM0_) (va_cwS 4 F.1.2.2.2.2 gL_loops_L_lay rfl rfl rfl hd_L_lay ⟨Nat.le_of_ble_eq_true rfl, Nat.le_of_ble_eq_true rfl⟩) [] [] (zw_nil _) (zw_nil _).symm rfl rfl (Nat.le_of_ble_eq_true rfl) dL_loops_13 ⟨Nat.le_of_ble_eq_true rfl, Nat.le_of_ble_eq_true rfl⟩ ?_
  show zW p l e rmL_loops s m args below meth c 65 1227 Q G.1 A 2 (zWL G (zd dL69_) (zd dT16_) (zd dE50_) (zd dV3_) (zd dM30_) (zd dK18_)) [(0, .ref (G.2.2 0 0))] 16 [.int 1]
  refine zi_if_eq (pc := 16) (tgt := 129) F dL_loops_16 (by decide) (fun h => absurd h (by decide)) (fun _ => ?_)
  refine zi_aload_n (pc := 19) F dL_loops_19 0 rfl ?_
  refine zi_bipush (pc := 20) (v := 11) F dL_loops_20 rfl ?_
  refine zi_iconst (pc := 22) (v := 0) F dL_loops_22 rfl ?_
  refine zi_iconst (pc := 23) (v := 0) F dL_loops_23 rfl ?_
  refine zi_callQI (pc := 24) (rest := []) (ws' := zWL G (zd dL71_) (zd dT17_) (zd dE52_) (zd dV22_) (zd dM32_) (zd dK19_)) F hsx hao (c_L_lay l hfl G ev252_ ev253_ ev254_ ev255_ okdT16_ okdE50_ okdM30_ okdE51_ okdM31_) (va_cwS 4 F.1.2.2.2.2 gL_loops_L_lay rfl rfl rfl hd_L_lay ⟨Nat.le_of_ble_eq_true rfl, Nat.le_of_ble_eq_true rfl⟩) [] [] (zw_nil _) (zw_nil _).symm rfl rfl (Nat.le_of_ble_eq_true rfl) dL_loops_24 ⟨Nat.le_of_ble_eq_true rfl, Nat.le_of_ble_eq_true rfl⟩ ?_
  show zW p l e rmL_loops s m args below meth c 68 1245 Q G.1 A 2 (zWL G (zd dL71_) (zd dT17_) (zd dE52_) (zd dV22_) (zd dM32_) (zd dK19_)) [(0, .ref (G.2.2 0 0))] 27 [.int 1]
  refine zi_if_eq (pc := 27) (tgt := 129) F dL_loops_27 (by decide) (fun h => absurd h (by decide)) (fun _ => ?_)
  refine zi_aload_n (pc := 30) F dL_loops_30 0 rfl ?_
  refine zi_callQI (pc := 31) (rest := []) (ws' := zWL G (zd dL74_) (zd dT17_) (zd dE52_) (zd dV22_) (zd dM33_) (zd dK19_)) F hsx hao (c_L_round l hfl G ev257_ ev258_ ev259_ okdT17_ okdE52_ okdM32_ okdT17_ okdE52_ okdM32_ okdT17_ okdE52_ okdM32_) (va_cwS 1 F.1.2.2.2.2 gL_loops_L_round rfl rfl rfl hd_L_round ⟨Nat.le_of_ble_eq_true rfl, Nat.le_of_ble_eq_true rfl⟩) [] [] (zw_nil _) (zw_nil _).symm rfl rfl (Nat.le_of_ble_eq_true rfl) dL_loops_31 ⟨Nat.le_of_ble_eq_true rfl, Nat.le_of_ble_eq_true rfl⟩ ?_
  show zW p l e rmL_loops s m args below meth c 68 1245 Q G.1 A 2 (zWL G (zd dL74_) (zd dT17_) (zd dE52_) (zd dV22_) (zd dM33_) (zd dK19_)) [(0, .ref (G.2.2 0 0))] 34 [.int 2]
  refine zi_iconst (pc := 34) (v := 2) F dL_loops_34 rfl ?_
  refine zi_icmp_ne (pc := 35) (tgt := 129) F dL_loops_35 (by decide) (fun h => absurd h (by decide)) (fun _ => ?_)
  refine zi_aload_n (pc := 38) F dL_loops_38 0 rfl ?_
  refine zi_iconst (pc := 39) (v := 0) F dL_loops_39 rfl ?_
  refine zi_iconst (pc := 40) (v := 0) F dL_loops_40 rfl ?_
  refine zr_play (pc := 41) hfl F hsx ev287_ okdT17_ okdE52_ okdM33_ (cwV 2 F.1.2.2.2.2 gL_loops_X4_play rfl rfl rfl hd_X4_play ⟨Nat.le_of_ble_eq_true rfl, Nat.le_of_ble_eq_true rfl⟩) (Nat.le_of_ble_eq_true rfl) dL_loops_41 ⟨Nat.le_of_ble_eq_true rfl, Nat.le_of_ble_eq_true rfl⟩ ?_
  show zW p l e rmL_loops s m args below meth c 69 1251 Q G.1 A 2 (zWL G (zd dL75_) (zd dT17_) (zd dE60_) (zd dV22_) (zd dM33_) (zd dK19_)) [(0, .ref (G.2.2 0 0))] 44 [.int 1]
  refine zi_iconst (pc := 44) (v := 1) F dL_loops_44 rfl ?_
  refine zi_icmp_ne (pc := 45) (tgt := 129) F dL_loops_45 (by decide) (fun h => absurd h (by decide)) (fun _ => ?_)
  refine zi_aload_n (pc := 48) F dL_loops_48 0 rfl ?_
  refine zi_iconst (pc := 49) (v := 3) F dL_loops_49 rfl ?_
  refine zr_settle (pc := 50) hfl F hsx ev288_ okdT17_ okdE60_ okdM33_ (cwV 1 F.1.2.2.2.2 gL_loops_X4_settle rfl rfl rfl hd_X4_settle ⟨Nat.le_of_ble_eq_true rfl, Nat.le_of_ble_eq_true rfl⟩) (Nat.le_of_ble_eq_true rfl) dL_loops_50 ⟨Nat.le_of_ble_eq_true rfl, Nat.le_of_ble_eq_true rfl⟩ ?_
  show zW p l e rmL_loops s m args below meth c 70 1257 Q G.1 A 2 (zWL G (zd dL81_) (zd dT22_) (zd dE61_) (zd dV26_) (zd dM40_) (zd dK25_)) [(0, .ref (G.2.2 0 0))] 53 [.int 3]
  refine zi_iconst (pc := 53) (v := 3) F dL_loops_53 rfl ?_
  refine zi_icmp_ne (pc := 54) (tgt := 129) F dL_loops_54 (by decide) (fun h => absurd h (by decide)) (fun _ => ?_)
  refine zi_aload_n (pc := 57) F dL_loops_57 0 rfl ?_
  refine zr_things (pc := 58) hfl F hsx ev289_  (cwV 0 F.1.2.2.2.2 gL_loops_X4_things rfl rfl rfl hd_X4_things ⟨Nat.le_of_ble_eq_true rfl, Nat.le_of_ble_eq_true rfl⟩) (Nat.le_of_ble_eq_true rfl) dL_loops_58 ⟨Nat.le_of_ble_eq_true rfl, Nat.le_of_ble_eq_true rfl⟩ ?_
  show zW p l e rmL_loops s m args below meth c 70 1257 Q G.1 A 2 (zWL G (zd dL81_) (zd dT22_) (zd dE61_) (zd dV26_) (zd dM40_) (zd dK25_)) [(0, .ref (G.2.2 0 0))] 61 [.int 3]
  refine zi_iconst (pc := 61) (v := 3) F dL_loops_61 rfl ?_
  refine zi_icmp_ne (pc := 62) (tgt := 129) F dL_loops_62 (by decide) (fun h => absurd h (by decide)) (fun _ => ?_)
  refine zi_aload_n (pc := 65) F dL_loops_65 0 rfl ?_
  refine zr_loops (pc := 66) hfl F hsx ev290_  (cwV 0 F.1.2.2.2.2 gL_loops_X4_loops rfl rfl rfl hd_X4_loops ⟨Nat.le_of_ble_eq_true rfl, Nat.le_of_ble_eq_true rfl⟩) (Nat.le_of_ble_eq_true rfl) dL_loops_66 ⟨Nat.le_of_ble_eq_true rfl, Nat.le_of_ble_eq_true rfl⟩ ?_
  show zW p l e rmL_loops s m args below meth c 70 1257 Q G.1 A 2 (zWL G (zd dL81_) (zd dT22_) (zd dE61_) (zd dV26_) (zd dM40_) (zd dK25_)) [(0, .ref (G.2.2 0 0))] 69 [.int 0]
  refine zi_if_ne (pc := 69) (tgt := 129) F dL_loops_69 (by decide) (fun h => absurd h (by decide)) (fun _ => ?_)
  refine zi_aload_n (pc := 72) F dL_loops_72 0 rfl ?_
  refine zr_stack (pc := 73) hfl F hsx ev291_  (cwV 0 F.1.2.2.2.2 gL_loops_X4_stack rfl rfl rfl hd_X4_stack ⟨Nat.le_of_ble_eq_true rfl, Nat.le_of_ble_eq_true rfl⟩) (Nat.le_of_ble_eq_true rfl) dL_loops_73 ⟨Nat.le_of_ble_eq_true rfl, Nat.le_of_ble_eq_true rfl⟩ ?_
  show zW p l e rmL_loops s m args below meth c 70 1257 Q G.1 A 2 (zWL G (zd dL81_) (zd dT22_) (zd dE61_) (zd dV26_) (zd dM40_) (zd dK25_)) [(0, .ref (G.2.2 0 0))] 76 [.int 1]
  refine zi_iconst (pc := 76) (v := 1) F dL_loops_76 rfl ?_
  refine zi_icmp_ne (pc := 77) (tgt := 129) F dL_loops_77 (by decide) (fun h => absurd h (by decide)) (fun _ => ?_)
  refine zi_aload_n (pc := 80) F dL_loops_80 0 rfl ?_
  refine zi_callQI (pc := 81) (rest := []) (ws' := zWL G (zd dL84_) (zd dT23_) (zd dE62_) (zd dV26_) (zd dM41_) (zd dK25_)) F hsx hao (c_L_round l hfl G ev292_ ev293_ ev294_ okdT22_ okdE61_ okdM40_ okdT22_ okdE61_ okdM40_ okdT22_ okdE61_ okdM40_) (va_cwS 1 F.1.2.2.2.2 gL_loops_L_round rfl rfl rfl hd_L_round ⟨Nat.le_of_ble_eq_true rfl, Nat.le_of_ble_eq_true rfl⟩) [] [] (zw_nil _) (zw_nil _).symm rfl rfl (Nat.le_of_ble_eq_true rfl) dL_loops_81 ⟨Nat.le_of_ble_eq_true rfl, Nat.le_of_ble_eq_true rfl⟩ ?_
  show zW p l e rmL_loops s m args below meth c 70 1257 Q G.1 A 2 (zWL G (zd dL84_) (zd dT23_) (zd dE62_) (zd dV26_) (zd dM41_) (zd dK25_)) [(0, .ref (G.2.2 0 0))] 84 [.int 1]
  refine zi_iconst (pc := 84) (v := 1) F dL_loops_84 rfl ?_
  refine zi_icmp_ne (pc := 85) (tgt := 129) F dL_loops_85 (by decide) (fun h => absurd h (by decide)) (fun _ => ?_)
  refine zi_aload_n (pc := 88) F dL_loops_88 0 rfl ?_
  refine zr_loops (pc := 89) hfl F hsx ev295_  (cwV 0 F.1.2.2.2.2 gL_loops_X4_loops rfl rfl rfl hd_X4_loops ⟨Nat.le_of_ble_eq_true rfl, Nat.le_of_ble_eq_true rfl⟩) (Nat.le_of_ble_eq_true rfl) dL_loops_89 ⟨Nat.le_of_ble_eq_true rfl, Nat.le_of_ble_eq_true rfl⟩ ?_
  show zW p l e rmL_loops s m args below meth c 70 1257 Q G.1 A 2 (zWL G (zd dL84_) (zd dT23_) (zd dE62_) (zd dV26_) (zd dM41_) (zd dK25_)) [(0, .ref (G.2.2 0 0))] 92 [.int 1]
  refine zi_iconst (pc := 92) (v := 1) F dL_loops_92 rfl ?_
  refine zi_icmp_ne (pc := 93) (tgt := 129) F dL_loops_93 (by decide) (fun h => absurd h (by decide)) (fun _ => ?_)
  exact kk
set_option maxHeartbeats 4000000 in
set_option maxRecDepth 100000 in
theorem sg_loops_1 {p : Program} {l : Launch} {e : Env} {s : State} {m : MethodId} {args : Array Value} {below : List Frame} {meth : Method} {c : Code} {Q : State → Prop} {A : Nat → Prop} {G : zG_t} (hfl : l.stackTraces = false) (F : zF p m c cL_loops 2 s args wsL_loops RL G.1 (zty G) A) (hsx : zSx s) (hao : zAOA s) (kk : zW p l e rmL_loops s m args below meth c 75 1287 Q G.1 A 2 (zWL G (zd dL86_) (zd dT24_) (zd dE64_) (zd dV23_) (zd dM42_) (zd dK26_)) [(0, .ref (G.2.2 0 0)), (1, .int 1)] 161 []) : zW p l e rmL_loops s m args below meth c 70 1257 Q G.1 A 2 (zWL G (zd dL84_) (zd dT23_) (zd dE62_) (zd dV26_) (zd dM41_) (zd dK25_)) [(0, .ref (G.2.2 0 0))] 96 [] := by
  refine zi_aload_n (pc := 96) F dL_loops_96 0 rfl ?_
  refine zr_stack (pc := 97) hfl F hsx ev296_  (cwV 0 F.1.2.2.2.2 gL_loops_X4_stack rfl rfl rfl hd_X4_stack ⟨Nat.le_of_ble_eq_true rfl, Nat.le_of_ble_eq_true rfl⟩) (Nat.le_of_ble_eq_true rfl) dL_loops_97 ⟨Nat.le_of_ble_eq_true rfl, Nat.le_of_ble_eq_true rfl⟩ ?_
  show zW p l e rmL_loops s m args below meth c 70 1257 Q G.1 A 2 (zWL G (zd dL84_) (zd dT23_) (zd dE62_) (zd dV26_) (zd dM41_) (zd dK25_)) [(0, .ref (G.2.2 0 0))] 100 [.int 0]
  refine zi_if_ne (pc := 100) (tgt := 129) F dL_loops_100 (by decide) (fun h => absurd h (by decide)) (fun _ => ?_)
  refine zi_aload_n (pc := 103) F dL_loops_103 0 rfl ?_
  refine zr_things (pc := 104) hfl F hsx ev297_  (cwV 0 F.1.2.2.2.2 gL_loops_X4_things rfl rfl rfl hd_X4_things ⟨Nat.le_of_ble_eq_true rfl, Nat.le_of_ble_eq_true rfl⟩) (Nat.le_of_ble_eq_true rfl) dL_loops_104 ⟨Nat.le_of_ble_eq_true rfl, Nat.le_of_ble_eq_true rfl⟩ ?_
  show zW p l e rmL_loops s m args below meth c 70 1257 Q G.1 A 2 (zWL G (zd dL84_) (zd dT23_) (zd dE62_) (zd dV26_) (zd dM41_) (zd dK25_)) [(0, .ref (G.2.2 0 0))] 107 [.int 2]
  refine zi_iconst (pc := 107) (v := 2) F dL_loops_107 rfl ?_
  refine zi_icmp_ne (pc := 108) (tgt := 129) F dL_loops_108 (by decide) (fun h => absurd h (by decide)) (fun _ => ?_)
  refine zi_aload_n (pc := 111) F dL_loops_111 0 rfl ?_
  refine zr_acting (pc := 112) hfl F hsx ev298_  (cwV 0 F.1.2.2.2.2 gL_loops_X4_acting rfl rfl rfl hd_X4_acting ⟨Nat.le_of_ble_eq_true rfl, Nat.le_of_ble_eq_true rfl⟩) (Nat.le_of_ble_eq_true rfl) dL_loops_112 ⟨Nat.le_of_ble_eq_true rfl, Nat.le_of_ble_eq_true rfl⟩ ?_
  show zW p l e rmL_loops s m args below meth c 70 1257 Q G.1 A 2 (zWL G (zd dL84_) (zd dT23_) (zd dE62_) (zd dV26_) (zd dM41_) (zd dK25_)) [(0, .ref (G.2.2 0 0))] 115 [.int 1]
  refine zi_iconst (pc := 115) (v := 1) F dL_loops_115 rfl ?_
  refine zi_icmp_ne (pc := 116) (tgt := 129) F dL_loops_116 (by decide) (fun h => absurd h (by decide)) (fun _ => ?_)
  refine zi_aload_n (pc := 119) F dL_loops_119 0 rfl ?_
  refine zi_iconst (pc := 120) (v := 1) F dL_loops_120 rfl ?_
  refine zr_coins (pc := 121) hfl F hsx ev299_  (cwV 1 F.1.2.2.2.2 gL_loops_X4_coins rfl rfl rfl hd_X4_coins ⟨Nat.le_of_ble_eq_true rfl, Nat.le_of_ble_eq_true rfl⟩) (Nat.le_of_ble_eq_true rfl) dL_loops_121 ⟨Nat.le_of_ble_eq_true rfl, Nat.le_of_ble_eq_true rfl⟩ ?_
  show zW p l e rmL_loops s m args below meth c 71 1263 Q G.1 A 2 (zWL G (zd dL84_) (zd dT23_) (zd dE62_) (zd dV26_) (zd dM41_) (zd dK25_)) [(0, .ref (G.2.2 0 0))] 124 [.int 7]
  refine zi_bipush (pc := 124) (v := 7) F dL_loops_124 rfl ?_
  refine zi_icmp_eq (pc := 126) (tgt := 131) F dL_loops_126 (by decide) (fun _ => ?_) (fun h => absurd h (by decide))
  refine zi_iconst (pc := 131) (v := 0) F dL_loops_131 rfl ?_
  refine zi_istore_n (pc := 132) (lv' := [(0, .ref (G.2.2 0 0)), (1, .int 0)]) F dL_loops_132 (by decide) rfl ?_
  refine zi_iload_n (pc := 133) F dL_loops_133 1 rfl ?_
  refine zi_bipush (pc := 134) (v := 8) F dL_loops_134 rfl ?_
  refine zi_icmp_ge (pc := 136) (tgt := 199) F dL_loops_136 (by decide) (fun h => absurd h (by decide)) (fun _ => ?_)
  refine zi_aload_n (pc := 139) F dL_loops_139 0 rfl ?_
  refine zi_aload_n (pc := 140) F dL_loops_140 0 rfl ?_
  refine zr_turn (pc := 141) hfl F hsx ev300_  (cwV 0 F.1.2.2.2.2 gL_loops_X4_turn rfl rfl rfl hd_X4_turn ⟨Nat.le_of_ble_eq_true rfl, Nat.le_of_ble_eq_true rfl⟩) (Nat.le_of_ble_eq_true rfl) dL_loops_141 ⟨Nat.le_of_ble_eq_true rfl, Nat.le_of_ble_eq_true rfl⟩ ?_
  show zW p l e rmL_loops s m args below meth c 71 1263 Q G.1 A 2 (zWL G (zd dL84_) (zd dT23_) (zd dE62_) (zd dV26_) (zd dM41_) (zd dK25_)) [(0, .ref (G.2.2 0 0)), (1, .int 0)] 144 [.int 1, .ref (G.2.2 0 0)]
  refine zr_coins (pc := 144) hfl F hsx ev299_  (cwV 1 F.1.2.2.2.2 gL_loops_X4_coins rfl rfl rfl hd_X4_coins ⟨Nat.le_of_ble_eq_true rfl, Nat.le_of_ble_eq_true rfl⟩) (Nat.le_of_ble_eq_true rfl) dL_loops_144 ⟨Nat.le_of_ble_eq_true rfl, Nat.le_of_ble_eq_true rfl⟩ ?_
  show zW p l e rmL_loops s m args below meth c 72 1269 Q G.1 A 2 (zWL G (zd dL84_) (zd dT23_) (zd dE62_) (zd dV26_) (zd dM41_) (zd dK25_)) [(0, .ref (G.2.2 0 0)), (1, .int 0)] 147 [.int 7]
  refine zi_iconst (pc := 147) (v := 2) F dL_loops_147 rfl ?_
  refine zi_icmp_ge (pc := 148) (tgt := 161) F dL_loops_148 (by decide) (fun _ => ?_) (fun h => absurd h (by decide))
  refine zi_aload_n (pc := 161) F dL_loops_161 0 rfl ?_
  refine zi_iconst (pc := 162) (v := 5) F dL_loops_162 rfl ?_
  refine zi_iconst (pc := 163) (v := 0) F dL_loops_163 rfl ?_
  refine zr_play (pc := 164) hfl F hsx ev301_ okdT23_ okdE62_ okdM41_ (cwV 2 F.1.2.2.2.2 gL_loops_X4_play rfl rfl rfl hd_X4_play ⟨Nat.le_of_ble_eq_true rfl, Nat.le_of_ble_eq_true rfl⟩) (Nat.le_of_ble_eq_true rfl) dL_loops_164 ⟨Nat.le_of_ble_eq_true rfl, Nat.le_of_ble_eq_true rfl⟩ ?_
  show zW p l e rmL_loops s m args below meth c 73 1275 Q G.1 A 2 (zWL G (zd dL85_) (zd dT23_) (zd dE63_) (zd dV26_) (zd dM41_) (zd dK25_)) [(0, .ref (G.2.2 0 0)), (1, .int 0)] 167 [.int 1]
  refine zi_iconst (pc := 167) (v := 1) F dL_loops_167 rfl ?_
  refine zi_icmp_ne (pc := 168) (tgt := 191) F dL_loops_168 (by decide) (fun h => absurd h (by decide)) (fun _ => ?_)
  refine zi_aload_n (pc := 171) F dL_loops_171 0 rfl ?_
  refine zi_bipush (pc := 172) (v := 9) F dL_loops_172 rfl ?_
  refine zr_settle (pc := 174) hfl F hsx ev302_ okdT23_ okdE63_ okdM41_ (cwV 1 F.1.2.2.2.2 gL_loops_X4_settle rfl rfl rfl hd_X4_settle ⟨Nat.le_of_ble_eq_true rfl, Nat.le_of_ble_eq_true rfl⟩) (Nat.le_of_ble_eq_true rfl) dL_loops_174 ⟨Nat.le_of_ble_eq_true rfl, Nat.le_of_ble_eq_true rfl⟩ ?_
  show zW p l e rmL_loops s m args below meth c 74 1281 Q G.1 A 2 (zWL G (zd dL86_) (zd dT24_) (zd dE64_) (zd dV23_) (zd dM42_) (zd dK26_)) [(0, .ref (G.2.2 0 0)), (1, .int 0)] 177 [.int 2]
  refine zi_iconst (pc := 177) (v := 2) F dL_loops_177 rfl ?_
  refine zi_icmp_ne (pc := 178) (tgt := 191) F dL_loops_178 (by decide) (fun h => absurd h (by decide)) (fun _ => ?_)
  refine zi_aload_n (pc := 181) F dL_loops_181 0 rfl ?_
  refine zr_things (pc := 182) hfl F hsx ev303_  (cwV 0 F.1.2.2.2.2 gL_loops_X4_things rfl rfl rfl hd_X4_things ⟨Nat.le_of_ble_eq_true rfl, Nat.le_of_ble_eq_true rfl⟩) (Nat.le_of_ble_eq_true rfl) dL_loops_182 ⟨Nat.le_of_ble_eq_true rfl, Nat.le_of_ble_eq_true rfl⟩ ?_
  show zW p l e rmL_loops s m args below meth c 74 1281 Q G.1 A 2 (zWL G (zd dL86_) (zd dT24_) (zd dE64_) (zd dV23_) (zd dM42_) (zd dK26_)) [(0, .ref (G.2.2 0 0)), (1, .int 0)] 185 [.int 3]
  refine zi_iconst (pc := 185) (v := 3) F dL_loops_185 rfl ?_
  refine zi_iload_n (pc := 186) F dL_loops_186 1 rfl ?_
  refine zi_iadd (pc := 187) F dL_loops_187 ?_
  refine zi_toplit (y := 3) (by decide) ?_
  refine zi_icmp_eq (pc := 188) (tgt := 193) F dL_loops_188 (by decide) (fun _ => ?_) (fun h => absurd h (by decide))
  refine zi_iinc (pc := 193) (lv' := [(0, .ref (G.2.2 0 0)), (1, .int 1)]) F dL_loops_193 1 rfl (by decide) (by decide) rfl ?_
  refine zi_goto (pc := 196) (tgt := 133) F dL_loops_196 (by decide) ?_
  refine zi_iload_n (pc := 133) F dL_loops_133 1 rfl ?_
  refine zi_bipush (pc := 134) (v := 8) F dL_loops_134 rfl ?_
  refine zi_icmp_ge (pc := 136) (tgt := 199) F dL_loops_136 (by decide) (fun h => absurd h (by decide)) (fun _ => ?_)
  refine zi_aload_n (pc := 139) F dL_loops_139 0 rfl ?_
  refine zi_aload_n (pc := 140) F dL_loops_140 0 rfl ?_
  refine zr_turn (pc := 141) hfl F hsx ev304_  (cwV 0 F.1.2.2.2.2 gL_loops_X4_turn rfl rfl rfl hd_X4_turn ⟨Nat.le_of_ble_eq_true rfl, Nat.le_of_ble_eq_true rfl⟩) (Nat.le_of_ble_eq_true rfl) dL_loops_141 ⟨Nat.le_of_ble_eq_true rfl, Nat.le_of_ble_eq_true rfl⟩ ?_
  show zW p l e rmL_loops s m args below meth c 74 1281 Q G.1 A 2 (zWL G (zd dL86_) (zd dT24_) (zd dE64_) (zd dV23_) (zd dM42_) (zd dK26_)) [(0, .ref (G.2.2 0 0)), (1, .int 1)] 144 [.int 1, .ref (G.2.2 0 0)]
  refine zr_coins (pc := 144) hfl F hsx ev305_  (cwV 1 F.1.2.2.2.2 gL_loops_X4_coins rfl rfl rfl hd_X4_coins ⟨Nat.le_of_ble_eq_true rfl, Nat.le_of_ble_eq_true rfl⟩) (Nat.le_of_ble_eq_true rfl) dL_loops_144 ⟨Nat.le_of_ble_eq_true rfl, Nat.le_of_ble_eq_true rfl⟩ ?_
  show zW p l e rmL_loops s m args below meth c 75 1287 Q G.1 A 2 (zWL G (zd dL86_) (zd dT24_) (zd dE64_) (zd dV23_) (zd dM42_) (zd dK26_)) [(0, .ref (G.2.2 0 0)), (1, .int 1)] 147 [.int 5]
  refine zi_iconst (pc := 147) (v := 2) F dL_loops_147 rfl ?_
  refine zi_icmp_ge (pc := 148) (tgt := 161) F dL_loops_148 (by decide) (fun _ => ?_) (fun h => absurd h (by decide))
  exact kk
set_option maxHeartbeats 4000000 in
set_option maxRecDepth 100000 in
theorem sg_loops_2 {p : Program} {l : Launch} {e : Env} {s : State} {m : MethodId} {args : Array Value} {below : List Frame} {meth : Method} {c : Code} {Q : State → Prop} {A : Nat → Prop} {G : zG_t} (hfl : l.stackTraces = false) (F : zF p m c cL_loops 2 s args wsL_loops RL G.1 (zty G) A) (hsx : zSx s) (hao : zAOA s) (kk : zW p l e rmL_loops s m args below meth c 81 1323 Q G.1 A 2 (zWL G (zd dL90_) (zd dT26_) (zd dE68_) (zd dV28_) (zd dM46_) (zd dK28_)) [(0, .ref (G.2.2 0 0)), (1, .int 3)] 151 []) : zW p l e rmL_loops s m args below meth c 75 1287 Q G.1 A 2 (zWL G (zd dL86_) (zd dT24_) (zd dE64_) (zd dV23_) (zd dM42_) (zd dK26_)) [(0, .ref (G.2.2 0 0)), (1, .int 1)] 161 [] := by
  refine zi_aload_n (pc := 161) F dL_loops_161 0 rfl ?_
  refine zi_iconst (pc := 162) (v := 5) F dL_loops_162 rfl ?_
  refine zi_iconst (pc := 163) (v := 0) F dL_loops_163 rfl ?_
  refine zr_play (pc := 164) hfl F hsx ev306_ okdT24_ okdE64_ okdM42_ (cwV 2 F.1.2.2.2.2 gL_loops_X4_play rfl rfl rfl hd_X4_play ⟨Nat.le_of_ble_eq_true rfl, Nat.le_of_ble_eq_true rfl⟩) (Nat.le_of_ble_eq_true rfl) dL_loops_164 ⟨Nat.le_of_ble_eq_true rfl, Nat.le_of_ble_eq_true rfl⟩ ?_
  show zW p l e rmL_loops s m args below meth c 76 1293 Q G.1 A 2 (zWL G (zd dL87_) (zd dT24_) (zd dE65_) (zd dV23_) (zd dM43_) (zd dK26_)) [(0, .ref (G.2.2 0 0)), (1, .int 1)] 167 [.int 1]
  refine zi_iconst (pc := 167) (v := 1) F dL_loops_167 rfl ?_
  refine zi_icmp_ne (pc := 168) (tgt := 191) F dL_loops_168 (by decide) (fun h => absurd h (by decide)) (fun _ => ?_)
  refine zi_aload_n (pc := 171) F dL_loops_171 0 rfl ?_
  refine zi_bipush (pc := 172) (v := 9) F dL_loops_172 rfl ?_
  refine zr_settle (pc := 174) hfl F hsx ev307_ okdT24_ okdE65_ okdM43_ (cwV 1 F.1.2.2.2.2 gL_loops_X4_settle rfl rfl rfl hd_X4_settle ⟨Nat.le_of_ble_eq_true rfl, Nat.le_of_ble_eq_true rfl⟩) (Nat.le_of_ble_eq_true rfl) dL_loops_174 ⟨Nat.le_of_ble_eq_true rfl, Nat.le_of_ble_eq_true rfl⟩ ?_
  show zW p l e rmL_loops s m args below meth c 77 1299 Q G.1 A 2 (zWL G (zd dL88_) (zd dT25_) (zd dE66_) (zd dV27_) (zd dM44_) (zd dK27_)) [(0, .ref (G.2.2 0 0)), (1, .int 1)] 177 [.int 2]
  refine zi_iconst (pc := 177) (v := 2) F dL_loops_177 rfl ?_
  refine zi_icmp_ne (pc := 178) (tgt := 191) F dL_loops_178 (by decide) (fun h => absurd h (by decide)) (fun _ => ?_)
  refine zi_aload_n (pc := 181) F dL_loops_181 0 rfl ?_
  refine zr_things (pc := 182) hfl F hsx ev308_  (cwV 0 F.1.2.2.2.2 gL_loops_X4_things rfl rfl rfl hd_X4_things ⟨Nat.le_of_ble_eq_true rfl, Nat.le_of_ble_eq_true rfl⟩) (Nat.le_of_ble_eq_true rfl) dL_loops_182 ⟨Nat.le_of_ble_eq_true rfl, Nat.le_of_ble_eq_true rfl⟩ ?_
  show zW p l e rmL_loops s m args below meth c 77 1299 Q G.1 A 2 (zWL G (zd dL88_) (zd dT25_) (zd dE66_) (zd dV27_) (zd dM44_) (zd dK27_)) [(0, .ref (G.2.2 0 0)), (1, .int 1)] 185 [.int 4]
  refine zi_iconst (pc := 185) (v := 3) F dL_loops_185 rfl ?_
  refine zi_iload_n (pc := 186) F dL_loops_186 1 rfl ?_
  refine zi_iadd (pc := 187) F dL_loops_187 ?_
  refine zi_toplit (y := 4) (by decide) ?_
  refine zi_icmp_eq (pc := 188) (tgt := 193) F dL_loops_188 (by decide) (fun _ => ?_) (fun h => absurd h (by decide))
  refine zi_iinc (pc := 193) (lv' := [(0, .ref (G.2.2 0 0)), (1, .int 2)]) F dL_loops_193 1 rfl (by decide) (by decide) rfl ?_
  refine zi_goto (pc := 196) (tgt := 133) F dL_loops_196 (by decide) ?_
  refine zi_iload_n (pc := 133) F dL_loops_133 1 rfl ?_
  refine zi_bipush (pc := 134) (v := 8) F dL_loops_134 rfl ?_
  refine zi_icmp_ge (pc := 136) (tgt := 199) F dL_loops_136 (by decide) (fun h => absurd h (by decide)) (fun _ => ?_)
  refine zi_aload_n (pc := 139) F dL_loops_139 0 rfl ?_
  refine zi_aload_n (pc := 140) F dL_loops_140 0 rfl ?_
  refine zr_turn (pc := 141) hfl F hsx ev309_  (cwV 0 F.1.2.2.2.2 gL_loops_X4_turn rfl rfl rfl hd_X4_turn ⟨Nat.le_of_ble_eq_true rfl, Nat.le_of_ble_eq_true rfl⟩) (Nat.le_of_ble_eq_true rfl) dL_loops_141 ⟨Nat.le_of_ble_eq_true rfl, Nat.le_of_ble_eq_true rfl⟩ ?_
  show zW p l e rmL_loops s m args below meth c 77 1299 Q G.1 A 2 (zWL G (zd dL88_) (zd dT25_) (zd dE66_) (zd dV27_) (zd dM44_) (zd dK27_)) [(0, .ref (G.2.2 0 0)), (1, .int 2)] 144 [.int 1, .ref (G.2.2 0 0)]
  refine zr_coins (pc := 144) hfl F hsx ev310_  (cwV 1 F.1.2.2.2.2 gL_loops_X4_coins rfl rfl rfl hd_X4_coins ⟨Nat.le_of_ble_eq_true rfl, Nat.le_of_ble_eq_true rfl⟩) (Nat.le_of_ble_eq_true rfl) dL_loops_144 ⟨Nat.le_of_ble_eq_true rfl, Nat.le_of_ble_eq_true rfl⟩ ?_
  show zW p l e rmL_loops s m args below meth c 78 1305 Q G.1 A 2 (zWL G (zd dL88_) (zd dT25_) (zd dE66_) (zd dV27_) (zd dM44_) (zd dK27_)) [(0, .ref (G.2.2 0 0)), (1, .int 2)] 147 [.int 3]
  refine zi_iconst (pc := 147) (v := 2) F dL_loops_147 rfl ?_
  refine zi_icmp_ge (pc := 148) (tgt := 161) F dL_loops_148 (by decide) (fun _ => ?_) (fun h => absurd h (by decide))
  refine zi_aload_n (pc := 161) F dL_loops_161 0 rfl ?_
  refine zi_iconst (pc := 162) (v := 5) F dL_loops_162 rfl ?_
  refine zi_iconst (pc := 163) (v := 0) F dL_loops_163 rfl ?_
  refine zr_play (pc := 164) hfl F hsx ev311_ okdT25_ okdE66_ okdM44_ (cwV 2 F.1.2.2.2.2 gL_loops_X4_play rfl rfl rfl hd_X4_play ⟨Nat.le_of_ble_eq_true rfl, Nat.le_of_ble_eq_true rfl⟩) (Nat.le_of_ble_eq_true rfl) dL_loops_164 ⟨Nat.le_of_ble_eq_true rfl, Nat.le_of_ble_eq_true rfl⟩ ?_
  show zW p l e rmL_loops s m args below meth c 79 1311 Q G.1 A 2 (zWL G (zd dL89_) (zd dT25_) (zd dE67_) (zd dV27_) (zd dM45_) (zd dK27_)) [(0, .ref (G.2.2 0 0)), (1, .int 2)] 167 [.int 1]
  refine zi_iconst (pc := 167) (v := 1) F dL_loops_167 rfl ?_
  refine zi_icmp_ne (pc := 168) (tgt := 191) F dL_loops_168 (by decide) (fun h => absurd h (by decide)) (fun _ => ?_)
  refine zi_aload_n (pc := 171) F dL_loops_171 0 rfl ?_
  refine zi_bipush (pc := 172) (v := 9) F dL_loops_172 rfl ?_
  refine zr_settle (pc := 174) hfl F hsx ev312_ okdT25_ okdE67_ okdM45_ (cwV 1 F.1.2.2.2.2 gL_loops_X4_settle rfl rfl rfl hd_X4_settle ⟨Nat.le_of_ble_eq_true rfl, Nat.le_of_ble_eq_true rfl⟩) (Nat.le_of_ble_eq_true rfl) dL_loops_174 ⟨Nat.le_of_ble_eq_true rfl, Nat.le_of_ble_eq_true rfl⟩ ?_
  show zW p l e rmL_loops s m args below meth c 80 1317 Q G.1 A 2 (zWL G (zd dL90_) (zd dT26_) (zd dE68_) (zd dV28_) (zd dM46_) (zd dK28_)) [(0, .ref (G.2.2 0 0)), (1, .int 2)] 177 [.int 2]
  refine zi_iconst (pc := 177) (v := 2) F dL_loops_177 rfl ?_
  refine zi_icmp_ne (pc := 178) (tgt := 191) F dL_loops_178 (by decide) (fun h => absurd h (by decide)) (fun _ => ?_)
  refine zi_aload_n (pc := 181) F dL_loops_181 0 rfl ?_
  refine zr_things (pc := 182) hfl F hsx ev313_  (cwV 0 F.1.2.2.2.2 gL_loops_X4_things rfl rfl rfl hd_X4_things ⟨Nat.le_of_ble_eq_true rfl, Nat.le_of_ble_eq_true rfl⟩) (Nat.le_of_ble_eq_true rfl) dL_loops_182 ⟨Nat.le_of_ble_eq_true rfl, Nat.le_of_ble_eq_true rfl⟩ ?_
  show zW p l e rmL_loops s m args below meth c 80 1317 Q G.1 A 2 (zWL G (zd dL90_) (zd dT26_) (zd dE68_) (zd dV28_) (zd dM46_) (zd dK28_)) [(0, .ref (G.2.2 0 0)), (1, .int 2)] 185 [.int 5]
  refine zi_iconst (pc := 185) (v := 3) F dL_loops_185 rfl ?_
  refine zi_iload_n (pc := 186) F dL_loops_186 1 rfl ?_
  refine zi_iadd (pc := 187) F dL_loops_187 ?_
  refine zi_toplit (y := 5) (by decide) ?_
  refine zi_icmp_eq (pc := 188) (tgt := 193) F dL_loops_188 (by decide) (fun _ => ?_) (fun h => absurd h (by decide))
  refine zi_iinc (pc := 193) (lv' := [(0, .ref (G.2.2 0 0)), (1, .int 3)]) F dL_loops_193 1 rfl (by decide) (by decide) rfl ?_
  refine zi_goto (pc := 196) (tgt := 133) F dL_loops_196 (by decide) ?_
  refine zi_iload_n (pc := 133) F dL_loops_133 1 rfl ?_
  refine zi_bipush (pc := 134) (v := 8) F dL_loops_134 rfl ?_
  refine zi_icmp_ge (pc := 136) (tgt := 199) F dL_loops_136 (by decide) (fun h => absurd h (by decide)) (fun _ => ?_)
  refine zi_aload_n (pc := 139) F dL_loops_139 0 rfl ?_
  refine zi_aload_n (pc := 140) F dL_loops_140 0 rfl ?_
  refine zr_turn (pc := 141) hfl F hsx ev314_  (cwV 0 F.1.2.2.2.2 gL_loops_X4_turn rfl rfl rfl hd_X4_turn ⟨Nat.le_of_ble_eq_true rfl, Nat.le_of_ble_eq_true rfl⟩) (Nat.le_of_ble_eq_true rfl) dL_loops_141 ⟨Nat.le_of_ble_eq_true rfl, Nat.le_of_ble_eq_true rfl⟩ ?_
  show zW p l e rmL_loops s m args below meth c 80 1317 Q G.1 A 2 (zWL G (zd dL90_) (zd dT26_) (zd dE68_) (zd dV28_) (zd dM46_) (zd dK28_)) [(0, .ref (G.2.2 0 0)), (1, .int 3)] 144 [.int 1, .ref (G.2.2 0 0)]
  refine zr_coins (pc := 144) hfl F hsx ev315_  (cwV 1 F.1.2.2.2.2 gL_loops_X4_coins rfl rfl rfl hd_X4_coins ⟨Nat.le_of_ble_eq_true rfl, Nat.le_of_ble_eq_true rfl⟩) (Nat.le_of_ble_eq_true rfl) dL_loops_144 ⟨Nat.le_of_ble_eq_true rfl, Nat.le_of_ble_eq_true rfl⟩ ?_
  show zW p l e rmL_loops s m args below meth c 81 1323 Q G.1 A 2 (zWL G (zd dL90_) (zd dT26_) (zd dE68_) (zd dV28_) (zd dM46_) (zd dK28_)) [(0, .ref (G.2.2 0 0)), (1, .int 3)] 147 [.int 1]
  refine zi_iconst (pc := 147) (v := 2) F dL_loops_147 rfl ?_
  refine zi_icmp_ge (pc := 148) (tgt := 161) F dL_loops_148 (by decide) (fun h => absurd h (by decide)) (fun _ => ?_)
  exact kk
set_option maxHeartbeats 4000000 in
set_option maxRecDepth 100000 in
theorem sg_loops_3 {p : Program} {l : Launch} {e : Env} {s : State} {m : MethodId} {args : Array Value} {below : List Frame} {meth : Method} {c : Code} {Q : State → Prop} {A : Nat → Prop} {G : zG_t} (hfl : l.stackTraces = false) (F : zF p m c cL_loops 2 s args wsL_loops RL G.1 (zty G) A) (hsx : zSx s) (hao : zAOA s) (kk : zW p l e rmL_loops s m args below meth c 87 1359 Q G.1 A 2 (zWL G (zd dL97_) (zd dT28_) (zd dE72_) (zd dV30_) (zd dM50_) (zd dK30_)) [(0, .ref (G.2.2 0 0)), (1, .int 4)] 181 []) : zW p l e rmL_loops s m args below meth c 81 1323 Q G.1 A 2 (zWL G (zd dL90_) (zd dT26_) (zd dE68_) (zd dV28_) (zd dM46_) (zd dK28_)) [(0, .ref (G.2.2 0 0)), (1, .int 3)] 151 [] := by
  refine zi_aload_n (pc := 151) F dL_loops_151 0 rfl ?_
  refine zi_callQI (pc := 152) (rest := []) (ws' := zWL G (zd dL93_) (zd dT26_) (zd dE68_) (zd dV28_) (zd dM47_) (zd dK28_)) F hsx hao (c_L_round l hfl G ev316_ ev317_ ev318_ okdT26_ okdE68_ okdM46_ okdT26_ okdE68_ okdM46_ okdT26_ okdE68_ okdM46_) (va_cwS 1 F.1.2.2.2.2 gL_loops_L_round rfl rfl rfl hd_L_round ⟨Nat.le_of_ble_eq_true rfl, Nat.le_of_ble_eq_true rfl⟩) [] [] (zw_nil _) (zw_nil _).symm rfl rfl (Nat.le_of_ble_eq_true rfl) dL_loops_152 ⟨Nat.le_of_ble_eq_true rfl, Nat.le_of_ble_eq_true rfl⟩ ?_
  show zW p l e rmL_loops s m args below meth c 81 1323 Q G.1 A 2 (zWL G (zd dL93_) (zd dT26_) (zd dE68_) (zd dV28_) (zd dM47_) (zd dK28_)) [(0, .ref (G.2.2 0 0)), (1, .int 3)] 155 [.int 2]
  refine zi_iconst (pc := 155) (v := 2) F dL_loops_155 rfl ?_
  refine zi_icmp_eq (pc := 156) (tgt := 139) F dL_loops_156 (by decide) (fun _ => ?_) (fun h => absurd h (by decide))
  refine zi_aload_n (pc := 139) F dL_loops_139 0 rfl ?_
  refine zi_aload_n (pc := 140) F dL_loops_140 0 rfl ?_
  refine zr_turn (pc := 141) hfl F hsx ev319_  (cwV 0 F.1.2.2.2.2 gL_loops_X4_turn rfl rfl rfl hd_X4_turn ⟨Nat.le_of_ble_eq_true rfl, Nat.le_of_ble_eq_true rfl⟩) (Nat.le_of_ble_eq_true rfl) dL_loops_141 ⟨Nat.le_of_ble_eq_true rfl, Nat.le_of_ble_eq_true rfl⟩ ?_
  show zW p l e rmL_loops s m args below meth c 81 1323 Q G.1 A 2 (zWL G (zd dL93_) (zd dT26_) (zd dE68_) (zd dV28_) (zd dM47_) (zd dK28_)) [(0, .ref (G.2.2 0 0)), (1, .int 3)] 144 [.int 2, .ref (G.2.2 0 0)]
  refine zr_coins (pc := 144) hfl F hsx ev320_  (cwV 1 F.1.2.2.2.2 gL_loops_X4_coins rfl rfl rfl hd_X4_coins ⟨Nat.le_of_ble_eq_true rfl, Nat.le_of_ble_eq_true rfl⟩) (Nat.le_of_ble_eq_true rfl) dL_loops_144 ⟨Nat.le_of_ble_eq_true rfl, Nat.le_of_ble_eq_true rfl⟩ ?_
  show zW p l e rmL_loops s m args below meth c 82 1329 Q G.1 A 2 (zWL G (zd dL93_) (zd dT26_) (zd dE68_) (zd dV28_) (zd dM47_) (zd dK28_)) [(0, .ref (G.2.2 0 0)), (1, .int 3)] 147 [.int 9]
  refine zi_iconst (pc := 147) (v := 2) F dL_loops_147 rfl ?_
  refine zi_icmp_ge (pc := 148) (tgt := 161) F dL_loops_148 (by decide) (fun _ => ?_) (fun h => absurd h (by decide))
  refine zi_aload_n (pc := 161) F dL_loops_161 0 rfl ?_
  refine zi_iconst (pc := 162) (v := 5) F dL_loops_162 rfl ?_
  refine zi_iconst (pc := 163) (v := 0) F dL_loops_163 rfl ?_
  refine zr_play (pc := 164) hfl F hsx ev321_ okdT26_ okdE68_ okdM47_ (cwV 2 F.1.2.2.2.2 gL_loops_X4_play rfl rfl rfl hd_X4_play ⟨Nat.le_of_ble_eq_true rfl, Nat.le_of_ble_eq_true rfl⟩) (Nat.le_of_ble_eq_true rfl) dL_loops_164 ⟨Nat.le_of_ble_eq_true rfl, Nat.le_of_ble_eq_true rfl⟩ ?_
  show zW p l e rmL_loops s m args below meth c 83 1335 Q G.1 A 2 (zWL G (zd dL94_) (zd dT26_) (zd dE69_) (zd dV28_) (zd dM47_) (zd dK28_)) [(0, .ref (G.2.2 0 0)), (1, .int 3)] 167 [.int 1]
  refine zi_iconst (pc := 167) (v := 1) F dL_loops_167 rfl ?_
  refine zi_icmp_ne (pc := 168) (tgt := 191) F dL_loops_168 (by decide) (fun h => absurd h (by decide)) (fun _ => ?_)
  refine zi_aload_n (pc := 171) F dL_loops_171 0 rfl ?_
  refine zi_bipush (pc := 172) (v := 9) F dL_loops_172 rfl ?_
  refine zr_settle (pc := 174) hfl F hsx ev322_ okdT26_ okdE69_ okdM47_ (cwV 1 F.1.2.2.2.2 gL_loops_X4_settle rfl rfl rfl hd_X4_settle ⟨Nat.le_of_ble_eq_true rfl, Nat.le_of_ble_eq_true rfl⟩) (Nat.le_of_ble_eq_true rfl) dL_loops_174 ⟨Nat.le_of_ble_eq_true rfl, Nat.le_of_ble_eq_true rfl⟩ ?_
  show zW p l e rmL_loops s m args below meth c 84 1341 Q G.1 A 2 (zWL G (zd dL95_) (zd dT27_) (zd dE70_) (zd dV29_) (zd dM48_) (zd dK29_)) [(0, .ref (G.2.2 0 0)), (1, .int 3)] 177 [.int 2]
  refine zi_iconst (pc := 177) (v := 2) F dL_loops_177 rfl ?_
  refine zi_icmp_ne (pc := 178) (tgt := 191) F dL_loops_178 (by decide) (fun h => absurd h (by decide)) (fun _ => ?_)
  refine zi_aload_n (pc := 181) F dL_loops_181 0 rfl ?_
  refine zr_things (pc := 182) hfl F hsx ev323_  (cwV 0 F.1.2.2.2.2 gL_loops_X4_things rfl rfl rfl hd_X4_things ⟨Nat.le_of_ble_eq_true rfl, Nat.le_of_ble_eq_true rfl⟩) (Nat.le_of_ble_eq_true rfl) dL_loops_182 ⟨Nat.le_of_ble_eq_true rfl, Nat.le_of_ble_eq_true rfl⟩ ?_
  show zW p l e rmL_loops s m args below meth c 84 1341 Q G.1 A 2 (zWL G (zd dL95_) (zd dT27_) (zd dE70_) (zd dV29_) (zd dM48_) (zd dK29_)) [(0, .ref (G.2.2 0 0)), (1, .int 3)] 185 [.int 6]
  refine zi_iconst (pc := 185) (v := 3) F dL_loops_185 rfl ?_
  refine zi_iload_n (pc := 186) F dL_loops_186 1 rfl ?_
  refine zi_iadd (pc := 187) F dL_loops_187 ?_
  refine zi_toplit (y := 6) (by decide) ?_
  refine zi_icmp_eq (pc := 188) (tgt := 193) F dL_loops_188 (by decide) (fun _ => ?_) (fun h => absurd h (by decide))
  refine zi_iinc (pc := 193) (lv' := [(0, .ref (G.2.2 0 0)), (1, .int 4)]) F dL_loops_193 1 rfl (by decide) (by decide) rfl ?_
  refine zi_goto (pc := 196) (tgt := 133) F dL_loops_196 (by decide) ?_
  refine zi_iload_n (pc := 133) F dL_loops_133 1 rfl ?_
  refine zi_bipush (pc := 134) (v := 8) F dL_loops_134 rfl ?_
  refine zi_icmp_ge (pc := 136) (tgt := 199) F dL_loops_136 (by decide) (fun h => absurd h (by decide)) (fun _ => ?_)
  refine zi_aload_n (pc := 139) F dL_loops_139 0 rfl ?_
  refine zi_aload_n (pc := 140) F dL_loops_140 0 rfl ?_
  refine zr_turn (pc := 141) hfl F hsx ev324_  (cwV 0 F.1.2.2.2.2 gL_loops_X4_turn rfl rfl rfl hd_X4_turn ⟨Nat.le_of_ble_eq_true rfl, Nat.le_of_ble_eq_true rfl⟩) (Nat.le_of_ble_eq_true rfl) dL_loops_141 ⟨Nat.le_of_ble_eq_true rfl, Nat.le_of_ble_eq_true rfl⟩ ?_
  show zW p l e rmL_loops s m args below meth c 84 1341 Q G.1 A 2 (zWL G (zd dL95_) (zd dT27_) (zd dE70_) (zd dV29_) (zd dM48_) (zd dK29_)) [(0, .ref (G.2.2 0 0)), (1, .int 4)] 144 [.int 2, .ref (G.2.2 0 0)]
  refine zr_coins (pc := 144) hfl F hsx ev325_  (cwV 1 F.1.2.2.2.2 gL_loops_X4_coins rfl rfl rfl hd_X4_coins ⟨Nat.le_of_ble_eq_true rfl, Nat.le_of_ble_eq_true rfl⟩) (Nat.le_of_ble_eq_true rfl) dL_loops_144 ⟨Nat.le_of_ble_eq_true rfl, Nat.le_of_ble_eq_true rfl⟩ ?_
  show zW p l e rmL_loops s m args below meth c 85 1347 Q G.1 A 2 (zWL G (zd dL95_) (zd dT27_) (zd dE70_) (zd dV29_) (zd dM48_) (zd dK29_)) [(0, .ref (G.2.2 0 0)), (1, .int 4)] 147 [.int 7]
  refine zi_iconst (pc := 147) (v := 2) F dL_loops_147 rfl ?_
  refine zi_icmp_ge (pc := 148) (tgt := 161) F dL_loops_148 (by decide) (fun _ => ?_) (fun h => absurd h (by decide))
  refine zi_aload_n (pc := 161) F dL_loops_161 0 rfl ?_
  refine zi_iconst (pc := 162) (v := 5) F dL_loops_162 rfl ?_
  refine zi_iconst (pc := 163) (v := 0) F dL_loops_163 rfl ?_
  refine zr_play (pc := 164) hfl F hsx ev326_ okdT27_ okdE70_ okdM48_ (cwV 2 F.1.2.2.2.2 gL_loops_X4_play rfl rfl rfl hd_X4_play ⟨Nat.le_of_ble_eq_true rfl, Nat.le_of_ble_eq_true rfl⟩) (Nat.le_of_ble_eq_true rfl) dL_loops_164 ⟨Nat.le_of_ble_eq_true rfl, Nat.le_of_ble_eq_true rfl⟩ ?_
  show zW p l e rmL_loops s m args below meth c 86 1353 Q G.1 A 2 (zWL G (zd dL96_) (zd dT27_) (zd dE71_) (zd dV29_) (zd dM49_) (zd dK29_)) [(0, .ref (G.2.2 0 0)), (1, .int 4)] 167 [.int 1]
  refine zi_iconst (pc := 167) (v := 1) F dL_loops_167 rfl ?_
  refine zi_icmp_ne (pc := 168) (tgt := 191) F dL_loops_168 (by decide) (fun h => absurd h (by decide)) (fun _ => ?_)
  refine zi_aload_n (pc := 171) F dL_loops_171 0 rfl ?_
  refine zi_bipush (pc := 172) (v := 9) F dL_loops_172 rfl ?_
  refine zr_settle (pc := 174) hfl F hsx ev327_ okdT27_ okdE71_ okdM49_ (cwV 1 F.1.2.2.2.2 gL_loops_X4_settle rfl rfl rfl hd_X4_settle ⟨Nat.le_of_ble_eq_true rfl, Nat.le_of_ble_eq_true rfl⟩) (Nat.le_of_ble_eq_true rfl) dL_loops_174 ⟨Nat.le_of_ble_eq_true rfl, Nat.le_of_ble_eq_true rfl⟩ ?_
  show zW p l e rmL_loops s m args below meth c 87 1359 Q G.1 A 2 (zWL G (zd dL97_) (zd dT28_) (zd dE72_) (zd dV30_) (zd dM50_) (zd dK30_)) [(0, .ref (G.2.2 0 0)), (1, .int 4)] 177 [.int 2]
  refine zi_iconst (pc := 177) (v := 2) F dL_loops_177 rfl ?_
  refine zi_icmp_ne (pc := 178) (tgt := 191) F dL_loops_178 (by decide) (fun h => absurd h (by decide)) (fun _ => ?_)
  exact kk
set_option maxHeartbeats 4000000 in
set_option maxRecDepth 100000 in
theorem sg_loops_4 {p : Program} {l : Launch} {e : Env} {s : State} {m : MethodId} {args : Array Value} {below : List Frame} {meth : Method} {c : Code} {Q : State → Prop} {A : Nat → Prop} {G : zG_t} (hfl : l.stackTraces = false) (F : zF p m c cL_loops 2 s args wsL_loops RL G.1 (zty G) A) (hsx : zSx s) (hao : zAOA s) (kk : zW p l e rmL_loops s m args below meth c 93 1395 Q G.1 A 2 (zWL G (zd dL101_) (zd dT30_) (zd dE76_) (zd dV32_) (zd dM54_) (zd dK32_)) [(0, .ref (G.2.2 0 0)), (1, .int 6)] 181 []) : zW p l e rmL_loops s m args below meth c 87 1359 Q G.1 A 2 (zWL G (zd dL97_) (zd dT28_) (zd dE72_) (zd dV30_) (zd dM50_) (zd dK30_)) [(0, .ref (G.2.2 0 0)), (1, .int 4)] 181 [] := by
  refine zi_aload_n (pc := 181) F dL_loops_181 0 rfl ?_
  refine zr_things (pc := 182) hfl F hsx ev328_  (cwV 0 F.1.2.2.2.2 gL_loops_X4_things rfl rfl rfl hd_X4_things ⟨Nat.le_of_ble_eq_true rfl, Nat.le_of_ble_eq_true rfl⟩) (Nat.le_of_ble_eq_true rfl) dL_loops_182 ⟨Nat.le_of_ble_eq_true rfl, Nat.le_of_ble_eq_true rfl⟩ ?_
  show zW p l e rmL_loops s m args below meth c 87 1359 Q G.1 A 2 (zWL G (zd dL97_) (zd dT28_) (zd dE72_) (zd dV30_) (zd dM50_) (zd dK30_)) [(0, .ref (G.2.2 0 0)), (1, .int 4)] 185 [.int 7]
  refine zi_iconst (pc := 185) (v := 3) F dL_loops_185 rfl ?_
  refine zi_iload_n (pc := 186) F dL_loops_186 1 rfl ?_
  refine zi_iadd (pc := 187) F dL_loops_187 ?_
  refine zi_toplit (y := 7) (by decide) ?_
  refine zi_icmp_eq (pc := 188) (tgt := 193) F dL_loops_188 (by decide) (fun _ => ?_) (fun h => absurd h (by decide))
  refine zi_iinc (pc := 193) (lv' := [(0, .ref (G.2.2 0 0)), (1, .int 5)]) F dL_loops_193 1 rfl (by decide) (by decide) rfl ?_
  refine zi_goto (pc := 196) (tgt := 133) F dL_loops_196 (by decide) ?_
  refine zi_iload_n (pc := 133) F dL_loops_133 1 rfl ?_
  refine zi_bipush (pc := 134) (v := 8) F dL_loops_134 rfl ?_
  refine zi_icmp_ge (pc := 136) (tgt := 199) F dL_loops_136 (by decide) (fun h => absurd h (by decide)) (fun _ => ?_)
  refine zi_aload_n (pc := 139) F dL_loops_139 0 rfl ?_
  refine zi_aload_n (pc := 140) F dL_loops_140 0 rfl ?_
  refine zr_turn (pc := 141) hfl F hsx ev329_  (cwV 0 F.1.2.2.2.2 gL_loops_X4_turn rfl rfl rfl hd_X4_turn ⟨Nat.le_of_ble_eq_true rfl, Nat.le_of_ble_eq_true rfl⟩) (Nat.le_of_ble_eq_true rfl) dL_loops_141 ⟨Nat.le_of_ble_eq_true rfl, Nat.le_of_ble_eq_true rfl⟩ ?_
  show zW p l e rmL_loops s m args below meth c 87 1359 Q G.1 A 2 (zWL G (zd dL97_) (zd dT28_) (zd dE72_) (zd dV30_) (zd dM50_) (zd dK30_)) [(0, .ref (G.2.2 0 0)), (1, .int 5)] 144 [.int 2, .ref (G.2.2 0 0)]
  refine zr_coins (pc := 144) hfl F hsx ev330_  (cwV 1 F.1.2.2.2.2 gL_loops_X4_coins rfl rfl rfl hd_X4_coins ⟨Nat.le_of_ble_eq_true rfl, Nat.le_of_ble_eq_true rfl⟩) (Nat.le_of_ble_eq_true rfl) dL_loops_144 ⟨Nat.le_of_ble_eq_true rfl, Nat.le_of_ble_eq_true rfl⟩ ?_
  show zW p l e rmL_loops s m args below meth c 88 1365 Q G.1 A 2 (zWL G (zd dL97_) (zd dT28_) (zd dE72_) (zd dV30_) (zd dM50_) (zd dK30_)) [(0, .ref (G.2.2 0 0)), (1, .int 5)] 147 [.int 5]
  refine zi_iconst (pc := 147) (v := 2) F dL_loops_147 rfl ?_
  refine zi_icmp_ge (pc := 148) (tgt := 161) F dL_loops_148 (by decide) (fun _ => ?_) (fun h => absurd h (by decide))
  refine zi_aload_n (pc := 161) F dL_loops_161 0 rfl ?_
  refine zi_iconst (pc := 162) (v := 5) F dL_loops_162 rfl ?_
  refine zi_iconst (pc := 163) (v := 0) F dL_loops_163 rfl ?_
  refine zr_play (pc := 164) hfl F hsx ev331_ okdT28_ okdE72_ okdM50_ (cwV 2 F.1.2.2.2.2 gL_loops_X4_play rfl rfl rfl hd_X4_play ⟨Nat.le_of_ble_eq_true rfl, Nat.le_of_ble_eq_true rfl⟩) (Nat.le_of_ble_eq_true rfl) dL_loops_164 ⟨Nat.le_of_ble_eq_true rfl, Nat.le_of_ble_eq_true rfl⟩ ?_
  show zW p l e rmL_loops s m args below meth c 89 1371 Q G.1 A 2 (zWL G (zd dL98_) (zd dT28_) (zd dE73_) (zd dV30_) (zd dM51_) (zd dK30_)) [(0, .ref (G.2.2 0 0)), (1, .int 5)] 167 [.int 1]
  refine zi_iconst (pc := 167) (v := 1) F dL_loops_167 rfl ?_
  refine zi_icmp_ne (pc := 168) (tgt := 191) F dL_loops_168 (by decide) (fun h => absurd h (by decide)) (fun _ => ?_)
  refine zi_aload_n (pc := 171) F dL_loops_171 0 rfl ?_
  refine zi_bipush (pc := 172) (v := 9) F dL_loops_172 rfl ?_
  refine zr_settle (pc := 174) hfl F hsx ev332_ okdT28_ okdE73_ okdM51_ (cwV 1 F.1.2.2.2.2 gL_loops_X4_settle rfl rfl rfl hd_X4_settle ⟨Nat.le_of_ble_eq_true rfl, Nat.le_of_ble_eq_true rfl⟩) (Nat.le_of_ble_eq_true rfl) dL_loops_174 ⟨Nat.le_of_ble_eq_true rfl, Nat.le_of_ble_eq_true rfl⟩ ?_
  show zW p l e rmL_loops s m args below meth c 90 1377 Q G.1 A 2 (zWL G (zd dL99_) (zd dT29_) (zd dE74_) (zd dV31_) (zd dM52_) (zd dK31_)) [(0, .ref (G.2.2 0 0)), (1, .int 5)] 177 [.int 2]
  refine zi_iconst (pc := 177) (v := 2) F dL_loops_177 rfl ?_
  refine zi_icmp_ne (pc := 178) (tgt := 191) F dL_loops_178 (by decide) (fun h => absurd h (by decide)) (fun _ => ?_)
  refine zi_aload_n (pc := 181) F dL_loops_181 0 rfl ?_
  refine zr_things (pc := 182) hfl F hsx ev333_  (cwV 0 F.1.2.2.2.2 gL_loops_X4_things rfl rfl rfl hd_X4_things ⟨Nat.le_of_ble_eq_true rfl, Nat.le_of_ble_eq_true rfl⟩) (Nat.le_of_ble_eq_true rfl) dL_loops_182 ⟨Nat.le_of_ble_eq_true rfl, Nat.le_of_ble_eq_true rfl⟩ ?_
  show zW p l e rmL_loops s m args below meth c 90 1377 Q G.1 A 2 (zWL G (zd dL99_) (zd dT29_) (zd dE74_) (zd dV31_) (zd dM52_) (zd dK31_)) [(0, .ref (G.2.2 0 0)), (1, .int 5)] 185 [.int 8]
  refine zi_iconst (pc := 185) (v := 3) F dL_loops_185 rfl ?_
  refine zi_iload_n (pc := 186) F dL_loops_186 1 rfl ?_
  refine zi_iadd (pc := 187) F dL_loops_187 ?_
  refine zi_toplit (y := 8) (by decide) ?_
  refine zi_icmp_eq (pc := 188) (tgt := 193) F dL_loops_188 (by decide) (fun _ => ?_) (fun h => absurd h (by decide))
  refine zi_iinc (pc := 193) (lv' := [(0, .ref (G.2.2 0 0)), (1, .int 6)]) F dL_loops_193 1 rfl (by decide) (by decide) rfl ?_
  refine zi_goto (pc := 196) (tgt := 133) F dL_loops_196 (by decide) ?_
  refine zi_iload_n (pc := 133) F dL_loops_133 1 rfl ?_
  refine zi_bipush (pc := 134) (v := 8) F dL_loops_134 rfl ?_
  refine zi_icmp_ge (pc := 136) (tgt := 199) F dL_loops_136 (by decide) (fun h => absurd h (by decide)) (fun _ => ?_)
  refine zi_aload_n (pc := 139) F dL_loops_139 0 rfl ?_
  refine zi_aload_n (pc := 140) F dL_loops_140 0 rfl ?_
  refine zr_turn (pc := 141) hfl F hsx ev334_  (cwV 0 F.1.2.2.2.2 gL_loops_X4_turn rfl rfl rfl hd_X4_turn ⟨Nat.le_of_ble_eq_true rfl, Nat.le_of_ble_eq_true rfl⟩) (Nat.le_of_ble_eq_true rfl) dL_loops_141 ⟨Nat.le_of_ble_eq_true rfl, Nat.le_of_ble_eq_true rfl⟩ ?_
  show zW p l e rmL_loops s m args below meth c 90 1377 Q G.1 A 2 (zWL G (zd dL99_) (zd dT29_) (zd dE74_) (zd dV31_) (zd dM52_) (zd dK31_)) [(0, .ref (G.2.2 0 0)), (1, .int 6)] 144 [.int 2, .ref (G.2.2 0 0)]
  refine zr_coins (pc := 144) hfl F hsx ev335_  (cwV 1 F.1.2.2.2.2 gL_loops_X4_coins rfl rfl rfl hd_X4_coins ⟨Nat.le_of_ble_eq_true rfl, Nat.le_of_ble_eq_true rfl⟩) (Nat.le_of_ble_eq_true rfl) dL_loops_144 ⟨Nat.le_of_ble_eq_true rfl, Nat.le_of_ble_eq_true rfl⟩ ?_
  show zW p l e rmL_loops s m args below meth c 91 1383 Q G.1 A 2 (zWL G (zd dL99_) (zd dT29_) (zd dE74_) (zd dV31_) (zd dM52_) (zd dK31_)) [(0, .ref (G.2.2 0 0)), (1, .int 6)] 147 [.int 3]
  refine zi_iconst (pc := 147) (v := 2) F dL_loops_147 rfl ?_
  refine zi_icmp_ge (pc := 148) (tgt := 161) F dL_loops_148 (by decide) (fun _ => ?_) (fun h => absurd h (by decide))
  refine zi_aload_n (pc := 161) F dL_loops_161 0 rfl ?_
  refine zi_iconst (pc := 162) (v := 5) F dL_loops_162 rfl ?_
  refine zi_iconst (pc := 163) (v := 0) F dL_loops_163 rfl ?_
  refine zr_play (pc := 164) hfl F hsx ev336_ okdT29_ okdE74_ okdM52_ (cwV 2 F.1.2.2.2.2 gL_loops_X4_play rfl rfl rfl hd_X4_play ⟨Nat.le_of_ble_eq_true rfl, Nat.le_of_ble_eq_true rfl⟩) (Nat.le_of_ble_eq_true rfl) dL_loops_164 ⟨Nat.le_of_ble_eq_true rfl, Nat.le_of_ble_eq_true rfl⟩ ?_
  show zW p l e rmL_loops s m args below meth c 92 1389 Q G.1 A 2 (zWL G (zd dL100_) (zd dT29_) (zd dE75_) (zd dV31_) (zd dM53_) (zd dK31_)) [(0, .ref (G.2.2 0 0)), (1, .int 6)] 167 [.int 1]
  refine zi_iconst (pc := 167) (v := 1) F dL_loops_167 rfl ?_
  refine zi_icmp_ne (pc := 168) (tgt := 191) F dL_loops_168 (by decide) (fun h => absurd h (by decide)) (fun _ => ?_)
  refine zi_aload_n (pc := 171) F dL_loops_171 0 rfl ?_
  refine zi_bipush (pc := 172) (v := 9) F dL_loops_172 rfl ?_
  refine zr_settle (pc := 174) hfl F hsx ev337_ okdT29_ okdE75_ okdM53_ (cwV 1 F.1.2.2.2.2 gL_loops_X4_settle rfl rfl rfl hd_X4_settle ⟨Nat.le_of_ble_eq_true rfl, Nat.le_of_ble_eq_true rfl⟩) (Nat.le_of_ble_eq_true rfl) dL_loops_174 ⟨Nat.le_of_ble_eq_true rfl, Nat.le_of_ble_eq_true rfl⟩ ?_
  show zW p l e rmL_loops s m args below meth c 93 1395 Q G.1 A 2 (zWL G (zd dL101_) (zd dT30_) (zd dE76_) (zd dV32_) (zd dM54_) (zd dK32_)) [(0, .ref (G.2.2 0 0)), (1, .int 6)] 177 [.int 2]
  refine zi_iconst (pc := 177) (v := 2) F dL_loops_177 rfl ?_
  refine zi_icmp_ne (pc := 178) (tgt := 191) F dL_loops_178 (by decide) (fun h => absurd h (by decide)) (fun _ => ?_)
  exact kk
set_option maxHeartbeats 4000000 in
set_option maxRecDepth 100000 in
theorem sg_loops_5 {p : Program} {l : Launch} {e : Env} {s : State} {m : MethodId} {args : Array Value} {below : List Frame} {meth : Method} {c : Code} {Q : State → Prop} {A : Nat → Prop} {G : zG_t} (hfl : l.stackTraces = false) (F : zF p m c cL_loops 2 s args wsL_loops RL G.1 (zty G) A) (hsx : zSx s) (hao : zAOA s) (kk : zW p l e rmL_loops s m args below meth c 98 1425 Q G.1 A 2 (zWL G (zd dL106_) (zd dT31_) (zd dE78_) (zd dV33_) (zd dM56_) (zd dK33_)) [(0, .ref (G.2.2 0 0)), (1, .int 8)] 211 []) : zW p l e rmL_loops s m args below meth c 93 1395 Q G.1 A 2 (zWL G (zd dL101_) (zd dT30_) (zd dE76_) (zd dV32_) (zd dM54_) (zd dK32_)) [(0, .ref (G.2.2 0 0)), (1, .int 6)] 181 [] := by
  refine zi_aload_n (pc := 181) F dL_loops_181 0 rfl ?_
  refine zr_things (pc := 182) hfl F hsx ev338_  (cwV 0 F.1.2.2.2.2 gL_loops_X4_things rfl rfl rfl hd_X4_things ⟨Nat.le_of_ble_eq_true rfl, Nat.le_of_ble_eq_true rfl⟩) (Nat.le_of_ble_eq_true rfl) dL_loops_182 ⟨Nat.le_of_ble_eq_true rfl, Nat.le_of_ble_eq_true rfl⟩ ?_
  show zW p l e rmL_loops s m args below meth c 93 1395 Q G.1 A 2 (zWL G (zd dL101_) (zd dT30_) (zd dE76_) (zd dV32_) (zd dM54_) (zd dK32_)) [(0, .ref (G.2.2 0 0)), (1, .int 6)] 185 [.int 9]
  refine zi_iconst (pc := 185) (v := 3) F dL_loops_185 rfl ?_
  refine zi_iload_n (pc := 186) F dL_loops_186 1 rfl ?_
  refine zi_iadd (pc := 187) F dL_loops_187 ?_
  refine zi_toplit (y := 9) (by decide) ?_
  refine zi_icmp_eq (pc := 188) (tgt := 193) F dL_loops_188 (by decide) (fun _ => ?_) (fun h => absurd h (by decide))
  refine zi_iinc (pc := 193) (lv' := [(0, .ref (G.2.2 0 0)), (1, .int 7)]) F dL_loops_193 1 rfl (by decide) (by decide) rfl ?_
  refine zi_goto (pc := 196) (tgt := 133) F dL_loops_196 (by decide) ?_
  refine zi_iload_n (pc := 133) F dL_loops_133 1 rfl ?_
  refine zi_bipush (pc := 134) (v := 8) F dL_loops_134 rfl ?_
  refine zi_icmp_ge (pc := 136) (tgt := 199) F dL_loops_136 (by decide) (fun h => absurd h (by decide)) (fun _ => ?_)
  refine zi_aload_n (pc := 139) F dL_loops_139 0 rfl ?_
  refine zi_aload_n (pc := 140) F dL_loops_140 0 rfl ?_
  refine zr_turn (pc := 141) hfl F hsx ev339_  (cwV 0 F.1.2.2.2.2 gL_loops_X4_turn rfl rfl rfl hd_X4_turn ⟨Nat.le_of_ble_eq_true rfl, Nat.le_of_ble_eq_true rfl⟩) (Nat.le_of_ble_eq_true rfl) dL_loops_141 ⟨Nat.le_of_ble_eq_true rfl, Nat.le_of_ble_eq_true rfl⟩ ?_
  show zW p l e rmL_loops s m args below meth c 93 1395 Q G.1 A 2 (zWL G (zd dL101_) (zd dT30_) (zd dE76_) (zd dV32_) (zd dM54_) (zd dK32_)) [(0, .ref (G.2.2 0 0)), (1, .int 7)] 144 [.int 2, .ref (G.2.2 0 0)]
  refine zr_coins (pc := 144) hfl F hsx ev340_  (cwV 1 F.1.2.2.2.2 gL_loops_X4_coins rfl rfl rfl hd_X4_coins ⟨Nat.le_of_ble_eq_true rfl, Nat.le_of_ble_eq_true rfl⟩) (Nat.le_of_ble_eq_true rfl) dL_loops_144 ⟨Nat.le_of_ble_eq_true rfl, Nat.le_of_ble_eq_true rfl⟩ ?_
  show zW p l e rmL_loops s m args below meth c 94 1401 Q G.1 A 2 (zWL G (zd dL101_) (zd dT30_) (zd dE76_) (zd dV32_) (zd dM54_) (zd dK32_)) [(0, .ref (G.2.2 0 0)), (1, .int 7)] 147 [.int 1]
  refine zi_iconst (pc := 147) (v := 2) F dL_loops_147 rfl ?_
  refine zi_icmp_ge (pc := 148) (tgt := 161) F dL_loops_148 (by decide) (fun h => absurd h (by decide)) (fun _ => ?_)
  refine zi_aload_n (pc := 151) F dL_loops_151 0 rfl ?_
  refine zi_callQI (pc := 152) (rest := []) (ws' := zWL G (zd dL104_) (zd dT30_) (zd dE76_) (zd dV32_) (zd dM55_) (zd dK32_)) F hsx hao (c_L_round l hfl G ev341_ ev342_ ev343_ okdT30_ okdE76_ okdM54_ okdT30_ okdE76_ okdM54_ okdT30_ okdE76_ okdM54_) (va_cwS 1 F.1.2.2.2.2 gL_loops_L_round rfl rfl rfl hd_L_round ⟨Nat.le_of_ble_eq_true rfl, Nat.le_of_ble_eq_true rfl⟩) [] [] (zw_nil _) (zw_nil _).symm rfl rfl (Nat.le_of_ble_eq_true rfl) dL_loops_152 ⟨Nat.le_of_ble_eq_true rfl, Nat.le_of_ble_eq_true rfl⟩ ?_
  show zW p l e rmL_loops s m args below meth c 94 1401 Q G.1 A 2 (zWL G (zd dL104_) (zd dT30_) (zd dE76_) (zd dV32_) (zd dM55_) (zd dK32_)) [(0, .ref (G.2.2 0 0)), (1, .int 7)] 155 [.int 2]
  refine zi_iconst (pc := 155) (v := 2) F dL_loops_155 rfl ?_
  refine zi_icmp_eq (pc := 156) (tgt := 139) F dL_loops_156 (by decide) (fun _ => ?_) (fun h => absurd h (by decide))
  refine zi_aload_n (pc := 139) F dL_loops_139 0 rfl ?_
  refine zi_aload_n (pc := 140) F dL_loops_140 0 rfl ?_
  refine zr_turn (pc := 141) hfl F hsx ev344_  (cwV 0 F.1.2.2.2.2 gL_loops_X4_turn rfl rfl rfl hd_X4_turn ⟨Nat.le_of_ble_eq_true rfl, Nat.le_of_ble_eq_true rfl⟩) (Nat.le_of_ble_eq_true rfl) dL_loops_141 ⟨Nat.le_of_ble_eq_true rfl, Nat.le_of_ble_eq_true rfl⟩ ?_
  show zW p l e rmL_loops s m args below meth c 94 1401 Q G.1 A 2 (zWL G (zd dL104_) (zd dT30_) (zd dE76_) (zd dV32_) (zd dM55_) (zd dK32_)) [(0, .ref (G.2.2 0 0)), (1, .int 7)] 144 [.int 0, .ref (G.2.2 0 0)]
  refine zr_coins (pc := 144) hfl F hsx ev345_  (cwV 1 F.1.2.2.2.2 gL_loops_X4_coins rfl rfl rfl hd_X4_coins ⟨Nat.le_of_ble_eq_true rfl, Nat.le_of_ble_eq_true rfl⟩) (Nat.le_of_ble_eq_true rfl) dL_loops_144 ⟨Nat.le_of_ble_eq_true rfl, Nat.le_of_ble_eq_true rfl⟩ ?_
  show zW p l e rmL_loops s m args below meth c 95 1407 Q G.1 A 2 (zWL G (zd dL104_) (zd dT30_) (zd dE76_) (zd dV32_) (zd dM55_) (zd dK32_)) [(0, .ref (G.2.2 0 0)), (1, .int 7)] 147 [.int 3]
  refine zi_iconst (pc := 147) (v := 2) F dL_loops_147 rfl ?_
  refine zi_icmp_ge (pc := 148) (tgt := 161) F dL_loops_148 (by decide) (fun _ => ?_) (fun h => absurd h (by decide))
  refine zi_aload_n (pc := 161) F dL_loops_161 0 rfl ?_
  refine zi_iconst (pc := 162) (v := 5) F dL_loops_162 rfl ?_
  refine zi_iconst (pc := 163) (v := 0) F dL_loops_163 rfl ?_
  refine zr_play (pc := 164) hfl F hsx ev346_ okdT30_ okdE76_ okdM55_ (cwV 2 F.1.2.2.2.2 gL_loops_X4_play rfl rfl rfl hd_X4_play ⟨Nat.le_of_ble_eq_true rfl, Nat.le_of_ble_eq_true rfl⟩) (Nat.le_of_ble_eq_true rfl) dL_loops_164 ⟨Nat.le_of_ble_eq_true rfl, Nat.le_of_ble_eq_true rfl⟩ ?_
  show zW p l e rmL_loops s m args below meth c 96 1413 Q G.1 A 2 (zWL G (zd dL105_) (zd dT30_) (zd dE77_) (zd dV32_) (zd dM55_) (zd dK32_)) [(0, .ref (G.2.2 0 0)), (1, .int 7)] 167 [.int 1]
  refine zi_iconst (pc := 167) (v := 1) F dL_loops_167 rfl ?_
  refine zi_icmp_ne (pc := 168) (tgt := 191) F dL_loops_168 (by decide) (fun h => absurd h (by decide)) (fun _ => ?_)
  refine zi_aload_n (pc := 171) F dL_loops_171 0 rfl ?_
  refine zi_bipush (pc := 172) (v := 9) F dL_loops_172 rfl ?_
  refine zr_settle (pc := 174) hfl F hsx ev347_ okdT30_ okdE77_ okdM55_ (cwV 1 F.1.2.2.2.2 gL_loops_X4_settle rfl rfl rfl hd_X4_settle ⟨Nat.le_of_ble_eq_true rfl, Nat.le_of_ble_eq_true rfl⟩) (Nat.le_of_ble_eq_true rfl) dL_loops_174 ⟨Nat.le_of_ble_eq_true rfl, Nat.le_of_ble_eq_true rfl⟩ ?_
  show zW p l e rmL_loops s m args below meth c 97 1419 Q G.1 A 2 (zWL G (zd dL106_) (zd dT31_) (zd dE78_) (zd dV33_) (zd dM56_) (zd dK33_)) [(0, .ref (G.2.2 0 0)), (1, .int 7)] 177 [.int 2]
  refine zi_iconst (pc := 177) (v := 2) F dL_loops_177 rfl ?_
  refine zi_icmp_ne (pc := 178) (tgt := 191) F dL_loops_178 (by decide) (fun h => absurd h (by decide)) (fun _ => ?_)
  refine zi_aload_n (pc := 181) F dL_loops_181 0 rfl ?_
  refine zr_things (pc := 182) hfl F hsx ev348_  (cwV 0 F.1.2.2.2.2 gL_loops_X4_things rfl rfl rfl hd_X4_things ⟨Nat.le_of_ble_eq_true rfl, Nat.le_of_ble_eq_true rfl⟩) (Nat.le_of_ble_eq_true rfl) dL_loops_182 ⟨Nat.le_of_ble_eq_true rfl, Nat.le_of_ble_eq_true rfl⟩ ?_
  show zW p l e rmL_loops s m args below meth c 97 1419 Q G.1 A 2 (zWL G (zd dL106_) (zd dT31_) (zd dE78_) (zd dV33_) (zd dM56_) (zd dK33_)) [(0, .ref (G.2.2 0 0)), (1, .int 7)] 185 [.int 10]
  refine zi_iconst (pc := 185) (v := 3) F dL_loops_185 rfl ?_
  refine zi_iload_n (pc := 186) F dL_loops_186 1 rfl ?_
  refine zi_iadd (pc := 187) F dL_loops_187 ?_
  refine zi_toplit (y := 10) (by decide) ?_
  refine zi_icmp_eq (pc := 188) (tgt := 193) F dL_loops_188 (by decide) (fun _ => ?_) (fun h => absurd h (by decide))
  refine zi_iinc (pc := 193) (lv' := [(0, .ref (G.2.2 0 0)), (1, .int 8)]) F dL_loops_193 1 rfl (by decide) (by decide) rfl ?_
  refine zi_goto (pc := 196) (tgt := 133) F dL_loops_196 (by decide) ?_
  refine zi_iload_n (pc := 133) F dL_loops_133 1 rfl ?_
  refine zi_bipush (pc := 134) (v := 8) F dL_loops_134 rfl ?_
  refine zi_icmp_ge (pc := 136) (tgt := 199) F dL_loops_136 (by decide) (fun _ => ?_) (fun h => absurd h (by decide))
  refine zi_aload_n (pc := 199) F dL_loops_199 0 rfl ?_
  refine zi_aload_n (pc := 200) F dL_loops_200 0 rfl ?_
  refine zr_turn (pc := 201) hfl F hsx ev349_  (cwV 0 F.1.2.2.2.2 gL_loops_X4_turn rfl rfl rfl hd_X4_turn ⟨Nat.le_of_ble_eq_true rfl, Nat.le_of_ble_eq_true rfl⟩) (Nat.le_of_ble_eq_true rfl) dL_loops_201 ⟨Nat.le_of_ble_eq_true rfl, Nat.le_of_ble_eq_true rfl⟩ ?_
  show zW p l e rmL_loops s m args below meth c 97 1419 Q G.1 A 2 (zWL G (zd dL106_) (zd dT31_) (zd dE78_) (zd dV33_) (zd dM56_) (zd dK33_)) [(0, .ref (G.2.2 0 0)), (1, .int 8)] 204 [.int 0, .ref (G.2.2 0 0)]
  refine zr_coins (pc := 204) hfl F hsx ev350_  (cwV 1 F.1.2.2.2.2 gL_loops_X4_coins rfl rfl rfl hd_X4_coins ⟨Nat.le_of_ble_eq_true rfl, Nat.le_of_ble_eq_true rfl⟩) (Nat.le_of_ble_eq_true rfl) dL_loops_204 ⟨Nat.le_of_ble_eq_true rfl, Nat.le_of_ble_eq_true rfl⟩ ?_
  show zW p l e rmL_loops s m args below meth c 98 1425 Q G.1 A 2 (zWL G (zd dL106_) (zd dT31_) (zd dE78_) (zd dV33_) (zd dM56_) (zd dK33_)) [(0, .ref (G.2.2 0 0)), (1, .int 8)] 207 [.int 1]
  refine zi_iconst (pc := 207) (v := 4) F dL_loops_207 rfl ?_
  refine zi_icmp_ge (pc := 208) (tgt := 221) F dL_loops_208 (by decide) (fun h => absurd h (by decide)) (fun _ => ?_)
  exact kk
set_option maxHeartbeats 4000000 in
set_option maxRecDepth 100000 in
theorem sg_loops_6 {p : Program} {l : Launch} {e : Env} {s : State} {m : MethodId} {args : Array Value} {below : List Frame} {meth : Method} {c : Code} {Q : State → Prop} {A : Nat → Prop} {G : zG_t} (hfl : l.stackTraces = false) (F : zF p m c cL_loops 2 s args wsL_loops RL G.1 (zty G) A) (hsx : zSx s) (hao : zAOA s) (kk : zW p l e rmL_loops s m args below meth c 103 1455 Q G.1 A 2 (zWL G (zd dL113_) (zd dT32_) (zd dE82_) (zd dV33_) (zd dM59_) (zd dK35_)) [(0, .ref (G.2.2 0 0)), (1, .int 8)] 287 []) : zW p l e rmL_loops s m args below meth c 98 1425 Q G.1 A 2 (zWL G (zd dL106_) (zd dT31_) (zd dE78_) (zd dV33_) (zd dM56_) (zd dK33_)) [(0, .ref (G.2.2 0 0)), (1, .int 8)] 211 [] := by
  refine zi_aload_n (pc := 211) F dL_loops_211 0 rfl ?_
  refine zi_callQI (pc := 212) (rest := []) (ws' := zWL G (zd dL109_) (zd dT31_) (zd dE78_) (zd dV33_) (zd dM57_) (zd dK33_)) F hsx hao (c_L_round l hfl G ev351_ ev352_ ev353_ okdT31_ okdE78_ okdM56_ okdT31_ okdE78_ okdM56_ okdT31_ okdE78_ okdM56_) (va_cwS 1 F.1.2.2.2.2 gL_loops_L_round rfl rfl rfl hd_L_round ⟨Nat.le_of_ble_eq_true rfl, Nat.le_of_ble_eq_true rfl⟩) [] [] (zw_nil _) (zw_nil _).symm rfl rfl (Nat.le_of_ble_eq_true rfl) dL_loops_212 ⟨Nat.le_of_ble_eq_true rfl, Nat.le_of_ble_eq_true rfl⟩ ?_
  show zW p l e rmL_loops s m args below meth c 98 1425 Q G.1 A 2 (zWL G (zd dL109_) (zd dT31_) (zd dE78_) (zd dV33_) (zd dM57_) (zd dK33_)) [(0, .ref (G.2.2 0 0)), (1, .int 8)] 215 [.int 2]
  refine zi_iconst (pc := 215) (v := 2) F dL_loops_215 rfl ?_
  refine zi_icmp_eq (pc := 216) (tgt := 199) F dL_loops_216 (by decide) (fun _ => ?_) (fun h => absurd h (by decide))
  refine zi_aload_n (pc := 199) F dL_loops_199 0 rfl ?_
  refine zi_aload_n (pc := 200) F dL_loops_200 0 rfl ?_
  refine zr_turn (pc := 201) hfl F hsx ev354_  (cwV 0 F.1.2.2.2.2 gL_loops_X4_turn rfl rfl rfl hd_X4_turn ⟨Nat.le_of_ble_eq_true rfl, Nat.le_of_ble_eq_true rfl⟩) (Nat.le_of_ble_eq_true rfl) dL_loops_201 ⟨Nat.le_of_ble_eq_true rfl, Nat.le_of_ble_eq_true rfl⟩ ?_
  show zW p l e rmL_loops s m args below meth c 98 1425 Q G.1 A 2 (zWL G (zd dL109_) (zd dT31_) (zd dE78_) (zd dV33_) (zd dM57_) (zd dK33_)) [(0, .ref (G.2.2 0 0)), (1, .int 8)] 204 [.int 1, .ref (G.2.2 0 0)]
  refine zr_coins (pc := 204) hfl F hsx ev355_  (cwV 1 F.1.2.2.2.2 gL_loops_X4_coins rfl rfl rfl hd_X4_coins ⟨Nat.le_of_ble_eq_true rfl, Nat.le_of_ble_eq_true rfl⟩) (Nat.le_of_ble_eq_true rfl) dL_loops_204 ⟨Nat.le_of_ble_eq_true rfl, Nat.le_of_ble_eq_true rfl⟩ ?_
  show zW p l e rmL_loops s m args below meth c 99 1431 Q G.1 A 2 (zWL G (zd dL109_) (zd dT31_) (zd dE78_) (zd dV33_) (zd dM57_) (zd dK33_)) [(0, .ref (G.2.2 0 0)), (1, .int 8)] 207 [.int 4]
  refine zi_iconst (pc := 207) (v := 4) F dL_loops_207 rfl ?_
  refine zi_icmp_ge (pc := 208) (tgt := 221) F dL_loops_208 (by decide) (fun _ => ?_) (fun h => absurd h (by decide))
  refine zi_aload_n (pc := 221) F dL_loops_221 0 rfl ?_
  refine zr_things (pc := 222) hfl F hsx ev348_  (cwV 0 F.1.2.2.2.2 gL_loops_X4_things rfl rfl rfl hd_X4_things ⟨Nat.le_of_ble_eq_true rfl, Nat.le_of_ble_eq_true rfl⟩) (Nat.le_of_ble_eq_true rfl) dL_loops_222 ⟨Nat.le_of_ble_eq_true rfl, Nat.le_of_ble_eq_true rfl⟩ ?_
  show zW p l e rmL_loops s m args below meth c 99 1431 Q G.1 A 2 (zWL G (zd dL109_) (zd dT31_) (zd dE78_) (zd dV33_) (zd dM57_) (zd dK33_)) [(0, .ref (G.2.2 0 0)), (1, .int 8)] 225 [.int 10]
  refine zi_bipush (pc := 225) (v := 10) F dL_loops_225 rfl ?_
  refine zi_icmp_ne (pc := 227) (tgt := 325) F dL_loops_227 (by decide) (fun h => absurd h (by decide)) (fun _ => ?_)
  refine zi_aload_n (pc := 230) F dL_loops_230 0 rfl ?_
  refine zi_iconst (pc := 231) (v := 0) F dL_loops_231 rfl ?_
  refine zi_iconst (pc := 232) (v := 0) F dL_loops_232 rfl ?_
  refine zr_play (pc := 233) hfl F hsx ev356_ okdT31_ okdE78_ okdM57_ (cwV 2 F.1.2.2.2.2 gL_loops_X4_play rfl rfl rfl hd_X4_play ⟨Nat.le_of_ble_eq_true rfl, Nat.le_of_ble_eq_true rfl⟩) (Nat.le_of_ble_eq_true rfl) dL_loops_233 ⟨Nat.le_of_ble_eq_true rfl, Nat.le_of_ble_eq_true rfl⟩ ?_
  show zW p l e rmL_loops s m args below meth c 100 1437 Q G.1 A 2 (zWL G (zd dL110_) (zd dT31_) (zd dE79_) (zd dV33_) (zd dM57_) (zd dK33_)) [(0, .ref (G.2.2 0 0)), (1, .int 8)] 236 [.int 1]
  refine zi_iconst (pc := 236) (v := 1) F dL_loops_236 rfl ?_
  refine zi_icmp_ne (pc := 237) (tgt := 325) F dL_loops_237 (by decide) (fun h => absurd h (by decide)) (fun _ => ?_)
  refine zi_aload_n (pc := 240) F dL_loops_240 0 rfl ?_
  refine zi_bipush (pc := 241) (v := 9) F dL_loops_241 rfl ?_
  refine zr_settle (pc := 243) hfl F hsx ev357_ okdT31_ okdE79_ okdM57_ (cwV 1 F.1.2.2.2.2 gL_loops_X4_settle rfl rfl rfl hd_X4_settle ⟨Nat.le_of_ble_eq_true rfl, Nat.le_of_ble_eq_true rfl⟩) (Nat.le_of_ble_eq_true rfl) dL_loops_243 ⟨Nat.le_of_ble_eq_true rfl, Nat.le_of_ble_eq_true rfl⟩ ?_
  show zW p l e rmL_loops s m args below meth c 101 1443 Q G.1 A 2 (zWL G (zd dL111_) (zd dT31_) (zd dE80_) (zd dV33_) (zd dM58_) (zd dK34_)) [(0, .ref (G.2.2 0 0)), (1, .int 8)] 246 [.int 1]
  refine zi_iconst (pc := 246) (v := 1) F dL_loops_246 rfl ?_
  refine zi_icmp_ne (pc := 247) (tgt := 325) F dL_loops_247 (by decide) (fun h => absurd h (by decide)) (fun _ => ?_)
  refine zi_aload_n (pc := 250) F dL_loops_250 0 rfl ?_
  refine zr_things (pc := 251) hfl F hsx ev348_  (cwV 0 F.1.2.2.2.2 gL_loops_X4_things rfl rfl rfl hd_X4_things ⟨Nat.le_of_ble_eq_true rfl, Nat.le_of_ble_eq_true rfl⟩) (Nat.le_of_ble_eq_true rfl) dL_loops_251 ⟨Nat.le_of_ble_eq_true rfl, Nat.le_of_ble_eq_true rfl⟩ ?_
  show zW p l e rmL_loops s m args below meth c 101 1443 Q G.1 A 2 (zWL G (zd dL111_) (zd dT31_) (zd dE80_) (zd dV33_) (zd dM58_) (zd dK34_)) [(0, .ref (G.2.2 0 0)), (1, .int 8)] 254 [.int 10]
  refine zi_bipush (pc := 254) (v := 10) F dL_loops_254 rfl ?_
  refine zi_icmp_ne (pc := 256) (tgt := 325) F dL_loops_256 (by decide) (fun h => absurd h (by decide)) (fun _ => ?_)
  refine zi_aload_n (pc := 259) F dL_loops_259 0 rfl ?_
  refine zr_stack (pc := 260) hfl F hsx ev358_  (cwV 0 F.1.2.2.2.2 gL_loops_X4_stack rfl rfl rfl hd_X4_stack ⟨Nat.le_of_ble_eq_true rfl, Nat.le_of_ble_eq_true rfl⟩) (Nat.le_of_ble_eq_true rfl) dL_loops_260 ⟨Nat.le_of_ble_eq_true rfl, Nat.le_of_ble_eq_true rfl⟩ ?_
  show zW p l e rmL_loops s m args below meth c 101 1443 Q G.1 A 2 (zWL G (zd dL111_) (zd dT31_) (zd dE80_) (zd dV33_) (zd dM58_) (zd dK34_)) [(0, .ref (G.2.2 0 0)), (1, .int 8)] 263 [.int 0]
  refine zi_if_ne (pc := 263) (tgt := 325) F dL_loops_263 (by decide) (fun h => absurd h (by decide)) (fun _ => ?_)
  refine zi_aload_n (pc := 266) F dL_loops_266 0 rfl ?_
  refine zi_bipush (pc := 267) (v := 12) F dL_loops_267 rfl ?_
  refine zi_bipush (pc := 269) (v := 9) F dL_loops_269 rfl ?_
  refine zr_play (pc := 271) hfl F hsx ev359_ okdT31_ okdE80_ okdM58_ (cwV 2 F.1.2.2.2.2 gL_loops_X4_play rfl rfl rfl hd_X4_play ⟨Nat.le_of_ble_eq_true rfl, Nat.le_of_ble_eq_true rfl⟩) (Nat.le_of_ble_eq_true rfl) dL_loops_271 ⟨Nat.le_of_ble_eq_true rfl, Nat.le_of_ble_eq_true rfl⟩ ?_
  show zW p l e rmL_loops s m args below meth c 102 1449 Q G.1 A 2 (zWL G (zd dL112_) (zd dT31_) (zd dE81_) (zd dV33_) (zd dM57_) (zd dK34_)) [(0, .ref (G.2.2 0 0)), (1, .int 8)] 274 [.int 1]
  refine zi_iconst (pc := 274) (v := 1) F dL_loops_274 rfl ?_
  refine zi_icmp_ne (pc := 275) (tgt := 325) F dL_loops_275 (by decide) (fun h => absurd h (by decide)) (fun _ => ?_)
  refine zi_aload_n (pc := 278) F dL_loops_278 0 rfl ?_
  refine zi_iconst (pc := 279) (v := 1) F dL_loops_279 rfl ?_
  refine zr_settle (pc := 280) hfl F hsx ev360_ okdT31_ okdE81_ okdM57_ (cwV 1 F.1.2.2.2.2 gL_loops_X4_settle rfl rfl rfl hd_X4_settle ⟨Nat.le_of_ble_eq_true rfl, Nat.le_of_ble_eq_true rfl⟩) (Nat.le_of_ble_eq_true rfl) dL_loops_280 ⟨Nat.le_of_ble_eq_true rfl, Nat.le_of_ble_eq_true rfl⟩ ?_
  show zW p l e rmL_loops s m args below meth c 103 1455 Q G.1 A 2 (zWL G (zd dL113_) (zd dT32_) (zd dE82_) (zd dV33_) (zd dM59_) (zd dK35_)) [(0, .ref (G.2.2 0 0)), (1, .int 8)] 283 [.int 1]
  refine zi_iconst (pc := 283) (v := 1) F dL_loops_283 rfl ?_
  refine zi_icmp_ne (pc := 284) (tgt := 325) F dL_loops_284 (by decide) (fun h => absurd h (by decide)) (fun _ => ?_)
  exact kk
set_option maxHeartbeats 4000000 in
set_option maxRecDepth 100000 in
theorem sg_loops_7 {p : Program} {l : Launch} {e : Env} {s : State} {m : MethodId} {args : Array Value} {below : List Frame} {meth : Method} {c : Code} {Q : State → Prop} {A : Nat → Prop} {G : zG_t} (hfl : l.stackTraces = false) (F : zF p m c cL_loops 2 s args wsL_loops RL G.1 (zty G) A) (hsx : zSx s) (hao : zAOA s) (kk : zW p l e rmL_loops s m args below meth c 176 1893 Q G.1 A 2 (zWL G (zd dL113_) (zd dT32_) (zd dE82_) (zd dV33_) (zd dM59_) (zd dK35_)) [(0, .ref (G.2.2 0 0)), (1, .int 8)] 326 [.int 1]) : zW p l e rmL_loops s m args below meth c 103 1455 Q G.1 A 2 (zWL G (zd dL113_) (zd dT32_) (zd dE82_) (zd dV33_) (zd dM59_) (zd dK35_)) [(0, .ref (G.2.2 0 0)), (1, .int 8)] 287 [] := by
  refine zi_aload_n (pc := 287) F dL_loops_287 0 rfl ?_
  refine zr_things (pc := 288) hfl F hsx ev361_  (cwV 0 F.1.2.2.2.2 gL_loops_X4_things rfl rfl rfl hd_X4_things ⟨Nat.le_of_ble_eq_true rfl, Nat.le_of_ble_eq_true rfl⟩) (Nat.le_of_ble_eq_true rfl) dL_loops_288 ⟨Nat.le_of_ble_eq_true rfl, Nat.le_of_ble_eq_true rfl⟩ ?_
  show zW p l e rmL_loops s m args below meth c 103 1455 Q G.1 A 2 (zWL G (zd dL113_) (zd dT32_) (zd dE82_) (zd dV33_) (zd dM59_) (zd dK35_)) [(0, .ref (G.2.2 0 0)), (1, .int 8)] 291 [.int 9]
  refine zi_bipush (pc := 291) (v := 9) F dL_loops_291 rfl ?_
  refine zi_icmp_ne (pc := 293) (tgt := 325) F dL_loops_293 (by decide) (fun h => absurd h (by decide)) (fun _ => ?_)
  refine zi_aload_n (pc := 296) F dL_loops_296 0 rfl ?_
  refine zi_iconst (pc := 297) (v := 0) F dL_loops_297 rfl ?_
  refine zr_entryCard (pc := 298) hfl F hsx ev362_ okdE82_ (cwV 1 F.1.2.2.2.2 gL_loops_X4_entryCard rfl rfl rfl hd_X4_entryCard ⟨Nat.le_of_ble_eq_true rfl, Nat.le_of_ble_eq_true rfl⟩) (Nat.le_of_ble_eq_true rfl) dL_loops_298 ⟨Nat.le_of_ble_eq_true rfl, Nat.le_of_ble_eq_true rfl⟩ ?_
  show zW p l e rmL_loops s m args below meth c 104 1461 Q G.1 A 2 (zWL G (zd dL113_) (zd dT32_) (zd dE82_) (zd dV33_) (zd dM59_) (zd dK35_)) [(0, .ref (G.2.2 0 0)), (1, .int 8)] 301 [.int 10]
  refine zi_bipush (pc := 301) (v := 10) F dL_loops_301 rfl ?_
  refine zi_icmp_ne (pc := 303) (tgt := 325) F dL_loops_303 (by decide) (fun h => absurd h (by decide)) (fun _ => ?_)
  refine zi_aload_n (pc := 306) F dL_loops_306 0 rfl ?_
  refine zr_loops (pc := 307) hfl F hsx ev363_  (cwV 0 F.1.2.2.2.2 gL_loops_X4_loops rfl rfl rfl hd_X4_loops ⟨Nat.le_of_ble_eq_true rfl, Nat.le_of_ble_eq_true rfl⟩) (Nat.le_of_ble_eq_true rfl) dL_loops_307 ⟨Nat.le_of_ble_eq_true rfl, Nat.le_of_ble_eq_true rfl⟩ ?_
  show zW p l e rmL_loops s m args below meth c 104 1461 Q G.1 A 2 (zWL G (zd dL113_) (zd dT32_) (zd dE82_) (zd dV33_) (zd dM59_) (zd dK35_)) [(0, .ref (G.2.2 0 0)), (1, .int 8)] 310 [.int 1]
  refine zi_iconst (pc := 310) (v := 1) F dL_loops_310 rfl ?_
  refine zi_icmp_ne (pc := 311) (tgt := 325) F dL_loops_311 (by decide) (fun h => absurd h (by decide)) (fun _ => ?_)
  refine zi_aload_n (pc := 314) F dL_loops_314 0 rfl ?_
  refine zi_callQI (pc := 315) (rest := []) (ws' := zWL G (zd dL113_) (zd dT32_) (zd dE82_) (zd dV33_) (zd dM59_) (zd dK35_)) F hsx hao (c_L_refuses l hfl G (zd dL113_) (zd dT32_) (zd dE82_) (zd dV33_) (zd dM59_) (zd dK35_) okdT32_ okdE82_ okdM59_) (va_cwS 1 F.1.2.2.2.2 gL_loops_L_refuses rfl rfl rfl hd_L_refuses ⟨Nat.le_of_ble_eq_true rfl, Nat.le_of_ble_eq_true rfl⟩) [] [] (zw_nil _) (zw_nil _).symm rfl rfl (Nat.le_of_ble_eq_true rfl) dL_loops_315 ⟨Nat.le_of_ble_eq_true rfl, Nat.le_of_ble_eq_true rfl⟩ ?_
  show zW p l e rmL_loops s m args below meth c 176 1893 Q G.1 A 2 (zWL G (zd dL113_) (zd dT32_) (zd dE82_) (zd dV33_) (zd dM59_) (zd dK35_)) [(0, .ref (G.2.2 0 0)), (1, .int 8)] 318 [.int 1]
  refine zi_if_eq (pc := 318) (tgt := 325) F dL_loops_318 (by decide) (fun h => absurd h (by decide)) (fun _ => ?_)
  refine zi_iconst (pc := 321) (v := 1) F dL_loops_321 rfl ?_
  refine zi_goto (pc := 322) (tgt := 326) F dL_loops_322 (by decide) ?_
  exact kk
