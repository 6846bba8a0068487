set_option maxHeartbeats 4000000 in
set_option maxRecDepth 100000 in
theorem sg_layers_0 {p : Program} {l : Launch} {e : Env} {s : State} {m : MethodId} {args : Array Value} {below : List Frame} {meth : Method} {c : Code} {Q : State → Prop} {A : Nat → Prop} {G : zG_t} (hfl : l.stackTraces = false) (F : zF p m c cL_layers 1 s args wsL_layers RL G.1 (zty G) A) (hsx : zSx s) (hao : zAOA s) (kk : zW p l e rmL_layers s m args below meth c 87 1359 Q G.1 A 1 (zWL G (zd dL22_) (zd dT6_) (zd dE12_) (zd dV8_) (zd dM11_) (zd dK6_)) [(0, .ref (G.2.2 0 0))] 114 []) : zW p l e rmL_layers s m args below meth c 62 1209 Q G.1 A 1 (zWL G (zd dL0_) (zd dT0_) (zd dE0_) (zd dV0_) (zd dM0_) (zd dK0_)) [(0, .ref (G.2.2 0 0))] 8 [] := by
  refine zi_aload_n (pc := 8) F dL_layers_8 0 rfl ?_
  refine zi_iconst (pc := 9) (v := 5) F dL_layers_9 rfl ?_
  refine zi_iconst (pc := 10) (v := 0) F dL_layers_10 rfl ?_
  refine zi_iconst (pc := 11) (v := 4) F dL_layers_11 rfl ?_
  refine zi_callQI (pc := 12) (rest := []) (ws' := zWL G (zd dL4_) (zd dT3_) (zd dE8_) (zd dV3_) (zd dM5_) (zd dK3_)) F hsx hao (c_L_lay l hfl G ev1_ ev78_ ev12_ ev79_ okdT0_ okdE0_ okdM0_ okdE7_ okdM0_) (va_cwS 4 F.1.2.2.2.2 gL_layers_L_lay rfl rfl rfl hd_L_lay ⟨Nat.le_of_ble_eq_true rfl, Nat.le_of_ble_eq_true rfl⟩) [] [] (zw_nil _) (zw_nil _).symm rfl rfl (Nat.le_of_ble_eq_true rfl) dL_layers_12 ⟨Nat.le_of_ble_eq_true rfl, Nat.le_of_ble_eq_true rfl⟩ ?_
  show zW p l e rmL_layers s m args below meth c 65 1227 Q G.1 A 1 (zWL G (zd dL4_) (zd dT3_) (zd dE8_) (zd dV3_) (zd dM5_) (zd dK3_)) [(0, .ref (G.2.2 0 0))] 15 [.int 1]
  refine zi_if_eq (pc := 15) (tgt := 184) F dL_layers_15 (by decide) (fun h => absurd h (by decide)) (fun _ => ?_)
  refine zi_aload_n (pc := 18) F dL_layers_18 0 rfl ?_
  refine zi_iconst (pc := 19) (v := 1) F dL_layers_19 rfl ?_
  refine zi_iconst (pc := 20) (v := 0) F dL_layers_20 rfl ?_
  refine zi_iconst (pc := 21) (v := 1) F dL_layers_21 rfl ?_
  refine zi_callQI (pc := 22) (rest := []) (ws' := zWL G (zd dL6_) (zd dT4_) (zd dE4_) (zd dV4_) (zd dM7_) (zd dK4_)) F hsx hao (c_L_lay l hfl G ev25_ ev80_ ev37_ ev81_ okdT3_ okdE8_ okdM5_ okdE3_ okdM6_) (va_cwS 4 F.1.2.2.2.2 gL_layers_L_lay rfl rfl rfl hd_L_lay ⟨Nat.le_of_ble_eq_true rfl, Nat.le_of_ble_eq_true rfl⟩) [] [] (zw_nil _) (zw_nil _).symm rfl rfl (Nat.le_of_ble_eq_true rfl) dL_layers_22 ⟨Nat.le_of_ble_eq_true rfl, Nat.le_of_ble_eq_true rfl⟩ ?_
  show zW p l e rmL_layers s m args below meth c 68 1245 Q G.1 A 1 (zWL G (zd dL6_) (zd dT4_) (zd dE4_) (zd dV4_) (zd dM7_) (zd dK4_)) [(0, .ref (G.2.2 0 0))] 25 [.int 1]
  refine zi_if_eq (pc := 25) (tgt := 184) F dL_layers_25 (by decide) (fun h => absurd h (by decide)) (fun _ => ?_)
  refine zi_aload_n (pc := 28) F dL_layers_28 0 rfl ?_
  refine zi_iconst (pc := 29) (v := 0) F dL_layers_29 rfl ?_
  refine zi_iconst (pc := 30) (v := 5) F dL_layers_30 rfl ?_
  refine zi_iconst (pc := 31) (v := 0) F dL_layers_31 rfl ?_
  refine zi_iconst (pc := 32) (v := 4) F dL_layers_32 rfl ?_
  refine zi_iconst (pc := 33) (v := 0) F dL_layers_33 rfl ?_
  refine zi_callQI (pc := 34) (rest := []) (ws' := zWL G (zd dL6_) (zd dT4_) (zd dE4_) (zd dV4_) (zd dM7_) (zd dK4_)) F hsx hao (c_L_is l hfl G ev82_ ev83_ ev84_ okdT4_) (va_cwS 6 F.1.2.2.2.2 gL_layers_L_is rfl rfl rfl hd_L_is ⟨Nat.le_of_ble_eq_true rfl, Nat.le_of_ble_eq_true rfl⟩) [] [] (zw_nil _) (zw_nil _).symm rfl rfl (Nat.le_of_ble_eq_true rfl) dL_layers_34 ⟨Nat.le_of_ble_eq_true rfl, Nat.le_of_ble_eq_true rfl⟩ ?_
  show zW p l e rmL_layers s m args below meth c 71 1263 Q G.1 A 1 (zWL G (zd dL6_) (zd dT4_) (zd dE4_) (zd dV4_) (zd dM7_) (zd dK4_)) [(0, .ref (G.2.2 0 0))] 37 [.int 1]
  refine zi_if_eq (pc := 37) (tgt := 184) F dL_layers_37 (by decide) (fun h => absurd h (by decide)) (fun _ => ?_)
  refine zi_aload_n (pc := 40) F dL_layers_40 0 rfl ?_
  refine zi_iconst (pc := 41) (v := 1) F dL_layers_41 rfl ?_
  refine zi_iconst (pc := 42) (v := 1) F dL_layers_42 rfl ?_
  refine zi_iconst (pc := 43) (v := 0) F dL_layers_43 rfl ?_
  refine zi_iconst (pc := 44) (v := 2) F dL_layers_44 rfl ?_
  refine zi_iconst (pc := 45) (v := 1) F dL_layers_45 rfl ?_
  refine zi_callQI (pc := 46) (rest := []) (ws' := zWL G (zd dL6_) (zd dT4_) (zd dE4_) (zd dV5_) (zd dM7_) (zd dK4_)) F hsx hao (c_L_is l hfl G ev85_ ev86_ ev87_ okdT4_) (va_cwS 6 F.1.2.2.2.2 gL_layers_L_is rfl rfl rfl hd_L_is ⟨Nat.le_of_ble_eq_true rfl, Nat.le_of_ble_eq_true rfl⟩) [] [] (zw_nil _) (zw_nil _).symm rfl rfl (Nat.le_of_ble_eq_true rfl) dL_layers_46 ⟨Nat.le_of_ble_eq_true rfl, Nat.le_of_ble_eq_true rfl⟩ ?_
  show zW p l e rmL_layers s m args below meth c 74 1281 Q G.1 A 1 (zWL G (zd dL6_) (zd dT4_) (zd dE4_) (zd dV5_) (zd dM7_) (zd dK4_)) [(0, .ref (G.2.2 0 0))] 49 [.int 1]
  refine zi_if_eq (pc := 49) (tgt := 184) F dL_layers_49 (by decide) (fun h => absurd h (by decide)) (fun _ => ?_)
  refine zi_aload_n (pc := 52) F dL_layers_52 0 rfl ?_
  refine zi_iconst (pc := 53) (v := 1) F dL_layers_53 rfl ?_
  refine zi_iconst (pc := 54) (v := 2) F dL_layers_54 rfl ?_
  refine zi_iconst (pc := 55) (v := 0) F dL_layers_55 rfl ?_
  refine zi_iconst (pc := 56) (v := 3) F dL_layers_56 rfl ?_
  refine zi_iconst (pc := 57) (v := 1) F dL_layers_57 rfl ?_
  refine zi_callQI (pc := 58) (rest := []) (ws' := zWL G (zd dL6_) (zd dT4_) (zd dE4_) (zd dV6_) (zd dM7_) (zd dK4_)) F hsx hao (c_L_is l hfl G ev88_ ev89_ ev90_ okdT4_) (va_cwS 6 F.1.2.2.2.2 gL_layers_L_is rfl rfl rfl hd_L_is ⟨Nat.le_of_ble_eq_true rfl, Nat.le_of_ble_eq_true rfl⟩) [] [] (zw_nil _) (zw_nil _).symm rfl rfl (Nat.le_of_ble_eq_true rfl) dL_layers_58 ⟨Nat.le_of_ble_eq_true rfl, Nat.le_of_ble_eq_true rfl⟩ ?_
  show zW p l e rmL_layers s m args below meth c 77 1299 Q G.1 A 1 (zWL G (zd dL6_) (zd dT4_) (zd dE4_) (zd dV6_) (zd dM7_) (zd dK4_)) [(0, .ref (G.2.2 0 0))] 61 [.int 1]
  refine zi_if_eq (pc := 61) (tgt := 184) F dL_layers_61 (by decide) (fun h => absurd h (by decide)) (fun _ => ?_)
  refine zi_aload_n (pc := 64) F dL_layers_64 0 rfl ?_
  refine zi_iconst (pc := 65) (v := 0) F dL_layers_65 rfl ?_
  refine zr_power (pc := 66) hfl F hsx ev91_ okdT4_ (cwV 1 F.1.2.2.2.2 gL_layers_X4_power rfl rfl rfl hd_X4_power ⟨Nat.le_of_ble_eq_true rfl, Nat.le_of_ble_eq_true rfl⟩) (Nat.le_of_ble_eq_true rfl) dL_layers_66 ⟨Nat.le_of_ble_eq_true rfl, Nat.le_of_ble_eq_true rfl⟩ ?_
  show zW p l e rmL_layers s m args below meth c 78 1305 Q G.1 A 1 (zWL G (zd dL6_) (zd dT4_) (zd dE4_) (zd dV4_) (zd dM7_) (zd dK4_)) [(0, .ref (G.2.2 0 0))] 69 [.int 1]
  refine zi_iconst (pc := 69) (v := 1) F dL_layers_69 rfl ?_
  refine zi_icmp_ne (pc := 70) (tgt := 184) F dL_layers_70 (by decide) (fun h => absurd h (by decide)) (fun _ => ?_)
  refine zi_aload_n (pc := 73) F dL_layers_73 0 rfl ?_
  refine zi_callQI (pc := 74) (rest := []) (ws' := zWL G (zd dL9_) (zd dT4_) (zd dE4_) (zd dV4_) (zd dM8_) (zd dK4_)) F hsx hao (c_L_round l hfl G ev92_ ev93_ ev94_ okdT4_ okdE4_ okdM7_ okdT4_ okdE4_ okdM7_ okdT4_ okdE4_ okdM7_) (va_cwS 1 F.1.2.2.2.2 gL_layers_L_round rfl rfl rfl hd_L_round ⟨Nat.le_of_ble_eq_true rfl, Nat.le_of_ble_eq_true rfl⟩) [] [] (zw_nil _) (zw_nil _).symm rfl rfl (Nat.le_of_ble_eq_true rfl) dL_layers_74 ⟨Nat.le_of_ble_eq_true rfl, Nat.le_of_ble_eq_true rfl⟩ ?_
  show zW p l e rmL_layers s m args below meth c 78 1305 Q G.1 A 1 (zWL G (zd dL9_) (zd dT4_) (zd dE4_) (zd dV4_) (zd dM8_) (zd dK4_)) [(0, .ref (G.2.2 0 0))] 77 [.int 2]
  refine zi_iconst (pc := 77) (v := 2) F dL_layers_77 rfl ?_
  refine zi_icmp_ne (pc := 78) (tgt := 184) F dL_layers_78 (by decide) (fun h => absurd h (by decide)) (fun _ => ?_)
  refine zi_aload_n (pc := 81) F dL_layers_81 0 rfl ?_
  refine zi_iconst (pc := 82) (v := 2) F dL_layers_82 rfl ?_
  refine zi_iconst (pc := 83) (v := 0) F dL_layers_83 rfl ?_
  refine zi_bipush (pc := 84) (v := 6) F dL_layers_84 rfl ?_
  refine zi_callQI (pc := 86) (rest := []) (ws' := zWL G (zd dL20_) (zd dT5_) (zd dE10_) (zd dV7_) (zd dM9_) (zd dK5_)) F hsx hao (c_L_lay l hfl G ev51_ ev95_ ev96_ ev97_ okdT4_ okdE4_ okdM8_ okdE9_ okdM8_) (va_cwS 4 F.1.2.2.2.2 gL_layers_L_lay rfl rfl rfl hd_L_lay ⟨Nat.le_of_ble_eq_true rfl, Nat.le_of_ble_eq_true rfl⟩) [] [] (zw_nil _) (zw_nil _).symm rfl rfl (Nat.le_of_ble_eq_true rfl) dL_layers_86 ⟨Nat.le_of_ble_eq_true rfl, Nat.le_of_ble_eq_true rfl⟩ ?_
  show zW p l e rmL_layers s m args below meth c 81 1323 Q G.1 A 1 (zWL G (zd dL20_) (zd dT5_) (zd dE10_) (zd dV7_) (zd dM9_) (zd dK5_)) [(0, .ref (G.2.2 0 0))] 89 [.int 1]
  refine zi_if_eq (pc := 89) (tgt := 184) F dL_layers_89 (by decide) (fun h => absurd h (by decide)) (fun _ => ?_)
  refine zi_aload_n (pc := 92) F dL_layers_92 0 rfl ?_
  refine zi_iconst (pc := 93) (v := 1) F dL_layers_93 rfl ?_
  refine zi_iconst (pc := 94) (v := 5) F dL_layers_94 rfl ?_
  refine zi_iconst (pc := 95) (v := 0) F dL_layers_95 rfl ?_
  refine zi_iconst (pc := 96) (v := 3) F dL_layers_96 rfl ?_
  refine zi_iconst (pc := 97) (v := 1) F dL_layers_97 rfl ?_
  refine zi_callQI (pc := 98) (rest := []) (ws' := zWL G (zd dL20_) (zd dT5_) (zd dE10_) (zd dV7_) (zd dM9_) (zd dK5_)) F hsx hao (c_L_is l hfl G ev98_ ev99_ ev100_ okdT5_) (va_cwS 6 F.1.2.2.2.2 gL_layers_L_is rfl rfl rfl hd_L_is ⟨Nat.le_of_ble_eq_true rfl, Nat.le_of_ble_eq_true rfl⟩) [] [] (zw_nil _) (zw_nil _).symm rfl rfl (Nat.le_of_ble_eq_true rfl) dL_layers_98 ⟨Nat.le_of_ble_eq_true rfl, Nat.le_of_ble_eq_true rfl⟩ ?_
  show zW p l e rmL_layers s m args below meth c 84 1341 Q G.1 A 1 (zWL G (zd dL20_) (zd dT5_) (zd dE10_) (zd dV7_) (zd dM9_) (zd dK5_)) [(0, .ref (G.2.2 0 0))] 101 [.int 1]
  refine zi_if_eq (pc := 101) (tgt := 184) F dL_layers_101 (by decide) (fun h => absurd h (by decide)) (fun _ => ?_)
  refine zi_aload_n (pc := 104) F dL_layers_104 0 rfl ?_
  refine zi_iconst (pc := 105) (v := 4) F dL_layers_105 rfl ?_
  refine zi_iconst (pc := 106) (v := 0) F dL_layers_106 rfl ?_
  refine zi_iconst (pc := 107) (v := 3) F dL_layers_107 rfl ?_
  refine zi_callQI (pc := 108) (rest := []) (ws' := zWL G (zd dL22_) (zd dT6_) (zd dE12_) (zd dV8_) (zd dM11_) (zd dK6_)) F hsx hao (c_L_lay l hfl G ev101_ ev102_ ev103_ ev104_ okdT5_ okdE10_ okdM9_ okdE11_ okdM10_) (va_cwS 4 F.1.2.2.2.2 gL_layers_L_lay rfl rfl rfl hd_L_lay ⟨Nat.le_of_ble_eq_true rfl, Nat.le_of_ble_eq_true rfl⟩) [] [] (zw_nil _) (zw_nil _).symm rfl rfl (Nat.le_of_ble_eq_true rfl) dL_layers_108 ⟨Nat.le_of_ble_eq_true rfl, Nat.le_of_ble_eq_true rfl⟩ ?_
  show zW p l e rmL_layers s m args below meth c 87 1359 Q G.1 A 1 (zWL G (zd dL22_) (zd dT6_) (zd dE12_) (zd dV8_) (zd dM11_) (zd dK6_)) [(0, .ref (G.2.2 0 0))] 111 [.int 1]
  refine zi_if_eq (pc := 111) (tgt := 184) F dL_layers_111 (by decide) (fun h => absurd h (by decide)) (fun _ => ?_)
  exact kk
set_option maxHeartbeats 4000000 in
set_option maxRecDepth 100000 in
theorem sg_layers_1 {p : Program} {l : Launch} {e : Env} {s : State} {m : MethodId} {args : Array Value} {below : List Frame} {meth : Method} {c : Code} {Q : State → Prop} {A : Nat → Prop} {G : zG_t} (hfl : l.stackTraces = false) (F : zF p m c cL_layers 1 s args wsL_layers RL G.1 (zty G) A) (hsx : zSx s) (hao : zAOA s) (kk : zW p l e rmL_layers s m args below meth c 112 1509 Q G.1 A 1 (zWL G (zd dL29_) (zd dT8_) (zd dE16_) (zd dV15_) (zd dM15_) (zd dK8_)) [(0, .ref (G.2.2 0 0))] 229 []) : zW p l e rmL_layers s m args below meth c 87 1359 Q G.1 A 1 (zWL G (zd dL22_) (zd dT6_) (zd dE12_) (zd dV8_) (zd dM11_) (zd dK6_)) [(0, .ref (G.2.2 0 0))] 114 [] := by
  refine zi_aload_n (pc := 114) F dL_layers_114 0 rfl ?_
  refine zi_iconst (pc := 115) (v := 1) F dL_layers_115 rfl ?_
  refine zi_iconst (pc := 116) (v := 2) F dL_layers_116 rfl ?_
  refine zi_iconst (pc := 117) (v := 0) F dL_layers_117 rfl ?_
  refine zi_iconst (pc := 118) (v := 3) F dL_layers_118 rfl ?_
  refine zi_iconst (pc := 119) (v := 1) F dL_layers_119 rfl ?_
  refine zi_callQI (pc := 120) (rest := []) (ws' := zWL G (zd dL22_) (zd dT6_) (zd dE12_) (zd dV9_) (zd dM11_) (zd dK6_)) F hsx hao (c_L_is l hfl G ev105_ ev106_ ev107_ okdT6_) (va_cwS 6 F.1.2.2.2.2 gL_layers_L_is rfl rfl rfl hd_L_is ⟨Nat.le_of_ble_eq_true rfl, Nat.le_of_ble_eq_true rfl⟩) [] [] (zw_nil _) (zw_nil _).symm rfl rfl (Nat.le_of_ble_eq_true rfl) dL_layers_120 ⟨Nat.le_of_ble_eq_true rfl, Nat.le_of_ble_eq_true rfl⟩ ?_
  show zW p l e rmL_layers s m args below meth c 90 1377 Q G.1 A 1 (zWL G (zd dL22_) (zd dT6_) (zd dE12_) (zd dV9_) (zd dM11_) (zd dK6_)) [(0, .ref (G.2.2 0 0))] 123 [.int 1]
  refine zi_if_eq (pc := 123) (tgt := 184) F dL_layers_123 (by decide) (fun h => absurd h (by decide)) (fun _ => ?_)
  refine zi_aload_n (pc := 126) F dL_layers_126 0 rfl ?_
  refine zi_iconst (pc := 127) (v := 1) F dL_layers_127 rfl ?_
  refine zi_iconst (pc := 128) (v := 3) F dL_layers_128 rfl ?_
  refine zi_iconst (pc := 129) (v := 0) F dL_layers_129 rfl ?_
  refine zi_iconst (pc := 130) (v := 3) F dL_layers_130 rfl ?_
  refine zi_iconst (pc := 131) (v := 4) F dL_layers_131 rfl ?_
  refine zi_callQI (pc := 132) (rest := []) (ws' := zWL G (zd dL22_) (zd dT6_) (zd dE12_) (zd dV10_) (zd dM11_) (zd dK6_)) F hsx hao (c_L_is l hfl G ev108_ ev109_ ev110_ okdT6_) (va_cwS 6 F.1.2.2.2.2 gL_layers_L_is rfl rfl rfl hd_L_is ⟨Nat.le_of_ble_eq_true rfl, Nat.le_of_ble_eq_true rfl⟩) [] [] (zw_nil _) (zw_nil _).symm rfl rfl (Nat.le_of_ble_eq_true rfl) dL_layers_132 ⟨Nat.le_of_ble_eq_true rfl, Nat.le_of_ble_eq_true rfl⟩ ?_
  show zW p l e rmL_layers s m args below meth c 93 1395 Q G.1 A 1 (zWL G (zd dL22_) (zd dT6_) (zd dE12_) (zd dV10_) (zd dM11_) (zd dK6_)) [(0, .ref (G.2.2 0 0))] 135 [.int 1]
  refine zi_if_eq (pc := 135) (tgt := 184) F dL_layers_135 (by decide) (fun h => absurd h (by decide)) (fun _ => ?_)
  refine zi_aload_n (pc := 138) F dL_layers_138 0 rfl ?_
  refine zi_bipush (pc := 139) (v := 8) F dL_layers_139 rfl ?_
  refine zi_iconst (pc := 141) (v := 0) F dL_layers_141 rfl ?_
  refine zi_iconst (pc := 142) (v := 0) F dL_layers_142 rfl ?_
  refine zi_callQI (pc := 143) (rest := []) (ws' := zWL G (zd dL24_) (zd dT7_) (zd dE14_) (zd dV11_) (zd dM13_) (zd dK7_)) F hsx hao (c_L_lay l hfl G ev111_ ev112_ ev113_ ev114_ okdT6_ okdE12_ okdM11_ okdE13_ okdM12_) (va_cwS 4 F.1.2.2.2.2 gL_layers_L_lay rfl rfl rfl hd_L_lay ⟨Nat.le_of_ble_eq_true rfl, Nat.le_of_ble_eq_true rfl⟩) [] [] (zw_nil _) (zw_nil _).symm rfl rfl (Nat.le_of_ble_eq_true rfl) dL_layers_143 ⟨Nat.le_of_ble_eq_true rfl, Nat.le_of_ble_eq_true rfl⟩ ?_
  show zW p l e rmL_layers s m args below meth c 96 1413 Q G.1 A 1 (zWL G (zd dL24_) (zd dT7_) (zd dE14_) (zd dV11_) (zd dM13_) (zd dK7_)) [(0, .ref (G.2.2 0 0))] 146 [.int 1]
  refine zi_if_eq (pc := 146) (tgt := 184) F dL_layers_146 (by decide) (fun h => absurd h (by decide)) (fun _ => ?_)
  refine zi_aload_n (pc := 149) F dL_layers_149 0 rfl ?_
  refine zi_iconst (pc := 150) (v := 1) F dL_layers_150 rfl ?_
  refine zi_iconst (pc := 151) (v := 4) F dL_layers_151 rfl ?_
  refine zi_iconst (pc := 152) (v := 0) F dL_layers_152 rfl ?_
  refine zi_iconst (pc := 153) (v := 3) F dL_layers_153 rfl ?_
  refine zi_iconst (pc := 154) (v := 4) F dL_layers_154 rfl ?_
  refine zi_callQI (pc := 155) (rest := []) (ws' := zWL G (zd dL24_) (zd dT7_) (zd dE14_) (zd dV12_) (zd dM13_) (zd dK7_)) F hsx hao (c_L_is l hfl G ev115_ ev116_ ev117_ okdT7_) (va_cwS 6 F.1.2.2.2.2 gL_layers_L_is rfl rfl rfl hd_L_is ⟨Nat.le_of_ble_eq_true rfl, Nat.le_of_ble_eq_true rfl⟩) [] [] (zw_nil _) (zw_nil _).symm rfl rfl (Nat.le_of_ble_eq_true rfl) dL_layers_155 ⟨Nat.le_of_ble_eq_true rfl, Nat.le_of_ble_eq_true rfl⟩ ?_
  show zW p l e rmL_layers s m args below meth c 99 1431 Q G.1 A 1 (zWL G (zd dL24_) (zd dT7_) (zd dE14_) (zd dV12_) (zd dM13_) (zd dK7_)) [(0, .ref (G.2.2 0 0))] 158 [.int 1]
  refine zi_if_eq (pc := 158) (tgt := 184) F dL_layers_158 (by decide) (fun h => absurd h (by decide)) (fun _ => ?_)
  refine zi_aload_n (pc := 161) F dL_layers_161 0 rfl ?_
  refine zi_iconst (pc := 162) (v := 1) F dL_layers_162 rfl ?_
  refine zi_iconst (pc := 163) (v := 5) F dL_layers_163 rfl ?_
  refine zi_iconst (pc := 164) (v := 0) F dL_layers_164 rfl ?_
  refine zi_iconst (pc := 165) (v := 3) F dL_layers_165 rfl ?_
  refine zi_bipush (pc := 166) (v := 8) F dL_layers_166 rfl ?_
  refine zi_callQI (pc := 168) (rest := []) (ws' := zWL G (zd dL24_) (zd dT7_) (zd dE14_) (zd dV11_) (zd dM13_) (zd dK7_)) F hsx hao (c_L_is l hfl G ev118_ ev119_ ev120_ okdT7_) (va_cwS 6 F.1.2.2.2.2 gL_layers_L_is rfl rfl rfl hd_L_is ⟨Nat.le_of_ble_eq_true rfl, Nat.le_of_ble_eq_true rfl⟩) [] [] (zw_nil _) (zw_nil _).symm rfl rfl (Nat.le_of_ble_eq_true rfl) dL_layers_168 ⟨Nat.le_of_ble_eq_true rfl, Nat.le_of_ble_eq_true rfl⟩ ?_
  show zW p l e rmL_layers s m args below meth c 102 1449 Q G.1 A 1 (zWL G (zd dL24_) (zd dT7_) (zd dE14_) (zd dV11_) (zd dM13_) (zd dK7_)) [(0, .ref (G.2.2 0 0))] 171 [.int 1]
  refine zi_if_eq (pc := 171) (tgt := 184) F dL_layers_171 (by decide) (fun h => absurd h (by decide)) (fun _ => ?_)
  refine zi_aload_n (pc := 174) F dL_layers_174 0 rfl ?_
  refine zi_iconst (pc := 175) (v := 0) F dL_layers_175 rfl ?_
  refine zr_power (pc := 176) hfl F hsx ev121_ okdT7_ (cwV 1 F.1.2.2.2.2 gL_layers_X4_power rfl rfl rfl hd_X4_power ⟨Nat.le_of_ble_eq_true rfl, Nat.le_of_ble_eq_true rfl⟩) (Nat.le_of_ble_eq_true rfl) dL_layers_176 ⟨Nat.le_of_ble_eq_true rfl, Nat.le_of_ble_eq_true rfl⟩ ?_
  show zW p l e rmL_layers s m args below meth c 103 1455 Q G.1 A 1 (zWL G (zd dL24_) (zd dT7_) (zd dE14_) (zd dV11_) (zd dM13_) (zd dK7_)) [(0, .ref (G.2.2 0 0))] 179 [.int 8]
  refine zi_bipush (pc := 179) (v := 8) F dL_layers_179 rfl ?_
  refine zi_icmp_eq (pc := 181) (tgt := 186) F dL_layers_181 (by decide) (fun _ => ?_) (fun h => absurd h (by decide))
  refine zi_aload_n (pc := 186) F dL_layers_186 0 rfl ?_
  refine zi_callQI (pc := 187) (rest := []) (ws' := zWL G (zd dL27_) (zd dT7_) (zd dE14_) (zd dV11_) (zd dM14_) (zd dK7_)) F hsx hao (c_L_round l hfl G ev122_ ev123_ ev124_ okdT7_ okdE14_ okdM13_ okdT7_ okdE14_ okdM13_ okdT7_ okdE14_ okdM13_) (va_cwS 1 F.1.2.2.2.2 gL_layers_L_round rfl rfl rfl hd_L_round ⟨Nat.le_of_ble_eq_true rfl, Nat.le_of_ble_eq_true rfl⟩) [] [] (zw_nil _) (zw_nil _).symm rfl rfl (Nat.le_of_ble_eq_true rfl) dL_layers_187 ⟨Nat.le_of_ble_eq_true rfl, Nat.le_of_ble_eq_true rfl⟩ ?_
  show zW p l e rmL_layers s m args below meth c 103 1455 Q G.1 A 1 (zWL G (zd dL27_) (zd dT7_) (zd dE14_) (zd dV11_) (zd dM14_) (zd dK7_)) [(0, .ref (G.2.2 0 0))] 190 [.int 2]
  refine zi_iconst (pc := 190) (v := 2) F dL_layers_190 rfl ?_
  refine zi_icmp_ne (pc := 191) (tgt := 363) F dL_layers_191 (by decide) (fun h => absurd h (by decide)) (fun _ => ?_)
  refine zi_aload_n (pc := 194) F dL_layers_194 0 rfl ?_
  refine zi_bipush (pc := 195) (v := 7) F dL_layers_195 rfl ?_
  refine zi_iconst (pc := 197) (v := 1) F dL_layers_197 rfl ?_
  refine zi_iconst (pc := 198) (v := 5) F dL_layers_198 rfl ?_
  refine zi_callQI (pc := 199) (rest := []) (ws' := zWL G (zd dL29_) (zd dT8_) (zd dE16_) (zd dV13_) (zd dM15_) (zd dK8_)) F hsx hao (c_L_lay l hfl G ev125_ ev126_ ev127_ ev128_ okdT7_ okdE14_ okdM14_ okdE15_ okdM14_) (va_cwS 4 F.1.2.2.2.2 gL_layers_L_lay rfl rfl rfl hd_L_lay ⟨Nat.le_of_ble_eq_true rfl, Nat.le_of_ble_eq_true rfl⟩) [] [] (zw_nil _) (zw_nil _).symm rfl rfl (Nat.le_of_ble_eq_true rfl) dL_layers_199 ⟨Nat.le_of_ble_eq_true rfl, Nat.le_of_ble_eq_true rfl⟩ ?_
  show zW p l e rmL_layers s m args below meth c 106 1473 Q G.1 A 1 (zWL G (zd dL29_) (zd dT8_) (zd dE16_) (zd dV13_) (zd dM15_) (zd dK8_)) [(0, .ref (G.2.2 0 0))] 202 [.int 1]
  refine zi_if_eq (pc := 202) (tgt := 363) F dL_layers_202 (by decide) (fun h => absurd h (by decide)) (fun _ => ?_)
  refine zi_aload_n (pc := 205) F dL_layers_205 0 rfl ?_
  refine zi_iconst (pc := 206) (v := 1) F dL_layers_206 rfl ?_
  refine zi_iconst (pc := 207) (v := 0) F dL_layers_207 rfl ?_
  refine zi_iconst (pc := 208) (v := 0) F dL_layers_208 rfl ?_
  refine zi_iconst (pc := 209) (v := 2) F dL_layers_209 rfl ?_
  refine zi_iconst (pc := 210) (v := 1) F dL_layers_210 rfl ?_
  refine zi_callQI (pc := 211) (rest := []) (ws' := zWL G (zd dL29_) (zd dT8_) (zd dE16_) (zd dV14_) (zd dM15_) (zd dK8_)) F hsx hao (c_L_is l hfl G ev129_ ev130_ ev131_ okdT8_) (va_cwS 6 F.1.2.2.2.2 gL_layers_L_is rfl rfl rfl hd_L_is ⟨Nat.le_of_ble_eq_true rfl, Nat.le_of_ble_eq_true rfl⟩) [] [] (zw_nil _) (zw_nil _).symm rfl rfl (Nat.le_of_ble_eq_true rfl) dL_layers_211 ⟨Nat.le_of_ble_eq_true rfl, Nat.le_of_ble_eq_true rfl⟩ ?_
  show zW p l e rmL_layers s m args below meth c 109 1491 Q G.1 A 1 (zWL G (zd dL29_) (zd dT8_) (zd dE16_) (zd dV14_) (zd dM15_) (zd dK8_)) [(0, .ref (G.2.2 0 0))] 214 [.int 1]
  refine zi_if_eq (pc := 214) (tgt := 363) F dL_layers_214 (by decide) (fun h => absurd h (by decide)) (fun _ => ?_)
  refine zi_aload_n (pc := 217) F dL_layers_217 0 rfl ?_
  refine zi_iconst (pc := 218) (v := 1) F dL_layers_218 rfl ?_
  refine zi_iconst (pc := 219) (v := 1) F dL_layers_219 rfl ?_
  refine zi_iconst (pc := 220) (v := 2) F dL_layers_220 rfl ?_
  refine zi_iconst (pc := 221) (v := 2) F dL_layers_221 rfl ?_
  refine zi_iconst (pc := 222) (v := 1) F dL_layers_222 rfl ?_
  refine zi_callQI (pc := 223) (rest := []) (ws' := zWL G (zd dL29_) (zd dT8_) (zd dE16_) (zd dV15_) (zd dM15_) (zd dK8_)) F hsx hao (c_L_is l hfl G ev132_ ev133_ ev134_ okdT8_) (va_cwS 6 F.1.2.2.2.2 gL_layers_L_is rfl rfl rfl hd_L_is ⟨Nat.le_of_ble_eq_true rfl, Nat.le_of_ble_eq_true rfl⟩) [] [] (zw_nil _) (zw_nil _).symm rfl rfl (Nat.le_of_ble_eq_true rfl) dL_layers_223 ⟨Nat.le_of_ble_eq_true rfl, Nat.le_of_ble_eq_true rfl⟩ ?_
  show zW p l e rmL_layers s m args below meth c 112 1509 Q G.1 A 1 (zWL G (zd dL29_) (zd dT8_) (zd dE16_) (zd dV15_) (zd dM15_) (zd dK8_)) [(0, .ref (G.2.2 0 0))] 226 [.int 1]
  refine zi_if_eq (pc := 226) (tgt := 363) F dL_layers_226 (by decide) (fun h => absurd h (by decide)) (fun _ => ?_)
  exact kk
set_option maxHeartbeats 4000000 in
set_option maxRecDepth 100000 in
theorem sg_layers_2 {p : Program} {l : Launch} {e : Env} {s : State} {m : MethodId} {args : Array Value} {below : List Frame} {meth : Method} {c : Code} {Q : State → Prop} {A : Nat → Prop} {G : zG_t} (hfl : l.stackTraces = false) (F : zF p m c cL_layers 1 s args wsL_layers RL G.1 (zty G) A) (hsx : zSx s) (hao : zAOA s) (kk : zW p l e rmL_layers s m args below meth c 132 1629 Q G.1 A 1 (zWL G (zd dL34_) (zd dT10_) (zd dE21_) (zd dV18_) (zd dM20_) (zd dK10_)) [(0, .ref (G.2.2 0 0))] 336 []) : zW p l e rmL_layers s m args below meth c 112 1509 Q G.1 A 1 (zWL G (zd dL29_) (zd dT8_) (zd dE16_) (zd dV15_) (zd dM15_) (zd dK8_)) [(0, .ref (G.2.2 0 0))] 229 [] := by
  refine zi_aload_n (pc := 229) F dL_layers_229 0 rfl ?_
  refine zi_iconst (pc := 230) (v := 0) F dL_layers_230 rfl ?_
  refine zr_power (pc := 231) hfl F hsx ev135_ okdT8_ (cwV 1 F.1.2.2.2.2 gL_layers_X4_power rfl rfl rfl hd_X4_power ⟨Nat.le_of_ble_eq_true rfl, Nat.le_of_ble_eq_true rfl⟩) (Nat.le_of_ble_eq_true rfl) dL_layers_231 ⟨Nat.le_of_ble_eq_true rfl, Nat.le_of_ble_eq_true rfl⟩ ?_
  show zW p l e rmL_layers s m args below meth c 113 1515 Q G.1 A 1 (zWL G (zd dL29_) (zd dT8_) (zd dE16_) (zd dV13_) (zd dM15_) (zd dK8_)) [(0, .ref (G.2.2 0 0))] 234 [.int 0]
  refine zi_if_ne (pc := 234) (tgt := 363) F dL_layers_234 (by decide) (fun h => absurd h (by decide)) (fun _ => ?_)
  refine zi_aload_n (pc := 237) F dL_layers_237 0 rfl ?_
  refine zi_iconst (pc := 238) (v := 2) F dL_layers_238 rfl ?_
  refine zr_power (pc := 239) hfl F hsx ev136_ okdT8_ (cwV 1 F.1.2.2.2.2 gL_layers_X4_power rfl rfl rfl hd_X4_power ⟨Nat.le_of_ble_eq_true rfl, Nat.le_of_ble_eq_true rfl⟩) (Nat.le_of_ble_eq_true rfl) dL_layers_239 ⟨Nat.le_of_ble_eq_true rfl, Nat.le_of_ble_eq_true rfl⟩ ?_
  show zW p l e rmL_layers s m args below meth c 114 1521 Q G.1 A 1 (zWL G (zd dL29_) (zd dT8_) (zd dE16_) (zd dV13_) (zd dM15_) (zd dK8_)) [(0, .ref (G.2.2 0 0))] 242 [.int 8]
  refine zi_bipush (pc := 242) (v := 8) F dL_layers_242 rfl ?_
  refine zi_icmp_ne (pc := 244) (tgt := 363) F dL_layers_244 (by decide) (fun h => absurd h (by decide)) (fun _ => ?_)
  refine zi_aload_n (pc := 247) F dL_layers_247 0 rfl ?_
  refine zi_bipush (pc := 248) (v := 6) F dL_layers_248 rfl ?_
  refine zi_iconst (pc := 250) (v := 0) F dL_layers_250 rfl ?_
  refine zi_iconst (pc := 251) (v := 3) F dL_layers_251 rfl ?_
  refine zi_callQI (pc := 252) (rest := []) (ws' := zWL G (zd dL31_) (zd dT9_) (zd dE18_) (zd dV16_) (zd dM17_) (zd dK9_)) F hsx hao (c_L_lay l hfl G ev137_ ev138_ ev139_ ev140_ okdT8_ okdE16_ okdM15_ okdE17_ okdM16_) (va_cwS 4 F.1.2.2.2.2 gL_layers_L_lay rfl rfl rfl hd_L_lay ⟨Nat.le_of_ble_eq_true rfl, Nat.le_of_ble_eq_true rfl⟩) [] [] (zw_nil _) (zw_nil _).symm rfl rfl (Nat.le_of_ble_eq_true rfl) dL_layers_252 ⟨Nat.le_of_ble_eq_true rfl, Nat.le_of_ble_eq_true rfl⟩ ?_
  show zW p l e rmL_layers s m args below meth c 117 1539 Q G.1 A 1 (zWL G (zd dL31_) (zd dT9_) (zd dE18_) (zd dV16_) (zd dM17_) (zd dK9_)) [(0, .ref (G.2.2 0 0))] 255 [.int 1]
  refine zi_if_eq (pc := 255) (tgt := 363) F dL_layers_255 (by decide) (fun h => absurd h (by decide)) (fun _ => ?_)
  refine zi_aload_n (pc := 258) F dL_layers_258 0 rfl ?_
  refine zi_iconst (pc := 259) (v := 1) F dL_layers_259 rfl ?_
  refine zi_iconst (pc := 260) (v := 2) F dL_layers_260 rfl ?_
  refine zi_iconst (pc := 261) (v := 2) F dL_layers_261 rfl ?_
  refine zi_iconst (pc := 262) (v := 3) F dL_layers_262 rfl ?_
  refine zi_iconst (pc := 263) (v := 1) F dL_layers_263 rfl ?_
  refine zi_callQI (pc := 264) (rest := []) (ws' := zWL G (zd dL31_) (zd dT9_) (zd dE18_) (zd dV17_) (zd dM17_) (zd dK9_)) F hsx hao (c_L_is l hfl G ev141_ ev142_ ev143_ okdT9_) (va_cwS 6 F.1.2.2.2.2 gL_layers_L_is rfl rfl rfl hd_L_is ⟨Nat.le_of_ble_eq_true rfl, Nat.le_of_ble_eq_true rfl⟩) [] [] (zw_nil _) (zw_nil _).symm rfl rfl (Nat.le_of_ble_eq_true rfl) dL_layers_264 ⟨Nat.le_of_ble_eq_true rfl, Nat.le_of_ble_eq_true rfl⟩ ?_
  show zW p l e rmL_layers s m args below meth c 120 1557 Q G.1 A 1 (zWL G (zd dL31_) (zd dT9_) (zd dE18_) (zd dV17_) (zd dM17_) (zd dK9_)) [(0, .ref (G.2.2 0 0))] 267 [.int 1]
  refine zi_if_eq (pc := 267) (tgt := 363) F dL_layers_267 (by decide) (fun h => absurd h (by decide)) (fun _ => ?_)
  refine zi_aload_n (pc := 270) F dL_layers_270 0 rfl ?_
  refine zi_iconst (pc := 271) (v := 0) F dL_layers_271 rfl ?_
  refine zi_iconst (pc := 272) (v := 0) F dL_layers_272 rfl ?_
  refine zi_iconst (pc := 273) (v := 1) F dL_layers_273 rfl ?_
  refine zi_callQI (pc := 274) (rest := []) (ws' := zWL G (zd dL33_) (zd dT10_) (zd dE20_) (zd dV18_) (zd dM19_) (zd dK10_)) F hsx hao (c_L_lay l hfl G ev144_ ev145_ ev146_ ev147_ okdT9_ okdE18_ okdM17_ okdE19_ okdM18_) (va_cwS 4 F.1.2.2.2.2 gL_layers_L_lay rfl rfl rfl hd_L_lay ⟨Nat.le_of_ble_eq_true rfl, Nat.le_of_ble_eq_true rfl⟩) [] [] (zw_nil _) (zw_nil _).symm rfl rfl (Nat.le_of_ble_eq_true rfl) dL_layers_274 ⟨Nat.le_of_ble_eq_true rfl, Nat.le_of_ble_eq_true rfl⟩ ?_
  show zW p l e rmL_layers s m args below meth c 123 1575 Q G.1 A 1 (zWL G (zd dL33_) (zd dT10_) (zd dE20_) (zd dV18_) (zd dM19_) (zd dK10_)) [(0, .ref (G.2.2 0 0))] 277 [.int 1]
  refine zi_if_eq (pc := 277) (tgt := 363) F dL_layers_277 (by decide) (fun h => absurd h (by decide)) (fun _ => ?_)
  refine zi_aload_n (pc := 280) F dL_layers_280 0 rfl ?_
  refine zi_bipush (pc := 281) (v := 7) F dL_layers_281 rfl ?_
  refine zi_iconst (pc := 283) (v := 1) F dL_layers_283 rfl ?_
  refine zi_iconst (pc := 284) (v := 2) F dL_layers_284 rfl ?_
  refine zi_iconst (pc := 285) (v := 1) F dL_layers_285 rfl ?_
  refine zi_iconst (pc := 286) (v := 2) F dL_layers_286 rfl ?_
  refine zi_callQI (pc := 287) (rest := []) (ws' := zWL G (zd dL33_) (zd dT10_) (zd dE20_) (zd dV19_) (zd dM19_) (zd dK10_)) F hsx hao (c_L_is l hfl G ev148_ ev149_ ev150_ okdT10_) (va_cwS 6 F.1.2.2.2.2 gL_layers_L_is rfl rfl rfl hd_L_is ⟨Nat.le_of_ble_eq_true rfl, Nat.le_of_ble_eq_true rfl⟩) [] [] (zw_nil _) (zw_nil _).symm rfl rfl (Nat.le_of_ble_eq_true rfl) dL_layers_287 ⟨Nat.le_of_ble_eq_true rfl, Nat.le_of_ble_eq_true rfl⟩ ?_
  show zW p l e rmL_layers s m args below meth c 126 1593 Q G.1 A 1 (zWL G (zd dL33_) (zd dT10_) (zd dE20_) (zd dV19_) (zd dM19_) (zd dK10_)) [(0, .ref (G.2.2 0 0))] 290 [.int 1]
  refine zi_if_eq (pc := 290) (tgt := 363) F dL_layers_290 (by decide) (fun h => absurd h (by decide)) (fun _ => ?_)
  refine zi_aload_n (pc := 293) F dL_layers_293 0 rfl ?_
  refine zi_bipush (pc := 294) (v := 7) F dL_layers_294 rfl ?_
  refine zi_iconst (pc := 296) (v := 5) F dL_layers_296 rfl ?_
  refine zi_iconst (pc := 297) (v := 2) F dL_layers_297 rfl ?_
  refine zi_iconst (pc := 298) (v := 2) F dL_layers_298 rfl ?_
  refine zi_iconst (pc := 299) (v := 2) F dL_layers_299 rfl ?_
  refine zi_callQI (pc := 300) (rest := []) (ws' := zWL G (zd dL33_) (zd dT10_) (zd dE20_) (zd dV18_) (zd dM19_) (zd dK10_)) F hsx hao (c_L_is l hfl G ev151_ ev152_ ev153_ okdT10_) (va_cwS 6 F.1.2.2.2.2 gL_layers_L_is rfl rfl rfl hd_L_is ⟨Nat.le_of_ble_eq_true rfl, Nat.le_of_ble_eq_true rfl⟩) [] [] (zw_nil _) (zw_nil _).symm rfl rfl (Nat.le_of_ble_eq_true rfl) dL_layers_300 ⟨Nat.le_of_ble_eq_true rfl, Nat.le_of_ble_eq_true rfl⟩ ?_
  show zW p l e rmL_layers s m args below meth c 129 1611 Q G.1 A 1 (zWL G (zd dL33_) (zd dT10_) (zd dE20_) (zd dV18_) (zd dM19_) (zd dK10_)) [(0, .ref (G.2.2 0 0))] 303 [.int 1]
  refine zi_if_eq (pc := 303) (tgt := 363) F dL_layers_303 (by decide) (fun h => absurd h (by decide)) (fun _ => ?_)
  refine zi_aload_n (pc := 306) F dL_layers_306 0 rfl ?_
  refine zi_iconst (pc := 307) (v := 2) F dL_layers_307 rfl ?_
  refine zr_power (pc := 308) hfl F hsx ev154_ okdT10_ (cwV 1 F.1.2.2.2.2 gL_layers_X4_power rfl rfl rfl hd_X4_power ⟨Nat.le_of_ble_eq_true rfl, Nat.le_of_ble_eq_true rfl⟩) (Nat.le_of_ble_eq_true rfl) dL_layers_308 ⟨Nat.le_of_ble_eq_true rfl, Nat.le_of_ble_eq_true rfl⟩ ?_
  show zW p l e rmL_layers s m args below meth c 130 1617 Q G.1 A 1 (zWL G (zd dL33_) (zd dT10_) (zd dE20_) (zd dV18_) (zd dM19_) (zd dK10_)) [(0, .ref (G.2.2 0 0))] 311 [.int 8]
  refine zi_bipush (pc := 311) (v := 8) F dL_layers_311 rfl ?_
  refine zi_icmp_ne (pc := 313) (tgt := 363) F dL_layers_313 (by decide) (fun h => absurd h (by decide)) (fun _ => ?_)
  refine zi_aload_n (pc := 316) F dL_layers_316 0 rfl ?_
  refine zi_bipush (pc := 317) (v := 12) F dL_layers_317 rfl ?_
  refine zi_iconst (pc := 319) (v := 1) F dL_layers_319 rfl ?_
  refine zr_play (pc := 320) hfl F hsx ev155_ okdT10_ okdE20_ okdM19_ (cwV 2 F.1.2.2.2.2 gL_layers_X4_play rfl rfl rfl hd_X4_play ⟨Nat.le_of_ble_eq_true rfl, Nat.le_of_ble_eq_true rfl⟩) (Nat.le_of_ble_eq_true rfl) dL_layers_320 ⟨Nat.le_of_ble_eq_true rfl, Nat.le_of_ble_eq_true rfl⟩ ?_
  show zW p l e rmL_layers s m args below meth c 131 1623 Q G.1 A 1 (zWL G (zd dL34_) (zd dT10_) (zd dE21_) (zd dV18_) (zd dM20_) (zd dK10_)) [(0, .ref (G.2.2 0 0))] 323 [.int 1]
  refine zi_iconst (pc := 323) (v := 1) F dL_layers_323 rfl ?_
  refine zi_icmp_ne (pc := 324) (tgt := 363) F dL_layers_324 (by decide) (fun h => absurd h (by decide)) (fun _ => ?_)
  refine zi_aload_n (pc := 327) F dL_layers_327 0 rfl ?_
  refine zi_iconst (pc := 328) (v := 0) F dL_layers_328 rfl ?_
  refine zr_entryTarget (pc := 329) hfl F hsx ev156_ okdT10_ okdE21_ (cwV 1 F.1.2.2.2.2 gL_layers_X4_entryTarget rfl rfl rfl hd_X4_entryTarget ⟨Nat.le_of_ble_eq_true rfl, Nat.le_of_ble_eq_true rfl⟩) (Nat.le_of_ble_eq_true rfl) dL_layers_329 ⟨Nat.le_of_ble_eq_true rfl, Nat.le_of_ble_eq_true rfl⟩ ?_
  show zW p l e rmL_layers s m args below meth c 132 1629 Q G.1 A 1 (zWL G (zd dL34_) (zd dT10_) (zd dE21_) (zd dV18_) (zd dM20_) (zd dK10_)) [(0, .ref (G.2.2 0 0))] 332 [.int 1]
  refine zi_iconst (pc := 332) (v := 1) F dL_layers_332 rfl ?_
  refine zi_icmp_ne (pc := 333) (tgt := 363) F dL_layers_333 (by decide) (fun h => absurd h (by decide)) (fun _ => ?_)
  exact kk
set_option maxHeartbeats 4000000 in
set_option maxRecDepth 100000 in
theorem sg_layers_3 {p : Program} {l : Launch} {e : Env} {s : State} {m : MethodId} {args : Array Value} {below : List Frame} {meth : Method} {c : Code} {Q : State → Prop} {A : Nat → Prop} {G : zG_t} (hfl : l.stackTraces = false) (F : zF p m c cL_layers 1 s args wsL_layers RL G.1 (zty G) A) (hsx : zSx s) (hao : zAOA s) (kk : zW p l e rmL_layers s m args below meth c 137 1659 Q G.1 A 1 (zWL G (zd dL40_) (zd dT11_) (zd dE24_) (zd dV18_) (zd dM21_) (zd dK11_)) [(0, .ref (G.2.2 0 0))] 426 []) : zW p l e rmL_layers s m args below meth c 132 1629 Q G.1 A 1 (zWL G (zd dL34_) (zd dT10_) (zd dE21_) (zd dV18_) (zd dM20_) (zd dK10_)) [(0, .ref (G.2.2 0 0))] 336 [] := by
  refine zi_aload_n (pc := 336) F dL_layers_336 0 rfl ?_
  refine zi_bipush (pc := 337) (v := 9) F dL_layers_337 rfl ?_
  refine zr_settle (pc := 339) hfl F hsx ev157_ okdT10_ okdE21_ okdM20_ (cwV 1 F.1.2.2.2.2 gL_layers_X4_settle rfl rfl rfl hd_X4_settle ⟨Nat.le_of_ble_eq_true rfl, Nat.le_of_ble_eq_true rfl⟩) (Nat.le_of_ble_eq_true rfl) dL_layers_339 ⟨Nat.le_of_ble_eq_true rfl, Nat.le_of_ble_eq_true rfl⟩ ?_
  show zW p l e rmL_layers s m args below meth c 133 1635 Q G.1 A 1 (zWL G (zd dL35_) (zd dT10_) (zd dE22_) (zd dV18_) (zd dM19_) (zd dK10_)) [(0, .ref (G.2.2 0 0))] 342 [.int 1]
  refine zi_iconst (pc := 342) (v := 1) F dL_layers_342 rfl ?_
  refine zi_icmp_ne (pc := 343) (tgt := 363) F dL_layers_343 (by decide) (fun h => absurd h (by decide)) (fun _ => ?_)
  refine zi_aload_n (pc := 346) F dL_layers_346 0 rfl ?_
  refine zr_things (pc := 347) hfl F hsx ev158_  (cwV 0 F.1.2.2.2.2 gL_layers_X4_things rfl rfl rfl hd_X4_things ⟨Nat.le_of_ble_eq_true rfl, Nat.le_of_ble_eq_true rfl⟩) (Nat.le_of_ble_eq_true rfl) dL_layers_347 ⟨Nat.le_of_ble_eq_true rfl, Nat.le_of_ble_eq_true rfl⟩ ?_
  show zW p l e rmL_layers s m args below meth c 133 1635 Q G.1 A 1 (zWL G (zd dL35_) (zd dT10_) (zd dE22_) (zd dV18_) (zd dM19_) (zd dK10_)) [(0, .ref (G.2.2 0 0))] 350 [.int 8]
  refine zi_bipush (pc := 350) (v := 8) F dL_layers_350 rfl ?_
  refine zi_icmp_ne (pc := 352) (tgt := 363) F dL_layers_352 (by decide) (fun h => absurd h (by decide)) (fun _ => ?_)
  refine zi_aload_n (pc := 355) F dL_layers_355 0 rfl ?_
  refine zi_iconst (pc := 356) (v := 2) F dL_layers_356 rfl ?_
  refine zr_coins (pc := 357) hfl F hsx ev159_  (cwV 1 F.1.2.2.2.2 gL_layers_X4_coins rfl rfl rfl hd_X4_coins ⟨Nat.le_of_ble_eq_true rfl, Nat.le_of_ble_eq_true rfl⟩) (Nat.le_of_ble_eq_true rfl) dL_layers_357 ⟨Nat.le_of_ble_eq_true rfl, Nat.le_of_ble_eq_true rfl⟩ ?_
  show zW p l e rmL_layers s m args below meth c 134 1641 Q G.1 A 1 (zWL G (zd dL35_) (zd dT10_) (zd dE22_) (zd dV18_) (zd dM19_) (zd dK10_)) [(0, .ref (G.2.2 0 0))] 360 [.int 0]
  refine zi_if_eq (pc := 360) (tgt := 365) F dL_layers_360 (by decide) (fun _ => ?_) (fun h => absurd h (by decide))
  refine zi_aload_n (pc := 365) F dL_layers_365 0 rfl ?_
  refine zi_callQI (pc := 366) (rest := []) (ws' := zWL G (zd dL38_) (zd dT10_) (zd dE22_) (zd dV18_) (zd dM20_) (zd dK10_)) F hsx hao (c_L_round l hfl G ev160_ ev161_ ev162_ okdT10_ okdE22_ okdM19_ okdT10_ okdE22_ okdM19_ okdT10_ okdE22_ okdM19_) (va_cwS 1 F.1.2.2.2.2 gL_layers_L_round rfl rfl rfl hd_L_round ⟨Nat.le_of_ble_eq_true rfl, Nat.le_of_ble_eq_true rfl⟩) [] [] (zw_nil _) (zw_nil _).symm rfl rfl (Nat.le_of_ble_eq_true rfl) dL_layers_366 ⟨Nat.le_of_ble_eq_true rfl, Nat.le_of_ble_eq_true rfl⟩ ?_
  show zW p l e rmL_layers s m args below meth c 134 1641 Q G.1 A 1 (zWL G (zd dL38_) (zd dT10_) (zd dE22_) (zd dV18_) (zd dM20_) (zd dK10_)) [(0, .ref (G.2.2 0 0))] 369 [.int 2]
  refine zi_iconst (pc := 369) (v := 2) F dL_layers_369 rfl ?_
  refine zi_icmp_ne (pc := 370) (tgt := 499) F dL_layers_370 (by decide) (fun h => absurd h (by decide)) (fun _ => ?_)
  refine zi_aload_n (pc := 373) F dL_layers_373 0 rfl ?_
  refine zr_turn (pc := 374) hfl F hsx ev163_  (cwV 0 F.1.2.2.2.2 gL_layers_X4_turn rfl rfl rfl hd_X4_turn ⟨Nat.le_of_ble_eq_true rfl, Nat.le_of_ble_eq_true rfl⟩) (Nat.le_of_ble_eq_true rfl) dL_layers_374 ⟨Nat.le_of_ble_eq_true rfl, Nat.le_of_ble_eq_true rfl⟩ ?_
  show zW p l e rmL_layers s m args below meth c 134 1641 Q G.1 A 1 (zWL G (zd dL38_) (zd dT10_) (zd dE22_) (zd dV18_) (zd dM20_) (zd dK10_)) [(0, .ref (G.2.2 0 0))] 377 [.int 0]
  refine zi_if_ne (pc := 377) (tgt := 499) F dL_layers_377 (by decide) (fun h => absurd h (by decide)) (fun _ => ?_)
  refine zi_aload_n (pc := 380) F dL_layers_380 0 rfl ?_
  refine zr_stack (pc := 381) hfl F hsx ev164_  (cwV 0 F.1.2.2.2.2 gL_layers_X4_stack rfl rfl rfl hd_X4_stack ⟨Nat.le_of_ble_eq_true rfl, Nat.le_of_ble_eq_true rfl⟩) (Nat.le_of_ble_eq_true rfl) dL_layers_381 ⟨Nat.le_of_ble_eq_true rfl, Nat.le_of_ble_eq_true rfl⟩ ?_
  show zW p l e rmL_layers s m args below meth c 134 1641 Q G.1 A 1 (zWL G (zd dL38_) (zd dT10_) (zd dE22_) (zd dV18_) (zd dM20_) (zd dK10_)) [(0, .ref (G.2.2 0 0))] 384 [.int 0]
  refine zi_if_ne (pc := 384) (tgt := 499) F dL_layers_384 (by decide) (fun h => absurd h (by decide)) (fun _ => ?_)
  refine zi_aload_n (pc := 387) F dL_layers_387 0 rfl ?_
  refine zi_iconst (pc := 388) (v := 0) F dL_layers_388 rfl ?_
  refine zr_coins (pc := 389) hfl F hsx ev165_  (cwV 1 F.1.2.2.2.2 gL_layers_X4_coins rfl rfl rfl hd_X4_coins ⟨Nat.le_of_ble_eq_true rfl, Nat.le_of_ble_eq_true rfl⟩) (Nat.le_of_ble_eq_true rfl) dL_layers_389 ⟨Nat.le_of_ble_eq_true rfl, Nat.le_of_ble_eq_true rfl⟩ ?_
  show zW p l e rmL_layers s m args below meth c 135 1647 Q G.1 A 1 (zWL G (zd dL38_) (zd dT10_) (zd dE22_) (zd dV18_) (zd dM20_) (zd dK10_)) [(0, .ref (G.2.2 0 0))] 392 [.int 4]
  refine zi_iconst (pc := 392) (v := 4) F dL_layers_392 rfl ?_
  refine zi_icmp_ne (pc := 393) (tgt := 499) F dL_layers_393 (by decide) (fun h => absurd h (by decide)) (fun _ => ?_)
  refine zi_aload_n (pc := 396) F dL_layers_396 0 rfl ?_
  refine zi_bipush (pc := 397) (v := 12) F dL_layers_397 rfl ?_
  refine zi_bipush (pc := 399) (v := 7) F dL_layers_399 rfl ?_
  refine zr_play (pc := 401) hfl F hsx ev166_ okdT10_ okdE22_ okdM20_ (cwV 2 F.1.2.2.2.2 gL_layers_X4_play rfl rfl rfl hd_X4_play ⟨Nat.le_of_ble_eq_true rfl, Nat.le_of_ble_eq_true rfl⟩) (Nat.le_of_ble_eq_true rfl) dL_layers_401 ⟨Nat.le_of_ble_eq_true rfl, Nat.le_of_ble_eq_true rfl⟩ ?_
  show zW p l e rmL_layers s m args below meth c 136 1653 Q G.1 A 1 (zWL G (zd dL39_) (zd dT10_) (zd dE23_) (zd dV18_) (zd dM20_) (zd dK10_)) [(0, .ref (G.2.2 0 0))] 404 [.int 1]
  refine zi_iconst (pc := 404) (v := 1) F dL_layers_404 rfl ?_
  refine zi_icmp_ne (pc := 405) (tgt := 499) F dL_layers_405 (by decide) (fun h => absurd h (by decide)) (fun _ => ?_)
  refine zi_aload_n (pc := 408) F dL_layers_408 0 rfl ?_
  refine zi_iconst (pc := 409) (v := 1) F dL_layers_409 rfl ?_
  refine zr_settle (pc := 410) hfl F hsx ev167_ okdT10_ okdE23_ okdM20_ (cwV 1 F.1.2.2.2.2 gL_layers_X4_settle rfl rfl rfl hd_X4_settle ⟨Nat.le_of_ble_eq_true rfl, Nat.le_of_ble_eq_true rfl⟩) (Nat.le_of_ble_eq_true rfl) dL_layers_410 ⟨Nat.le_of_ble_eq_true rfl, Nat.le_of_ble_eq_true rfl⟩ ?_
  show zW p l e rmL_layers s m args below meth c 137 1659 Q G.1 A 1 (zWL G (zd dL40_) (zd dT11_) (zd dE24_) (zd dV18_) (zd dM21_) (zd dK11_)) [(0, .ref (G.2.2 0 0))] 413 [.int 1]
  refine zi_iconst (pc := 413) (v := 1) F dL_layers_413 rfl ?_
  refine zi_icmp_ne (pc := 414) (tgt := 499) F dL_layers_414 (by decide) (fun h => absurd h (by decide)) (fun _ => ?_)
  refine zi_aload_n (pc := 417) F dL_layers_417 0 rfl ?_
  refine zr_things (pc := 418) hfl F hsx ev168_  (cwV 0 F.1.2.2.2.2 gL_layers_X4_things rfl rfl rfl hd_X4_things ⟨Nat.le_of_ble_eq_true rfl, Nat.le_of_ble_eq_true rfl⟩) (Nat.le_of_ble_eq_true rfl) dL_layers_418 ⟨Nat.le_of_ble_eq_true rfl, Nat.le_of_ble_eq_true rfl⟩ ?_
  show zW p l e rmL_layers s m args below meth c 137 1659 Q G.1 A 1 (zWL G (zd dL40_) (zd dT11_) (zd dE24_) (zd dV18_) (zd dM21_) (zd dK11_)) [(0, .ref (G.2.2 0 0))] 421 [.int 7]
  refine zi_bipush (pc := 421) (v := 7) F dL_layers_421 rfl ?_
  refine zi_icmp_ne (pc := 423) (tgt := 499) F dL_layers_423 (by decide) (fun h => absurd h (by decide)) (fun _ => ?_)
  exact kk
set_option maxHeartbeats 4000000 in
set_option maxRecDepth 100000 in
theorem sg_layers_4 {p : Program} {l : Launch} {e : Env} {s : State} {m : MethodId} {args : Array Value} {below : List Frame} {meth : Method} {c : Code} {Q : State → Prop} {A : Nat → Prop} {G : zG_t} (hfl : l.stackTraces = false) (F : zF p m c cL_layers 1 s args wsL_layers RL G.1 (zty G) A) (hsx : zSx s) (hao : zAOA s) (kk : zW p l e rmL_layers s m args below meth c 217 2139 Q G.1 A 1 (zWL G (zd dL45_) (zd dT12_) (zd dE26_) (zd dV20_) (zd dM24_) (zd dK12_)) [(0, .ref (G.2.2 0 0))] 516 []) : zW p l e rmL_layers s m args below meth c 137 1659 Q G.1 A 1 (zWL G (zd dL40_) (zd dT11_) (zd dE24_) (zd dV18_) (zd dM21_) (zd dK11_)) [(0, .ref (G.2.2 0 0))] 426 [] := by
  refine zi_aload_n (pc := 426) F dL_layers_426 0 rfl ?_
  refine zi_bipush (pc := 427) (v := 12) F dL_layers_427 rfl ?_
  refine zi_iconst (pc := 429) (v := 0) F dL_layers_429 rfl ?_
  refine zr_play (pc := 430) hfl F hsx ev169_ okdT11_ okdE24_ okdM21_ (cwV 2 F.1.2.2.2.2 gL_layers_X4_play rfl rfl rfl hd_X4_play ⟨Nat.le_of_ble_eq_true rfl, Nat.le_of_ble_eq_true rfl⟩) (Nat.le_of_ble_eq_true rfl) dL_layers_430 ⟨Nat.le_of_ble_eq_true rfl, Nat.le_of_ble_eq_true rfl⟩ ?_
  show zW p l e rmL_layers s m args below meth c 138 1665 Q G.1 A 1 (zWL G (zd dL41_) (zd dT11_) (zd dE25_) (zd dV18_) (zd dM22_) (zd dK11_)) [(0, .ref (G.2.2 0 0))] 433 [.int 1]
  refine zi_iconst (pc := 433) (v := 1) F dL_layers_433 rfl ?_
  refine zi_icmp_ne (pc := 434) (tgt := 499) F dL_layers_434 (by decide) (fun h => absurd h (by decide)) (fun _ => ?_)
  refine zi_aload_n (pc := 437) F dL_layers_437 0 rfl ?_
  refine zi_iconst (pc := 438) (v := 0) F dL_layers_438 rfl ?_
  refine zr_entryTarget (pc := 439) hfl F hsx ev170_ okdT11_ okdE25_ (cwV 1 F.1.2.2.2.2 gL_layers_X4_entryTarget rfl rfl rfl hd_X4_entryTarget ⟨Nat.le_of_ble_eq_true rfl, Nat.le_of_ble_eq_true rfl⟩) (Nat.le_of_ble_eq_true rfl) dL_layers_439 ⟨Nat.le_of_ble_eq_true rfl, Nat.le_of_ble_eq_true rfl⟩ ?_
  show zW p l e rmL_layers s m args below meth c 139 1671 Q G.1 A 1 (zWL G (zd dL41_) (zd dT11_) (zd dE25_) (zd dV18_) (zd dM22_) (zd dK11_)) [(0, .ref (G.2.2 0 0))] 442 [.int 0]
  refine zi_if_ne (pc := 442) (tgt := 499) F dL_layers_442 (by decide) (fun h => absurd h (by decide)) (fun _ => ?_)
  refine zi_aload_n (pc := 445) F dL_layers_445 0 rfl ?_
  refine zi_iconst (pc := 446) (v := 1) F dL_layers_446 rfl ?_
  refine zr_settle (pc := 447) hfl F hsx ev171_ okdT11_ okdE25_ okdM22_ (cwV 1 F.1.2.2.2.2 gL_layers_X4_settle rfl rfl rfl hd_X4_settle ⟨Nat.le_of_ble_eq_true rfl, Nat.le_of_ble_eq_true rfl⟩) (Nat.le_of_ble_eq_true rfl) dL_layers_447 ⟨Nat.le_of_ble_eq_true rfl, Nat.le_of_ble_eq_true rfl⟩ ?_
  show zW p l e rmL_layers s m args below meth c 140 1677 Q G.1 A 1 (zWL G (zd dL42_) (zd dT12_) (zd dE26_) (zd dV20_) (zd dM23_) (zd dK12_)) [(0, .ref (G.2.2 0 0))] 450 [.int 1]
  refine zi_iconst (pc := 450) (v := 1) F dL_layers_450 rfl ?_
  refine zi_icmp_ne (pc := 451) (tgt := 499) F dL_layers_451 (by decide) (fun h => absurd h (by decide)) (fun _ => ?_)
  refine zi_aload_n (pc := 454) F dL_layers_454 0 rfl ?_
  refine zr_things (pc := 455) hfl F hsx ev172_  (cwV 0 F.1.2.2.2.2 gL_layers_X4_things rfl rfl rfl hd_X4_things ⟨Nat.le_of_ble_eq_true rfl, Nat.le_of_ble_eq_true rfl⟩) (Nat.le_of_ble_eq_true rfl) dL_layers_455 ⟨Nat.le_of_ble_eq_true rfl, Nat.le_of_ble_eq_true rfl⟩ ?_
  show zW p l e rmL_layers s m args below meth c 140 1677 Q G.1 A 1 (zWL G (zd dL42_) (zd dT12_) (zd dE26_) (zd dV20_) (zd dM23_) (zd dK12_)) [(0, .ref (G.2.2 0 0))] 458 [.int 6]
  refine zi_bipush (pc := 458) (v := 6) F dL_layers_458 rfl ?_
  refine zi_icmp_ne (pc := 460) (tgt := 499) F dL_layers_460 (by decide) (fun h => absurd h (by decide)) (fun _ => ?_)
  refine zi_aload_n (pc := 463) F dL_layers_463 0 rfl ?_
  refine zi_iconst (pc := 464) (v := 0) F dL_layers_464 rfl ?_
  refine zr_cardOf (pc := 465) hfl F hsx ev173_ okdT12_ (cwV 1 F.1.2.2.2.2 gL_layers_X4_cardOf rfl rfl rfl hd_X4_cardOf ⟨Nat.le_of_ble_eq_true rfl, Nat.le_of_ble_eq_true rfl⟩) (Nat.le_of_ble_eq_true rfl) dL_layers_465 ⟨Nat.le_of_ble_eq_true rfl, Nat.le_of_ble_eq_true rfl⟩ ?_
  show zW p l e rmL_layers s m args below meth c 141 1683 Q G.1 A 1 (zWL G (zd dL42_) (zd dT12_) (zd dE26_) (zd dV20_) (zd dM23_) (zd dK12_)) [(0, .ref (G.2.2 0 0))] 468 [.int 1]
  refine zi_iconst (pc := 468) (v := 1) F dL_layers_468 rfl ?_
  refine zi_icmp_ne (pc := 469) (tgt := 499) F dL_layers_469 (by decide) (fun h => absurd h (by decide)) (fun _ => ?_)
  refine zi_aload_n (pc := 472) F dL_layers_472 0 rfl ?_
  refine zi_iconst (pc := 473) (v := 0) F dL_layers_473 rfl ?_
  refine zi_iconst (pc := 474) (v := 5) F dL_layers_474 rfl ?_
  refine zi_iconst (pc := 475) (v := 2) F dL_layers_475 rfl ?_
  refine zi_iconst (pc := 476) (v := 2) F dL_layers_476 rfl ?_
  refine zi_iconst (pc := 477) (v := 1) F dL_layers_477 rfl ?_
  refine zi_callQI (pc := 478) (rest := []) (ws' := zWL G (zd dL42_) (zd dT12_) (zd dE26_) (zd dV20_) (zd dM23_) (zd dK12_)) F hsx hao (c_L_is l hfl G ev174_ ev175_ ev176_ okdT12_) (va_cwS 6 F.1.2.2.2.2 gL_layers_L_is rfl rfl rfl hd_L_is ⟨Nat.le_of_ble_eq_true rfl, Nat.le_of_ble_eq_true rfl⟩) [] [] (zw_nil _) (zw_nil _).symm rfl rfl (Nat.le_of_ble_eq_true rfl) dL_layers_478 ⟨Nat.le_of_ble_eq_true rfl, Nat.le_of_ble_eq_true rfl⟩ ?_
  show zW p l e rmL_layers s m args below meth c 144 1701 Q G.1 A 1 (zWL G (zd dL42_) (zd dT12_) (zd dE26_) (zd dV20_) (zd dM23_) (zd dK12_)) [(0, .ref (G.2.2 0 0))] 481 [.int 1]
  refine zi_if_eq (pc := 481) (tgt := 499) F dL_layers_481 (by decide) (fun h => absurd h (by decide)) (fun _ => ?_)
  refine zi_aload_n (pc := 484) F dL_layers_484 0 rfl ?_
  refine zi_iconst (pc := 485) (v := 2) F dL_layers_485 rfl ?_
  refine zr_power (pc := 486) hfl F hsx ev177_ okdT12_ (cwV 1 F.1.2.2.2.2 gL_layers_X4_power rfl rfl rfl hd_X4_power ⟨Nat.le_of_ble_eq_true rfl, Nat.le_of_ble_eq_true rfl⟩) (Nat.le_of_ble_eq_true rfl) dL_layers_486 ⟨Nat.le_of_ble_eq_true rfl, Nat.le_of_ble_eq_true rfl⟩ ?_
  show zW p l e rmL_layers s m args below meth c 145 1707 Q G.1 A 1 (zWL G (zd dL42_) (zd dT12_) (zd dE26_) (zd dV20_) (zd dM23_) (zd dK12_)) [(0, .ref (G.2.2 0 0))] 489 [.int 0]
  refine zi_if_ne (pc := 489) (tgt := 499) F dL_layers_489 (by decide) (fun h => absurd h (by decide)) (fun _ => ?_)
  refine zi_aload_n (pc := 492) F dL_layers_492 0 rfl ?_
  refine zi_callQI (pc := 493) (rest := []) (ws' := zWL G (zd dL42_) (zd dT12_) (zd dE26_) (zd dV20_) (zd dM23_) (zd dK12_)) F hsx hao (c_L_refuses l hfl G (zd dL42_) (zd dT12_) (zd dE26_) (zd dV20_) (zd dM23_) (zd dK12_) okdT12_ okdE26_ okdM23_) (va_cwS 1 F.1.2.2.2.2 gL_layers_L_refuses rfl rfl rfl hd_L_refuses ⟨Nat.le_of_ble_eq_true rfl, Nat.le_of_ble_eq_true rfl⟩) [] [] (zw_nil _) (zw_nil _).symm rfl rfl (Nat.le_of_ble_eq_true rfl) dL_layers_493 ⟨Nat.le_of_ble_eq_true rfl, Nat.le_of_ble_eq_true rfl⟩ ?_
  show zW p l e rmL_layers s m args below meth c 217 2139 Q G.1 A 1 (zWL G (zd dL42_) (zd dT12_) (zd dE26_) (zd dV20_) (zd dM23_) (zd dK12_)) [(0, .ref (G.2.2 0 0))] 496 [.int 1]
  refine zi_if_ne (pc := 496) (tgt := 501) F dL_layers_496 (by decide) (fun _ => ?_) (fun h => absurd h (by decide))
  refine zi_aload_n (pc := 501) F dL_layers_501 0 rfl ?_
  refine zi_callQI (pc := 502) (rest := []) (ws' := zWL G (zd dL45_) (zd dT12_) (zd dE26_) (zd dV20_) (zd dM24_) (zd dK12_)) F hsx hao (c_L_round l hfl G ev178_ ev179_ ev180_ okdT12_ okdE26_ okdM23_ okdT12_ okdE26_ okdM23_ okdT12_ okdE26_ okdM23_) (va_cwS 1 F.1.2.2.2.2 gL_layers_L_round rfl rfl rfl hd_L_round ⟨Nat.le_of_ble_eq_true rfl, Nat.le_of_ble_eq_true rfl⟩) [] [] (zw_nil _) (zw_nil _).symm rfl rfl (Nat.le_of_ble_eq_true rfl) dL_layers_502 ⟨Nat.le_of_ble_eq_true rfl, Nat.le_of_ble_eq_true rfl⟩ ?_
  show zW p l e rmL_layers s m args below meth c 217 2139 Q G.1 A 1 (zWL G (zd dL45_) (zd dT12_) (zd dE26_) (zd dV20_) (zd dM24_) (zd dK12_)) [(0, .ref (G.2.2 0 0))] 505 [.int 2]
  refine zi_iconst (pc := 505) (v := 2) F dL_layers_505 rfl ?_
  refine zi_icmp_ne (pc := 506) (tgt := 631) F dL_layers_506 (by decide) (fun h => absurd h (by decide)) (fun _ => ?_)
  refine zi_aload_n (pc := 509) F dL_layers_509 0 rfl ?_
  refine zr_stack (pc := 510) hfl F hsx ev181_  (cwV 0 F.1.2.2.2.2 gL_layers_X4_stack rfl rfl rfl hd_X4_stack ⟨Nat.le_of_ble_eq_true rfl, Nat.le_of_ble_eq_true rfl⟩) (Nat.le_of_ble_eq_true rfl) dL_layers_510 ⟨Nat.le_of_ble_eq_true rfl, Nat.le_of_ble_eq_true rfl⟩ ?_
  show zW p l e rmL_layers s m args below meth c 217 2139 Q G.1 A 1 (zWL G (zd dL45_) (zd dT12_) (zd dE26_) (zd dV20_) (zd dM24_) (zd dK12_)) [(0, .ref (G.2.2 0 0))] 513 [.int 0]
  refine zi_if_ne (pc := 513) (tgt := 631) F dL_layers_513 (by decide) (fun h => absurd h (by decide)) (fun _ => ?_)
  exact kk
set_option maxHeartbeats 4000000 in
set_option maxRecDepth 100000 in
theorem sg_layers_5 {p : Program} {l : Launch} {e : Env} {s : State} {m : MethodId} {args : Array Value} {below : List Frame} {meth : Method} {c : Code} {Q : State → Prop} {A : Nat → Prop} {G : zG_t} (hfl : l.stackTraces = false) (F : zF p m c cL_layers 1 s args wsL_layers RL G.1 (zty G) A) (hsx : zSx s) (hao : zAOA s) (kk : zW p l e rmL_layers s m args below meth c 223 2175 Q G.1 A 1 (zWL G (zd dL51_) (zd dT13_) (zd dE30_) (zd dV21_) (zd dM25_) (zd dK13_)) [(0, .ref (G.2.2 0 0))] 605 []) : zW p l e rmL_layers s m args below meth c 217 2139 Q G.1 A 1 (zWL G (zd dL45_) (zd dT12_) (zd dE26_) (zd dV20_) (zd dM24_) (zd dK12_)) [(0, .ref (G.2.2 0 0))] 516 [] := by
  refine zi_aload_n (pc := 516) F dL_layers_516 0 rfl ?_
  refine zi_callQI (pc := 517) (rest := []) (ws' := zWL G (zd dL48_) (zd dT12_) (zd dE27_) (zd dV20_) (zd dM24_) (zd dK12_)) F hsx hao (c_L_round l hfl G ev182_ ev183_ ev184_ okdT12_ okdE26_ okdM24_ okdT12_ okdE26_ okdM24_ okdT12_ okdE26_ okdM24_) (va_cwS 1 F.1.2.2.2.2 gL_layers_L_round rfl rfl rfl hd_L_round ⟨Nat.le_of_ble_eq_true rfl, Nat.le_of_ble_eq_true rfl⟩) [] [] (zw_nil _) (zw_nil _).symm rfl rfl (Nat.le_of_ble_eq_true rfl) dL_layers_517 ⟨Nat.le_of_ble_eq_true rfl, Nat.le_of_ble_eq_true rfl⟩ ?_
  show zW p l e rmL_layers s m args below meth c 217 2139 Q G.1 A 1 (zWL G (zd dL48_) (zd dT12_) (zd dE27_) (zd dV20_) (zd dM24_) (zd dK12_)) [(0, .ref (G.2.2 0 0))] 520 [.int 2]
  refine zi_iconst (pc := 520) (v := 2) F dL_layers_520 rfl ?_
  refine zi_icmp_ne (pc := 521) (tgt := 631) F dL_layers_521 (by decide) (fun h => absurd h (by decide)) (fun _ => ?_)
  refine zi_aload_n (pc := 524) F dL_layers_524 0 rfl ?_
  refine zr_turn (pc := 525) hfl F hsx ev185_  (cwV 0 F.1.2.2.2.2 gL_layers_X4_turn rfl rfl rfl hd_X4_turn ⟨Nat.le_of_ble_eq_true rfl, Nat.le_of_ble_eq_true rfl⟩) (Nat.le_of_ble_eq_true rfl) dL_layers_525 ⟨Nat.le_of_ble_eq_true rfl, Nat.le_of_ble_eq_true rfl⟩ ?_
  show zW p l e rmL_layers s m args below meth c 217 2139 Q G.1 A 1 (zWL G (zd dL48_) (zd dT12_) (zd dE27_) (zd dV20_) (zd dM24_) (zd dK12_)) [(0, .ref (G.2.2 0 0))] 528 [.int 2]
  refine zi_iconst (pc := 528) (v := 2) F dL_layers_528 rfl ?_
  refine zi_icmp_ne (pc := 529) (tgt := 631) F dL_layers_529 (by decide) (fun h => absurd h (by decide)) (fun _ => ?_)
  refine zi_aload_n (pc := 532) F dL_layers_532 0 rfl ?_
  refine zr_stack (pc := 533) hfl F hsx ev186_  (cwV 0 F.1.2.2.2.2 gL_layers_X4_stack rfl rfl rfl hd_X4_stack ⟨Nat.le_of_ble_eq_true rfl, Nat.le_of_ble_eq_true rfl⟩) (Nat.le_of_ble_eq_true rfl) dL_layers_533 ⟨Nat.le_of_ble_eq_true rfl, Nat.le_of_ble_eq_true rfl⟩ ?_
  show zW p l e rmL_layers s m args below meth c 217 2139 Q G.1 A 1 (zWL G (zd dL48_) (zd dT12_) (zd dE27_) (zd dV20_) (zd dM24_) (zd dK12_)) [(0, .ref (G.2.2 0 0))] 536 [.int 1]
  refine zi_iconst (pc := 536) (v := 1) F dL_layers_536 rfl ?_
  refine zi_icmp_ne (pc := 537) (tgt := 631) F dL_layers_537 (by decide) (fun h => absurd h (by decide)) (fun _ => ?_)
  refine zi_aload_n (pc := 540) F dL_layers_540 0 rfl ?_
  refine zi_iconst (pc := 541) (v := 0) F dL_layers_541 rfl ?_
  refine zr_entryPlayer (pc := 542) hfl F hsx ev187_ okdE27_ (cwV 1 F.1.2.2.2.2 gL_layers_X4_entryPlayer rfl rfl rfl hd_X4_entryPlayer ⟨Nat.le_of_ble_eq_true rfl, Nat.le_of_ble_eq_true rfl⟩) (Nat.le_of_ble_eq_true rfl) dL_layers_542 ⟨Nat.le_of_ble_eq_true rfl, Nat.le_of_ble_eq_true rfl⟩ ?_
  show zW p l e rmL_layers s m args below meth c 218 2145 Q G.1 A 1 (zWL G (zd dL48_) (zd dT12_) (zd dE27_) (zd dV20_) (zd dM24_) (zd dK12_)) [(0, .ref (G.2.2 0 0))] 545 [.int 2]
  refine zi_iconst (pc := 545) (v := 2) F dL_layers_545 rfl ?_
  refine zi_icmp_ne (pc := 546) (tgt := 631) F dL_layers_546 (by decide) (fun h => absurd h (by decide)) (fun _ => ?_)
  refine zi_aload_n (pc := 549) F dL_layers_549 0 rfl ?_
  refine zi_iconst (pc := 550) (v := 2) F dL_layers_550 rfl ?_
  refine zr_coins (pc := 551) hfl F hsx ev188_  (cwV 1 F.1.2.2.2.2 gL_layers_X4_coins rfl rfl rfl hd_X4_coins ⟨Nat.le_of_ble_eq_true rfl, Nat.le_of_ble_eq_true rfl⟩) (Nat.le_of_ble_eq_true rfl) dL_layers_551 ⟨Nat.le_of_ble_eq_true rfl, Nat.le_of_ble_eq_true rfl⟩ ?_
  show zW p l e rmL_layers s m args below meth c 219 2151 Q G.1 A 1 (zWL G (zd dL48_) (zd dT12_) (zd dE27_) (zd dV20_) (zd dM24_) (zd dK12_)) [(0, .ref (G.2.2 0 0))] 554 [.int 3]
  refine zi_iconst (pc := 554) (v := 3) F dL_layers_554 rfl ?_
  refine zi_icmp_ne (pc := 555) (tgt := 631) F dL_layers_555 (by decide) (fun h => absurd h (by decide)) (fun _ => ?_)
  refine zi_aload_n (pc := 558) F dL_layers_558 0 rfl ?_
  refine zi_bipush (pc := 559) (v := 9) F dL_layers_559 rfl ?_
  refine zr_settle (pc := 561) hfl F hsx ev189_ okdT12_ okdE27_ okdM24_ (cwV 1 F.1.2.2.2.2 gL_layers_X4_settle rfl rfl rfl hd_X4_settle ⟨Nat.le_of_ble_eq_true rfl, Nat.le_of_ble_eq_true rfl⟩) (Nat.le_of_ble_eq_true rfl) dL_layers_561 ⟨Nat.le_of_ble_eq_true rfl, Nat.le_of_ble_eq_true rfl⟩ ?_
  show zW p l e rmL_layers s m args below meth c 220 2157 Q G.1 A 1 (zWL G (zd dL49_) (zd dT12_) (zd dE28_) (zd dV20_) (zd dM23_) (zd dK12_)) [(0, .ref (G.2.2 0 0))] 564 [.int 1]
  refine zi_iconst (pc := 564) (v := 1) F dL_layers_564 rfl ?_
  refine zi_icmp_ne (pc := 565) (tgt := 631) F dL_layers_565 (by decide) (fun h => absurd h (by decide)) (fun _ => ?_)
  refine zi_aload_n (pc := 568) F dL_layers_568 0 rfl ?_
  refine zi_iconst (pc := 569) (v := 2) F dL_layers_569 rfl ?_
  refine zr_coins (pc := 570) hfl F hsx ev190_  (cwV 1 F.1.2.2.2.2 gL_layers_X4_coins rfl rfl rfl hd_X4_coins ⟨Nat.le_of_ble_eq_true rfl, Nat.le_of_ble_eq_true rfl⟩) (Nat.le_of_ble_eq_true rfl) dL_layers_570 ⟨Nat.le_of_ble_eq_true rfl, Nat.le_of_ble_eq_true rfl⟩ ?_
  show zW p l e rmL_layers s m args below meth c 221 2163 Q G.1 A 1 (zWL G (zd dL49_) (zd dT12_) (zd dE28_) (zd dV20_) (zd dM23_) (zd dK12_)) [(0, .ref (G.2.2 0 0))] 573 [.int 5]
  refine zi_iconst (pc := 573) (v := 5) F dL_layers_573 rfl ?_
  refine zi_icmp_ne (pc := 574) (tgt := 631) F dL_layers_574 (by decide) (fun h => absurd h (by decide)) (fun _ => ?_)
  refine zi_aload_n (pc := 577) F dL_layers_577 0 rfl ?_
  refine zi_bipush (pc := 578) (v := 12) F dL_layers_578 rfl ?_
  refine zi_iconst (pc := 580) (v := 4) F dL_layers_580 rfl ?_
  refine zr_play (pc := 581) hfl F hsx ev191_ okdT12_ okdE28_ okdM23_ (cwV 2 F.1.2.2.2.2 gL_layers_X4_play rfl rfl rfl hd_X4_play ⟨Nat.le_of_ble_eq_true rfl, Nat.le_of_ble_eq_true rfl⟩) (Nat.le_of_ble_eq_true rfl) dL_layers_581 ⟨Nat.le_of_ble_eq_true rfl, Nat.le_of_ble_eq_true rfl⟩ ?_
  show zW p l e rmL_layers s m args below meth c 222 2169 Q G.1 A 1 (zWL G (zd dL50_) (zd dT12_) (zd dE29_) (zd dV20_) (zd dM24_) (zd dK12_)) [(0, .ref (G.2.2 0 0))] 584 [.int 1]
  refine zi_iconst (pc := 584) (v := 1) F dL_layers_584 rfl ?_
  refine zi_icmp_ne (pc := 585) (tgt := 631) F dL_layers_585 (by decide) (fun h => absurd h (by decide)) (fun _ => ?_)
  refine zi_aload_n (pc := 588) F dL_layers_588 0 rfl ?_
  refine zi_iconst (pc := 589) (v := 1) F dL_layers_589 rfl ?_
  refine zr_settle (pc := 590) hfl F hsx ev192_ okdT12_ okdE29_ okdM24_ (cwV 1 F.1.2.2.2.2 gL_layers_X4_settle rfl rfl rfl hd_X4_settle ⟨Nat.le_of_ble_eq_true rfl, Nat.le_of_ble_eq_true rfl⟩) (Nat.le_of_ble_eq_true rfl) dL_layers_590 ⟨Nat.le_of_ble_eq_true rfl, Nat.le_of_ble_eq_true rfl⟩ ?_
  show zW p l e rmL_layers s m args below meth c 223 2175 Q G.1 A 1 (zWL G (zd dL51_) (zd dT13_) (zd dE30_) (zd dV21_) (zd dM25_) (zd dK13_)) [(0, .ref (G.2.2 0 0))] 593 [.int 1]
  refine zi_iconst (pc := 593) (v := 1) F dL_layers_593 rfl ?_
  refine zi_icmp_ne (pc := 594) (tgt := 631) F dL_layers_594 (by decide) (fun h => absurd h (by decide)) (fun _ => ?_)
  refine zi_aload_n (pc := 597) F dL_layers_597 0 rfl ?_
  refine zr_things (pc := 598) hfl F hsx ev193_  (cwV 0 F.1.2.2.2.2 gL_layers_X4_things rfl rfl rfl hd_X4_things ⟨Nat.le_of_ble_eq_true rfl, Nat.le_of_ble_eq_true rfl⟩) (Nat.le_of_ble_eq_true rfl) dL_layers_598 ⟨Nat.le_of_ble_eq_true rfl, Nat.le_of_ble_eq_true rfl⟩ ?_
  show zW p l e rmL_layers s m args below meth c 223 2175 Q G.1 A 1 (zWL G (zd dL51_) (zd dT13_) (zd dE30_) (zd dV21_) (zd dM25_) (zd dK13_)) [(0, .ref (G.2.2 0 0))] 601 [.int 5]
  refine zi_iconst (pc := 601) (v := 5) F dL_layers_601 rfl ?_
  refine zi_icmp_ne (pc := 602) (tgt := 631) F dL_layers_602 (by decide) (fun h => absurd h (by decide)) (fun _ => ?_)
  exact kk
set_option maxHeartbeats 4000000 in
set_option maxRecDepth 100000 in
theorem sg_layers_6 {p : Program} {l : Launch} {e : Env} {s : State} {m : MethodId} {args : Array Value} {below : List Frame} {meth : Method} {c : Code} {Q : State → Prop} {A : Nat → Prop} {G : zG_t} (hfl : l.stackTraces = false) (F : zF p m c cL_layers 1 s args wsL_layers RL G.1 (zty G) A) (hsx : zSx s) (hao : zAOA s) (kk : zW p l e rmL_layers s m args below meth c 227 2199 Q G.1 A 1 (zWL G (zd dL51_) (zd dT13_) (zd dE30_) (zd dV21_) (zd dM25_) (zd dK13_)) [(0, .ref (G.2.2 0 0))] 632 [.int 1]) : zW p l e rmL_layers s m args below meth c 223 2175 Q G.1 A 1 (zWL G (zd dL51_) (zd dT13_) (zd dE30_) (zd dV21_) (zd dM25_) (zd dK13_)) [(0, .ref (G.2.2 0 0))] 605 [] := by
  refine zi_aload_n (pc := 605) F dL_layers_605 0 rfl ?_
  refine zi_iconst (pc := 606) (v := 0) F dL_layers_606 rfl ?_
  refine zi_iconst (pc := 607) (v := 5) F dL_layers_607 rfl ?_
  refine zi_iconst (pc := 608) (v := 0) F dL_layers_608 rfl ?_
  refine zi_iconst (pc := 609) (v := 2) F dL_layers_609 rfl ?_
  refine zi_iconst (pc := 610) (v := 1) F dL_layers_610 rfl ?_
  refine zi_callQI (pc := 611) (rest := []) (ws' := zWL G (zd dL51_) (zd dT13_) (zd dE30_) (zd dV21_) (zd dM25_) (zd dK13_)) F hsx hao (c_L_is l hfl G ev194_ ev195_ ev196_ okdT13_) (va_cwS 6 F.1.2.2.2.2 gL_layers_L_is rfl rfl rfl hd_L_is ⟨Nat.le_of_ble_eq_true rfl, Nat.le_of_ble_eq_true rfl⟩) [] [] (zw_nil _) (zw_nil _).symm rfl rfl (Nat.le_of_ble_eq_true rfl) dL_layers_611 ⟨Nat.le_of_ble_eq_true rfl, Nat.le_of_ble_eq_true rfl⟩ ?_
  show zW p l e rmL_layers s m args below meth c 226 2193 Q G.1 A 1 (zWL G (zd dL51_) (zd dT13_) (zd dE30_) (zd dV21_) (zd dM25_) (zd dK13_)) [(0, .ref (G.2.2 0 0))] 614 [.int 1]
  refine zi_if_eq (pc := 614) (tgt := 631) F dL_layers_614 (by decide) (fun h => absurd h (by decide)) (fun _ => ?_)
  refine zi_aload_n (pc := 617) F dL_layers_617 0 rfl ?_
  refine zi_iconst (pc := 618) (v := 4) F dL_layers_618 rfl ?_
  refine zr_cardOf (pc := 619) hfl F hsx ev197_ okdT13_ (cwV 1 F.1.2.2.2.2 gL_layers_X4_cardOf rfl rfl rfl hd_X4_cardOf ⟨Nat.le_of_ble_eq_true rfl, Nat.le_of_ble_eq_true rfl⟩) (Nat.le_of_ble_eq_true rfl) dL_layers_619 ⟨Nat.le_of_ble_eq_true rfl, Nat.le_of_ble_eq_true rfl⟩ ?_
  show zW p l e rmL_layers s m args below meth c 227 2199 Q G.1 A 1 (zWL G (zd dL51_) (zd dT13_) (zd dE30_) (zd dV21_) (zd dM25_) (zd dK13_)) [(0, .ref (G.2.2 0 0))] 622 [.int 6]
  refine zi_bipush (pc := 622) (v := 6) F dL_layers_622 rfl ?_
  refine zi_icmp_ne (pc := 624) (tgt := 631) F dL_layers_624 (by decide) (fun h => absurd h (by decide)) (fun _ => ?_)
  refine zi_iconst (pc := 627) (v := 1) F dL_layers_627 rfl ?_
  refine zi_goto (pc := 628) (tgt := 632) F dL_layers_628 (by decide) ?_
  exact kk
