/-! refuses -/
abbrev rmL_refuses : Room := { frames := 9, cells := 72, slots := 432, locals := 188 }
theorem hd_L_refuses : yL_refuses.cls ≠ "java/lang/invoke/MethodHandle" ∧ yL_refuses.cls ≠ "java/lang/invoke/VarHandle" ∧ (parseMethodDescriptor yL_refuses.desc).map (fun d => d.parameters.length) = some 1 := by decide +kernel
set_option maxHeartbeats 4000000 in
set_option maxRecDepth 100000 in
theorem sg_rf_a {p : Program} {l : Launch} {e : Env} {s : State} {m : MethodId} {args : Array Value} {below : List Frame} {meth : Method} {c : Code} {Q : State → Prop} {A : Nat → Prop} {G : zG_t} {L T E V M K : zS_t} (hfl : l.stackTraces = false) (hIT : zIT T) (hIE : zIE E) (hIM : zIM M) (F : zF p m c cL_refuses 9 s args wsL_refuses RL G.1 (zty G) A) (hsx : zSx s) (hao : zAOA s) (kk : zW p l e rmL_refuses s m args below meth c 0 0 Q G.1 A 9 (zWL G L T E V M K) [(0, .ref (G.2.2 0 0)), (1, .int (T 4 0)), (2, .int (E 5 0)), (3, .int (L 6 0)), (4, .int 2147483647), (5, .int 0)] 22 []) : zW p l e rmL_refuses s m args below meth c 0 0 Q G.1 A 9 (zWL G L T E V M K) [(0, .ref (G.2.2 0 0))] 0 [] := by
  have k_max : Int32.toInt 2147483647 = 2147483647 := by decide
  have hmaxT : T 4 0 ≤ 2147483647 := Int32.le_iff_toInt_le.mpr (by rw [k_max]; have h9 := hIT.2; omega)
  have hmaxE : E 5 0 ≤ 2147483647 := Int32.le_iff_toInt_le.mpr (by rw [k_max]; have h9 := hIE.1.2; omega)
  refine zi_aload_n (pc := 0) F dL_refuses_0 0 rfl ?_
  refine zi_callVI (pc := 1) (rest := []) (ws' := zWL G L T E V M K) F (c_X4_things l G L T E V M K) (cwV 0 F.1.2.2.2.2 gL_refuses_X4_things rfl rfl rfl hd_X4_things ⟨Nat.le_of_ble_eq_true rfl, Nat.le_of_ble_eq_true rfl⟩) 0 rfl rfl [] [] (zw_nil _) (zw_nil _).symm rfl rfl (Nat.le_of_ble_eq_true rfl) dL_refuses_1 ⟨Nat.le_of_ble_eq_true rfl, Nat.le_of_ble_eq_true rfl⟩ ?_
  show zW p l e rmL_refuses s m args below meth c 0 0 Q G.1 A 9 (zWL G L T E V M K) [(0, .ref (G.2.2 0 0))] 4 [.int (T 4 0)]
  refine zi_istore_n (pc := 4) (lv' := [(0, .ref (G.2.2 0 0)), (1, .int (T 4 0))]) F dL_refuses_4 (by decide) rfl ?_
  refine zi_aload_n (pc := 5) F dL_refuses_5 0 rfl ?_
  refine zi_callVI (pc := 6) (rest := []) (ws' := zWL G L T E V M K) F (c_X4_stack l G L T E V M K) (cwV 0 F.1.2.2.2.2 gL_refuses_X4_stack rfl rfl rfl hd_X4_stack ⟨Nat.le_of_ble_eq_true rfl, Nat.le_of_ble_eq_true rfl⟩) 0 rfl rfl [] [] (zw_nil _) (zw_nil _).symm rfl rfl (Nat.le_of_ble_eq_true rfl) dL_refuses_6 ⟨Nat.le_of_ble_eq_true rfl, Nat.le_of_ble_eq_true rfl⟩ ?_
  show zW p l e rmL_refuses s m args below meth c 0 0 Q G.1 A 9 (zWL G L T E V M K) [(0, .ref (G.2.2 0 0)), (1, .int (T 4 0))] 9 [.int (E 5 0)]
  refine zi_istore_n (pc := 9) (lv' := [(0, .ref (G.2.2 0 0)), (1, .int (T 4 0)), (2, .int (E 5 0))]) F dL_refuses_9 (by decide) rfl ?_
  refine zi_aload_n (pc := 10) F dL_refuses_10 0 rfl ?_
  refine zi_callVI (pc := 11) (rest := []) (ws' := zWL G L T E V M K) F (c_X4_acting l G L T E V M K) (cwV 0 F.1.2.2.2.2 gL_refuses_X4_acting rfl rfl rfl hd_X4_acting ⟨Nat.le_of_ble_eq_true rfl, Nat.le_of_ble_eq_true rfl⟩) 0 rfl rfl [] [] (zw_nil _) (zw_nil _).symm rfl rfl (Nat.le_of_ble_eq_true rfl) dL_refuses_11 ⟨Nat.le_of_ble_eq_true rfl, Nat.le_of_ble_eq_true rfl⟩ ?_
  show zW p l e rmL_refuses s m args below meth c 0 0 Q G.1 A 9 (zWL G L T E V M K) [(0, .ref (G.2.2 0 0)), (1, .int (T 4 0)), (2, .int (E 5 0))] 14 [.int (L 6 0)]
  refine zi_istore_n (pc := 14) (lv' := [(0, .ref (G.2.2 0 0)), (1, .int (T 4 0)), (2, .int (E 5 0)), (3, .int (L 6 0))]) F dL_refuses_14 (by decide) rfl ?_
  refine zi_ldc (pc := 15) (v := 2147483647) F (List.mem_of_getElem? (i := 1) rfl) dL_refuses_15 ?_
  refine zi_istore (pc := 17) (lv' := [(0, .ref (G.2.2 0 0)), (1, .int (T 4 0)), (2, .int (E 5 0)), (3, .int (L 6 0)), (4, .int 2147483647)]) F dL_refuses_17 (by decide) rfl ?_
  refine zi_iconst (pc := 19) (v := 0) F dL_refuses_19 rfl ?_
  refine zi_istore (pc := 20) (lv' := [(0, .ref (G.2.2 0 0)), (1, .int (T 4 0)), (2, .int (E 5 0)), (3, .int (L 6 0)), (4, .int 2147483647), (5, .int 0)]) F dL_refuses_20 (by decide) rfl ?_
  exact kk
set_option maxHeartbeats 4000000 in
set_option maxRecDepth 100000 in
theorem sg_rf_0_b {p : Program} {l : Launch} {e : Env} {s : State} {m : MethodId} {args : Array Value} {below : List Frame} {meth : Method} {c : Code} {Q : State → Prop} {A : Nat → Prop} {G : zG_t} {L T E V M K : zS_t} (hfl : l.stackTraces = false) (hIT : zIT T) (hIE : zIE E) (hIM : zIM M) (F : zF p m c cL_refuses 9 s args wsL_refuses RL G.1 (zty G) A) (hsx : zSx s) (hao : zAOA s) (kk : zW p l e rmL_refuses s m args below meth c 7 42 Q G.1 A 9 (zWL G L T E V M K) [(0, .ref (G.2.2 0 0)), (1, .int (T 4 0)), (2, .int (E 5 0)), (3, .int (L 6 0)), (4, .int 2147483647), (5, .int 0), (6, .int (-1)), (7, .int 1), (8, .int 5)] 240 []) : zW p l e rmL_refuses s m args below meth c 0 0 Q G.1 A 9 (zWL G L T E V M K) [(0, .ref (G.2.2 0 0)), (1, .int (T 4 0)), (2, .int (E 5 0)), (3, .int (L 6 0)), (4, .int 2147483647), (5, .int 0)] 22 [] := by
  have k_max : Int32.toInt 2147483647 = 2147483647 := by decide
  have hmaxT : T 4 0 ≤ 2147483647 := Int32.le_iff_toInt_le.mpr (by rw [k_max]; have h9 := hIT.2; omega)
  have hmaxE : E 5 0 ≤ 2147483647 := Int32.le_iff_toInt_le.mpr (by rw [k_max]; have h9 := hIE.1.2; omega)
  refine zi_iload (pc := 22) F dL_refuses_22 5 rfl ?_
  refine zi_iconst (pc := 24) (v := 4) F dL_refuses_24 rfl ?_
  refine zi_icmp_ge (pc := 25) (tgt := 390) F dL_refuses_25 (by decide) (fun h => absurd h (by decide)) (fun _ => ?_)
  refine zi_iload (pc := 28) F dL_refuses_28 5 rfl ?_
  refine zi_if_ne (pc := 30) (tgt := 37) F dL_refuses_30 (by decide) (fun h => absurd h (by decide)) (fun _ => ?_)
  refine zi_iconst (pc := 33) (v := (-1)) F dL_refuses_33 rfl ?_
  refine zi_goto (pc := 34) (tgt := 53) F dL_refuses_34 (by decide) ?_
  refine zi_istore (pc := 53) (lv' := [(0, .ref (G.2.2 0 0)), (1, .int (T 4 0)), (2, .int (E 5 0)), (3, .int (L 6 0)), (4, .int 2147483647), (5, .int 0), (6, .int (-1))]) F dL_refuses_53 (by decide) rfl ?_
  refine zi_aload_n (pc := 55) F dL_refuses_55 0 rfl ?_
  refine zi_iconst (pc := 56) (v := 0) F dL_refuses_56 rfl ?_
  refine zi_iload (pc := 57) F dL_refuses_57 5 rfl ?_
  refine zi_iconst (pc := 59) (v := 1) F dL_refuses_59 rfl ?_
  refine zi_icmp_ne (pc := 60) (tgt := 68) F dL_refuses_60 (by decide) (fun _ => ?_) (fun h => absurd h (by decide))
  refine zi_iload (pc := 68) F dL_refuses_68 6 rfl ?_
  refine zi_iconst (pc := 70) (v := 0) F dL_refuses_70 rfl ?_
  refine zi_callQH (pc := 71) (rest := []) F hsx hao (cr_0 l hfl G L T E V M K hIT hIE hIM (-1) 0 (Or.inl (by decide))) (vx_cwSW 4 F.1.2.2.2.2 gL_refuses_L_act rfl rfl rfl hd_L_act ⟨Nat.le_of_ble_eq_true rfl, Nat.le_of_ble_eq_true rfl⟩) [] [] (zw_nil _) (zw_nil _).symm rfl rfl (Nat.le_of_ble_eq_true rfl) dL_refuses_71 ⟨Nat.le_of_ble_eq_true rfl, Nat.le_of_ble_eq_true rfl⟩ ?_
  show zW p l e rmL_refuses s m args below meth c 1 6 Q G.1 A 9 (zWL G L T E V M K) [(0, .ref (G.2.2 0 0)), (1, .int (T 4 0)), (2, .int (E 5 0)), (3, .int (L 6 0)), (4, .int 2147483647), (5, .int 0), (6, .int (-1))] 74 [.int (-71)]
  refine zi_bipush (pc := 74) (v := (-71)) F dL_refuses_74 rfl ?_
  refine zi_icmp_ne (pc := 76) (tgt := 234) F dL_refuses_76 (by decide) (fun h => absurd h (by decide)) (fun _ => ?_)
  refine zi_aload_n (pc := 79) F dL_refuses_79 0 rfl ?_
  refine zi_iconst (pc := 80) (v := 1) F dL_refuses_80 rfl ?_
  refine zi_iload (pc := 81) F dL_refuses_81 5 rfl ?_
  refine zi_iconst (pc := 83) (v := 1) F dL_refuses_83 rfl ?_
  refine zi_icmp_ne (pc := 84) (tgt := 92) F dL_refuses_84 (by decide) (fun _ => ?_) (fun h => absurd h (by decide))
  refine zi_iload (pc := 92) F dL_refuses_92 6 rfl ?_
  refine zi_iconst (pc := 94) (v := 0) F dL_refuses_94 rfl ?_
  refine zi_callQH (pc := 95) (rest := []) F hsx hao (cr_1 l hfl G L T E V M K hIT hIE hIM (-1) 0 (Or.inl (by decide))) (vx_cwSW 4 F.1.2.2.2.2 gL_refuses_L_act rfl rfl rfl hd_L_act ⟨Nat.le_of_ble_eq_true rfl, Nat.le_of_ble_eq_true rfl⟩) [] [] (zw_nil _) (zw_nil _).symm rfl rfl (Nat.le_of_ble_eq_true rfl) dL_refuses_95 ⟨Nat.le_of_ble_eq_true rfl, Nat.le_of_ble_eq_true rfl⟩ ?_
  show zW p l e rmL_refuses s m args below meth c 2 12 Q G.1 A 9 (zWL G L T E V M K) [(0, .ref (G.2.2 0 0)), (1, .int (T 4 0)), (2, .int (E 5 0)), (3, .int (L 6 0)), (4, .int 2147483647), (5, .int 0), (6, .int (-1))] 98 [.int (-71)]
  refine zi_bipush (pc := 98) (v := (-71)) F dL_refuses_98 rfl ?_
  refine zi_icmp_ne (pc := 100) (tgt := 234) F dL_refuses_100 (by decide) (fun h => absurd h (by decide)) (fun _ => ?_)
  refine zi_aload_n (pc := 103) F dL_refuses_103 0 rfl ?_
  refine zi_iconst (pc := 104) (v := 2) F dL_refuses_104 rfl ?_
  refine zi_iload (pc := 105) F dL_refuses_105 5 rfl ?_
  refine zi_if_ne (pc := 107) (tgt := 114) F dL_refuses_107 (by decide) (fun h => absurd h (by decide)) (fun _ => ?_)
  refine zi_iconst (pc := 110) (v := 0) F dL_refuses_110 rfl ?_
  refine zi_goto (pc := 111) (tgt := 127) F dL_refuses_111 (by decide) ?_
  refine zi_iconst (pc := 127) (v := 0) F dL_refuses_127 rfl ?_
  refine zi_callQH (pc := 128) (rest := []) F hsx hao (cr_2 l hfl G L T E V M K hIT hIE hIM 0 0 (Or.inl (by decide))) (vx_cwSW 4 F.1.2.2.2.2 gL_refuses_L_act rfl rfl rfl hd_L_act ⟨Nat.le_of_ble_eq_true rfl, Nat.le_of_ble_eq_true rfl⟩) [] [] (zw_nil _) (zw_nil _).symm rfl rfl (Nat.le_of_ble_eq_true rfl) dL_refuses_128 ⟨Nat.le_of_ble_eq_true rfl, Nat.le_of_ble_eq_true rfl⟩ ?_
  show zW p l e rmL_refuses s m args below meth c 3 18 Q G.1 A 9 (zWL G L T E V M K) [(0, .ref (G.2.2 0 0)), (1, .int (T 4 0)), (2, .int (E 5 0)), (3, .int (L 6 0)), (4, .int 2147483647), (5, .int 0), (6, .int (-1))] 131 [.int (-72)]
  refine zi_bipush (pc := 131) (v := (-72)) F dL_refuses_131 rfl ?_
  refine zi_icmp_ne (pc := 133) (tgt := 234) F dL_refuses_133 (by decide) (fun h => absurd h (by decide)) (fun _ => ?_)
  refine zi_aload_n (pc := 136) F dL_refuses_136 0 rfl ?_
  refine zi_iconst (pc := 137) (v := 3) F dL_refuses_137 rfl ?_
  refine zi_iload (pc := 138) F dL_refuses_138 5 rfl ?_
  refine zi_iconst (pc := 140) (v := 1) F dL_refuses_140 rfl ?_
  refine zi_icmp_ne (pc := 141) (tgt := 148) F dL_refuses_141 (by decide) (fun _ => ?_) (fun h => absurd h (by decide))
  refine zi_iload (pc := 148) F dL_refuses_148 6 rfl ?_
  refine zi_iconst (pc := 150) (v := 0) F dL_refuses_150 rfl ?_
  refine zi_callQH (pc := 151) (rest := []) F hsx hao (cr_3 l hfl G L T E V M K hIT hIE hIM (-1) 0 (Or.inl (by decide))) (vx_cwSW 4 F.1.2.2.2.2 gL_refuses_L_act rfl rfl rfl hd_L_act ⟨Nat.le_of_ble_eq_true rfl, Nat.le_of_ble_eq_true rfl⟩) [] [] (zw_nil _) (zw_nil _).symm rfl rfl (Nat.le_of_ble_eq_true rfl) dL_refuses_151 ⟨Nat.le_of_ble_eq_true rfl, Nat.le_of_ble_eq_true rfl⟩ ?_
  show zW p l e rmL_refuses s m args below meth c 4 24 Q G.1 A 9 (zWL G L T E V M K) [(0, .ref (G.2.2 0 0)), (1, .int (T 4 0)), (2, .int (E 5 0)), (3, .int (L 6 0)), (4, .int 2147483647), (5, .int 0), (6, .int (-1))] 154 [.int (-71)]
  refine zi_bipush (pc := 154) (v := (-71)) F dL_refuses_154 rfl ?_
  refine zi_icmp_ne (pc := 156) (tgt := 234) F dL_refuses_156 (by decide) (fun h => absurd h (by decide)) (fun _ => ?_)
  refine zi_aload_n (pc := 159) F dL_refuses_159 0 rfl ?_
  refine zi_iconst (pc := 160) (v := 4) F dL_refuses_160 rfl ?_
  refine zi_iload (pc := 161) F dL_refuses_161 5 rfl ?_
  refine zi_iconst (pc := 163) (v := 1) F dL_refuses_163 rfl ?_
  refine zi_icmp_ne (pc := 164) (tgt := 171) F dL_refuses_164 (by decide) (fun _ => ?_) (fun h => absurd h (by decide))
  refine zi_iload (pc := 171) F dL_refuses_171 6 rfl ?_
  refine zi_iconst (pc := 173) (v := 0) F dL_refuses_173 rfl ?_
  refine zi_callQH (pc := 174) (rest := []) F hsx hao (cr_4 l hfl G L T E V M K hIT hIE hIM (-1) 0 (Or.inl (by decide))) (vx_cwSW 4 F.1.2.2.2.2 gL_refuses_L_act rfl rfl rfl hd_L_act ⟨Nat.le_of_ble_eq_true rfl, Nat.le_of_ble_eq_true rfl⟩) [] [] (zw_nil _) (zw_nil _).symm rfl rfl (Nat.le_of_ble_eq_true rfl) dL_refuses_174 ⟨Nat.le_of_ble_eq_true rfl, Nat.le_of_ble_eq_true rfl⟩ ?_
  show zW p l e rmL_refuses s m args below meth c 5 30 Q G.1 A 9 (zWL G L T E V M K) [(0, .ref (G.2.2 0 0)), (1, .int (T 4 0)), (2, .int (E 5 0)), (3, .int (L 6 0)), (4, .int 2147483647), (5, .int 0), (6, .int (-1))] 177 [.int (-71)]
  refine zi_bipush (pc := 177) (v := (-71)) F dL_refuses_177 rfl ?_
  refine zi_icmp_ne (pc := 179) (tgt := 234) F dL_refuses_179 (by decide) (fun h => absurd h (by decide)) (fun _ => ?_)
  refine zi_aload_n (pc := 182) F dL_refuses_182 0 rfl ?_
  refine zi_iconst (pc := 183) (v := 0) F dL_refuses_183 rfl ?_
  refine zi_bipush (pc := 184) (v := 12) F dL_refuses_184 rfl ?_
  refine zi_iload (pc := 186) F dL_refuses_186 5 rfl ?_
  refine zi_iconst (pc := 188) (v := 1) F dL_refuses_188 rfl ?_
  refine zi_icmp_ne (pc := 189) (tgt := 196) F dL_refuses_189 (by decide) (fun _ => ?_) (fun h => absurd h (by decide))
  refine zi_iload (pc := 196) F dL_refuses_196 6 rfl ?_
  refine zi_callQH (pc := 198) (rest := []) F hsx hao (cr_0s l hfl G L T E V M K hIT hIE hIM (-1) (Or.inl (by decide))) (vx_cwSW 4 F.1.2.2.2.2 gL_refuses_L_act rfl rfl rfl hd_L_act ⟨Nat.le_of_ble_eq_true rfl, Nat.le_of_ble_eq_true rfl⟩) [] [] (zw_nil _) (zw_nil _).symm rfl rfl (Nat.le_of_ble_eq_true rfl) dL_refuses_198 ⟨Nat.le_of_ble_eq_true rfl, Nat.le_of_ble_eq_true rfl⟩ ?_
  show zW p l e rmL_refuses s m args below meth c 6 36 Q G.1 A 9 (zWL G L T E V M K) [(0, .ref (G.2.2 0 0)), (1, .int (T 4 0)), (2, .int (E 5 0)), (3, .int (L 6 0)), (4, .int 2147483647), (5, .int 0), (6, .int (-1))] 201 [.int (-73)]
  refine zi_bipush (pc := 201) (v := (-73)) F dL_refuses_201 rfl ?_
  refine zi_icmp_ne (pc := 203) (tgt := 234) F dL_refuses_203 (by decide) (fun h => absurd h (by decide)) (fun _ => ?_)
  refine zi_aload_n (pc := 206) F dL_refuses_206 0 rfl ?_
  refine zi_iconst (pc := 207) (v := 0) F dL_refuses_207 rfl ?_
  refine zi_bipush (pc := 208) (v := 13) F dL_refuses_208 rfl ?_
  refine zi_iload (pc := 210) F dL_refuses_210 5 rfl ?_
  refine zi_iconst (pc := 212) (v := 1) F dL_refuses_212 rfl ?_
  refine zi_icmp_ne (pc := 213) (tgt := 220) F dL_refuses_213 (by decide) (fun _ => ?_) (fun h => absurd h (by decide))
  refine zi_iload (pc := 220) F dL_refuses_220 6 rfl ?_
  refine zi_callQH (pc := 222) (rest := []) F hsx hao (cr_0d l hfl G L T E V M K hIT hIE hIM (-1) (Or.inl (by decide))) (vx_cwSW 4 F.1.2.2.2.2 gL_refuses_L_act rfl rfl rfl hd_L_act ⟨Nat.le_of_ble_eq_true rfl, Nat.le_of_ble_eq_true rfl⟩) [] [] (zw_nil _) (zw_nil _).symm rfl rfl (Nat.le_of_ble_eq_true rfl) dL_refuses_222 ⟨Nat.le_of_ble_eq_true rfl, Nat.le_of_ble_eq_true rfl⟩ ?_
  show zW p l e rmL_refuses s m args below meth c 7 42 Q G.1 A 9 (zWL G L T E V M K) [(0, .ref (G.2.2 0 0)), (1, .int (T 4 0)), (2, .int (E 5 0)), (3, .int (L 6 0)), (4, .int 2147483647), (5, .int 0), (6, .int (-1))] 225 [.int (-73)]
  refine zi_bipush (pc := 225) (v := (-73)) F dL_refuses_225 rfl ?_
  refine zi_icmp_ne (pc := 227) (tgt := 234) F dL_refuses_227 (by decide) (fun h => absurd h (by decide)) (fun _ => ?_)
  refine zi_iconst (pc := 230) (v := 1) F dL_refuses_230 rfl ?_
  refine zi_goto (pc := 231) (tgt := 235) F dL_refuses_231 (by decide) ?_
  refine zi_istore (pc := 235) (lv' := [(0, .ref (G.2.2 0 0)), (1, .int (T 4 0)), (2, .int (E 5 0)), (3, .int (L 6 0)), (4, .int 2147483647), (5, .int 0), (6, .int (-1)), (7, .int 1)]) F dL_refuses_235 (by decide) rfl ?_
  refine zi_iconst (pc := 237) (v := 5) F dL_refuses_237 rfl ?_
  refine zi_istore (pc := 238) (lv' := [(0, .ref (G.2.2 0 0)), (1, .int (T 4 0)), (2, .int (E 5 0)), (3, .int (L 6 0)), (4, .int 2147483647), (5, .int 0), (6, .int (-1)), (7, .int 1), (8, .int 5)]) F dL_refuses_238 (by decide) rfl ?_
  exact kk
set_option maxHeartbeats 4000000 in
set_option maxRecDepth 100000 in
theorem sg_rf_0_w5 {p : Program} {l : Launch} {e : Env} {s : State} {m : MethodId} {args : Array Value} {below : List Frame} {meth : Method} {c : Code} {Q : State → Prop} {A : Nat → Prop} {G : zG_t} {L T E V M K : zS_t} (hfl : l.stackTraces = false) (hIT : zIT T) (hIE : zIE E) (hIM : zIM M) (F : zF p m c cL_refuses 9 s args wsL_refuses RL G.1 (zty G) A) (hsx : zSx s) (hao : zAOA s) (kk : zW p l e rmL_refuses s m args below meth c 8 48 Q G.1 A 9 (zWL G L T E V M K) [(0, .ref (G.2.2 0 0)), (1, .int (T 4 0)), (2, .int (E 5 0)), (3, .int (L 6 0)), (4, .int 2147483647), (5, .int 0), (6, .int (-1)), (7, .int 1), (8, .int 5)] 318 []) : zW p l e rmL_refuses s m args below meth c 7 42 Q G.1 A 9 (zWL G L T E V M K) [(0, .ref (G.2.2 0 0)), (1, .int (T 4 0)), (2, .int (E 5 0)), (3, .int (L 6 0)), (4, .int 2147483647), (5, .int 0), (6, .int (-1)), (7, .int 1), (8, .int 5)] 240 [] := by
  have k_max : Int32.toInt 2147483647 = 2147483647 := by decide
  have hmaxT : T 4 0 ≤ 2147483647 := Int32.le_iff_toInt_le.mpr (by rw [k_max]; have h9 := hIT.2; omega)
  have hmaxE : E 5 0 ≤ 2147483647 := Int32.le_iff_toInt_le.mpr (by rw [k_max]; have h9 := hIE.1.2; omega)
  refine zi_iload (pc := 240) F dL_refuses_240 8 rfl ?_
  refine zi_bipush (pc := 242) (v := 9) F dL_refuses_242 rfl ?_
  refine zi_icmp_ge (pc := 244) (tgt := 324) F dL_refuses_244 (by decide) (fun h => absurd h (by decide)) (fun _ => ?_)
  refine zi_iload (pc := 247) F dL_refuses_247 7 rfl ?_
  refine zi_if_eq (pc := 249) (tgt := 315) F dL_refuses_249 (by decide) (fun h => absurd h (by decide)) (fun _ => ?_)
  refine zi_aload_n (pc := 252) F dL_refuses_252 0 rfl ?_
  refine zi_iload (pc := 253) F dL_refuses_253 8 rfl ?_
  refine zi_iload (pc := 255) F dL_refuses_255 5 rfl ?_
  refine zi_iconst (pc := 257) (v := 1) F dL_refuses_257 rfl ?_
  refine zi_icmp_ne (pc := 258) (tgt := 265) F dL_refuses_258 (by decide) (fun _ => ?_) (fun h => absurd h (by decide))
  refine zi_iload (pc := 265) F dL_refuses_265 6 rfl ?_
  refine zi_iconst (pc := 267) (v := (-1)) F dL_refuses_267 rfl ?_
  refine zi_callQH (pc := 268) (rest := []) F hsx hao (cr_5 l hfl G L T E V M K hIT hIE hIM (-1) (-1) (Or.inl (by decide))) (vx_cwSW 4 F.1.2.2.2.2 gL_refuses_L_act rfl rfl rfl hd_L_act ⟨Nat.le_of_ble_eq_true rfl, Nat.le_of_ble_eq_true rfl⟩) [] [] (zw_nil _) (zw_nil _).symm rfl rfl (Nat.le_of_ble_eq_true rfl) dL_refuses_268 ⟨Nat.le_of_ble_eq_true rfl, Nat.le_of_ble_eq_true rfl⟩ ?_
  show zW p l e rmL_refuses s m args below meth c 8 48 Q G.1 A 9 (zWL G L T E V M K) [(0, .ref (G.2.2 0 0)), (1, .int (T 4 0)), (2, .int (E 5 0)), (3, .int (L 6 0)), (4, .int 2147483647), (5, .int 0), (6, .int (-1)), (7, .int 1), (8, .int 5)] 271 [.int (-71)]
  refine zi_bipush (pc := 271) (v := (-71)) F dL_refuses_271 rfl ?_
  refine zi_icmp_ne (pc := 273) (tgt := 315) F dL_refuses_273 (by decide) (fun h => absurd h (by decide)) (fun _ => ?_)
  refine zi_iload (pc := 276) F dL_refuses_276 8 rfl ?_
  refine zi_iconst (pc := 278) (v := 5) F dL_refuses_278 rfl ?_
  refine zi_icmp_eq (pc := 279) (tgt := 311) F dL_refuses_279 (by decide) (fun _ => ?_) (fun h => absurd h (by decide))
  refine zi_iconst (pc := 311) (v := 1) F dL_refuses_311 rfl ?_
  refine zi_goto (pc := 312) (tgt := 316) F dL_refuses_312 (by decide) ?_
  refine zi_istore (pc := 316) (lv' := [(0, .ref (G.2.2 0 0)), (1, .int (T 4 0)), (2, .int (E 5 0)), (3, .int (L 6 0)), (4, .int 2147483647), (5, .int 0), (6, .int (-1)), (7, .int 1), (8, .int 5)]) F dL_refuses_316 (by decide) rfl ?_
  exact kk
set_option maxHeartbeats 4000000 in
set_option maxRecDepth 100000 in
theorem sg_rf_0_w5i {p : Program} {l : Launch} {e : Env} {s : State} {m : MethodId} {args : Array Value} {below : List Frame} {meth : Method} {c : Code} {Q : State → Prop} {A : Nat → Prop} {G : zG_t} {L T E V M K : zS_t} (hfl : l.stackTraces = false) (hIT : zIT T) (hIE : zIE E) (hIM : zIM M) (F : zF p m c cL_refuses 9 s args wsL_refuses RL G.1 (zty G) A) (hsx : zSx s) (hao : zAOA s) (kk : zW p l e rmL_refuses s m args below meth c 8 48 Q G.1 A 9 (zWL G L T E V M K) [(0, .ref (G.2.2 0 0)), (1, .int (T 4 0)), (2, .int (E 5 0)), (3, .int (L 6 0)), (4, .int 2147483647), (5, .int 0), (6, .int (-1)), (7, .int 1), (8, .int 6)] 240 []) : zW p l e rmL_refuses s m args below meth c 8 48 Q G.1 A 9 (zWL G L T E V M K) [(0, .ref (G.2.2 0 0)), (1, .int (T 4 0)), (2, .int (E 5 0)), (3, .int (L 6 0)), (4, .int 2147483647), (5, .int 0), (6, .int (-1)), (7, .int 1), (8, .int 5)] 318 [] := by
  have k_max : Int32.toInt 2147483647 = 2147483647 := by decide
  have hmaxT : T 4 0 ≤ 2147483647 := Int32.le_iff_toInt_le.mpr (by rw [k_max]; have h9 := hIT.2; omega)
  have hmaxE : E 5 0 ≤ 2147483647 := Int32.le_iff_toInt_le.mpr (by rw [k_max]; have h9 := hIE.1.2; omega)
  refine zi_iinc (pc := 318) (lv' := [(0, .ref (G.2.2 0 0)), (1, .int (T 4 0)), (2, .int (E 5 0)), (3, .int (L 6 0)), (4, .int 2147483647), (5, .int 0), (6, .int (-1)), (7, .int 1), (8, .int 6)]) F dL_refuses_318 8 rfl (by decide) (by decide) rfl ?_
  refine zi_goto (pc := 321) (tgt := 240) F dL_refuses_321 (by decide) ?_
  exact kk
set_option maxHeartbeats 4000000 in
set_option maxRecDepth 100000 in
theorem sg_rf_0_w6 {p : Program} {l : Launch} {e : Env} {s : State} {m : MethodId} {args : Array Value} {below : List Frame} {meth : Method} {c : Code} {Q : State → Prop} {A : Nat → Prop} {G : zG_t} {L T E V M K : zS_t} (hfl : l.stackTraces = false) (hIT : zIT T) (hIE : zIE E) (hIM : zIM M) (F : zF p m c cL_refuses 9 s args wsL_refuses RL G.1 (zty G) A) (hsx : zSx s) (hao : zAOA s) (kk : zW p l e rmL_refuses s m args below meth c 10 60 Q G.1 A 9 (zWL G L T E V M K) [(0, .ref (G.2.2 0 0)), (1, .int (T 4 0)), (2, .int (E 5 0)), (3, .int (L 6 0)), (4, .int 2147483647), (5, .int 0), (6, .int (-1)), (7, .int 1), (8, .int 6)] 318 []) : zW p l e rmL_refuses s m args below meth c 8 48 Q G.1 A 9 (zWL G L T E V M K) [(0, .ref (G.2.2 0 0)), (1, .int (T 4 0)), (2, .int (E 5 0)), (3, .int (L 6 0)), (4, .int 2147483647), (5, .int 0), (6, .int (-1)), (7, .int 1), (8, .int 6)] 240 [] := by
  have k_max : Int32.toInt 2147483647 = 2147483647 := by decide
  have hmaxT : T 4 0 ≤ 2147483647 := Int32.le_iff_toInt_le.mpr (by rw [k_max]; have h9 := hIT.2; omega)
  have hmaxE : E 5 0 ≤ 2147483647 := Int32.le_iff_toInt_le.mpr (by rw [k_max]; have h9 := hIE.1.2; omega)
  refine zi_iload (pc := 240) F dL_refuses_240 8 rfl ?_
  refine zi_bipush (pc := 242) (v := 9) F dL_refuses_242 rfl ?_
  refine zi_icmp_ge (pc := 244) (tgt := 324) F dL_refuses_244 (by decide) (fun h => absurd h (by decide)) (fun _ => ?_)
  refine zi_iload (pc := 247) F dL_refuses_247 7 rfl ?_
  refine zi_if_eq (pc := 249) (tgt := 315) F dL_refuses_249 (by decide) (fun h => absurd h (by decide)) (fun _ => ?_)
  refine zi_aload_n (pc := 252) F dL_refuses_252 0 rfl ?_
  refine zi_iload (pc := 253) F dL_refuses_253 8 rfl ?_
  refine zi_iload (pc := 255) F dL_refuses_255 5 rfl ?_
  refine zi_iconst (pc := 257) (v := 1) F dL_refuses_257 rfl ?_
  refine zi_icmp_ne (pc := 258) (tgt := 265) F dL_refuses_258 (by decide) (fun _ => ?_) (fun h => absurd h (by decide))
  refine zi_iload (pc := 265) F dL_refuses_265 6 rfl ?_
  refine zi_iconst (pc := 267) (v := (-1)) F dL_refuses_267 rfl ?_
  refine zi_callQH (pc := 268) (rest := []) F hsx hao (cr_6 l hfl G L T E V M K hIT hIE hIM (-1) (-1) (Or.inl (by decide))) (vx_cwSW 4 F.1.2.2.2.2 gL_refuses_L_act rfl rfl rfl hd_L_act ⟨Nat.le_of_ble_eq_true rfl, Nat.le_of_ble_eq_true rfl⟩) [] [] (zw_nil _) (zw_nil _).symm rfl rfl (Nat.le_of_ble_eq_true rfl) dL_refuses_268 ⟨Nat.le_of_ble_eq_true rfl, Nat.le_of_ble_eq_true rfl⟩ ?_
  show zW p l e rmL_refuses s m args below meth c 9 54 Q G.1 A 9 (zWL G L T E V M K) [(0, .ref (G.2.2 0 0)), (1, .int (T 4 0)), (2, .int (E 5 0)), (3, .int (L 6 0)), (4, .int 2147483647), (5, .int 0), (6, .int (-1)), (7, .int 1), (8, .int 6)] 271 [.int (-71)]
  refine zi_bipush (pc := 271) (v := (-71)) F dL_refuses_271 rfl ?_
  refine zi_icmp_ne (pc := 273) (tgt := 315) F dL_refuses_273 (by decide) (fun h => absurd h (by decide)) (fun _ => ?_)
  refine zi_iload (pc := 276) F dL_refuses_276 8 rfl ?_
  refine zi_iconst (pc := 278) (v := 5) F dL_refuses_278 rfl ?_
  refine zi_icmp_eq (pc := 279) (tgt := 311) F dL_refuses_279 (by decide) (fun h => absurd h (by decide)) (fun _ => ?_)
  refine zi_iload_n (pc := 282) F dL_refuses_282 1 rfl ?_
  refine zi_if_eq (pc := 283) (tgt := 311) F dL_refuses_283 (by decide) (fun _ => ?_) (fun h0 => ?_)
  · skip
    refine zi_iconst (pc := 311) (v := 1) F dL_refuses_311 rfl ?_
    refine zi_goto (pc := 312) (tgt := 316) F dL_refuses_312 (by decide) ?_
    refine zi_istore (pc := 316) (lv' := [(0, .ref (G.2.2 0 0)), (1, .int (T 4 0)), (2, .int (E 5 0)), (3, .int (L 6 0)), (4, .int 2147483647), (5, .int 0), (6, .int (-1)), (7, .int 1), (8, .int 6)]) F dL_refuses_316 (by decide) rfl ?_
    refine zi_widen (Nat.le_of_ble_eq_true rfl) (Nat.le_of_ble_eq_true rfl) kk
  · have h0 : ¬ T 4 0 ≤ 0 := fun h9 => by
      have t1 := zt_le h9
      have t2 := zt_ne h0
      have k_0 : Int32.toInt 0 = 0 := by decide
      obtain ⟨i1, i2⟩ := hIT
      omega
    refine zi_aload_n (pc := 286) F dL_refuses_286 0 rfl ?_
    refine zi_iload (pc := 287) F dL_refuses_287 8 rfl ?_
    refine zi_iconst (pc := 289) (v := 0) F dL_refuses_289 rfl ?_
    refine zi_iload (pc := 290) F dL_refuses_290 5 rfl ?_
    refine zi_iconst (pc := 292) (v := 1) F dL_refuses_292 rfl ?_
    refine zi_icmp_ne (pc := 293) (tgt := 301) F dL_refuses_293 (by decide) (fun _ => ?_) (fun h => absurd h (by decide))
    refine zi_iload (pc := 301) F dL_refuses_301 6 rfl ?_
    refine zi_callQH (pc := 303) (rest := []) F hsx hao (cr_6l l hfl G L T E V M K hIT hIE hIM (-1) h0 (Or.inl (by decide))) (vx_cwSW 4 F.1.2.2.2.2 gL_refuses_L_act rfl rfl rfl hd_L_act ⟨Nat.le_of_ble_eq_true rfl, Nat.le_of_ble_eq_true rfl⟩) [] [] (zw_nil _) (zw_nil _).symm rfl rfl (Nat.le_of_ble_eq_true rfl) dL_refuses_303 ⟨Nat.le_of_ble_eq_true rfl, Nat.le_of_ble_eq_true rfl⟩ ?_
    show zW p l e rmL_refuses s m args below meth c 10 60 Q G.1 A 9 (zWL G L T E V M K) [(0, .ref (G.2.2 0 0)), (1, .int (T 4 0)), (2, .int (E 5 0)), (3, .int (L 6 0)), (4, .int 2147483647), (5, .int 0), (6, .int (-1)), (7, .int 1), (8, .int 6)] 306 [.int (-72)]
    refine zi_bipush (pc := 306) (v := (-72)) F dL_refuses_306 rfl ?_
    refine zi_icmp_ne (pc := 308) (tgt := 315) F dL_refuses_308 (by decide) (fun h => absurd h (by decide)) (fun _ => ?_)
    refine zi_iconst (pc := 311) (v := 1) F dL_refuses_311 rfl ?_
    refine zi_goto (pc := 312) (tgt := 316) F dL_refuses_312 (by decide) ?_
    refine zi_istore (pc := 316) (lv' := [(0, .ref (G.2.2 0 0)), (1, .int (T 4 0)), (2, .int (E 5 0)), (3, .int (L 6 0)), (4, .int 2147483647), (5, .int 0), (6, .int (-1)), (7, .int 1), (8, .int 6)]) F dL_refuses_316 (by decide) rfl ?_
    exact kk
set_option maxHeartbeats 4000000 in
set_option maxRecDepth 100000 in
theorem sg_rf_0_w6i {p : Program} {l : Launch} {e : Env} {s : State} {m : MethodId} {args : Array Value} {below : List Frame} {meth : Method} {c : Code} {Q : State → Prop} {A : Nat → Prop} {G : zG_t} {L T E V M K : zS_t} (hfl : l.stackTraces = false) (hIT : zIT T) (hIE : zIE E) (hIM : zIM M) (F : zF p m c cL_refuses 9 s args wsL_refuses RL G.1 (zty G) A) (hsx : zSx s) (hao : zAOA s) (kk : zW p l e rmL_refuses s m args below meth c 10 60 Q G.1 A 9 (zWL G L T E V M K) [(0, .ref (G.2.2 0 0)), (1, .int (T 4 0)), (2, .int (E 5 0)), (3, .int (L 6 0)), (4, .int 2147483647), (5, .int 0), (6, .int (-1)), (7, .int 1), (8, .int 7)] 240 []) : zW p l e rmL_refuses s m args below meth c 10 60 Q G.1 A 9 (zWL G L T E V M K) [(0, .ref (G.2.2 0 0)), (1, .int (T 4 0)), (2, .int (E 5 0)), (3, .int (L 6 0)), (4, .int 2147483647), (5, .int 0), (6, .int (-1)), (7, .int 1), (8, .int 6)] 318 [] := by
  have k_max : Int32.toInt 2147483647 = 2147483647 := by decide
  have hmaxT : T 4 0 ≤ 2147483647 := Int32.le_iff_toInt_le.mpr (by rw [k_max]; have h9 := hIT.2; omega)
  have hmaxE : E 5 0 ≤ 2147483647 := Int32.le_iff_toInt_le.mpr (by rw [k_max]; have h9 := hIE.1.2; omega)
  refine zi_iinc (pc := 318) (lv' := [(0, .ref (G.2.2 0 0)), (1, .int (T 4 0)), (2, .int (E 5 0)), (3, .int (L 6 0)), (4, .int 2147483647), (5, .int 0), (6, .int (-1)), (7, .int 1), (8, .int 7)]) F dL_refuses_318 8 rfl (by decide) (by decide) rfl ?_
  refine zi_goto (pc := 321) (tgt := 240) F dL_refuses_321 (by decide) ?_
  exact kk
set_option maxHeartbeats 4000000 in
set_option maxRecDepth 100000 in
theorem sg_rf_0_w7 {p : Program} {l : Launch} {e : Env} {s : State} {m : MethodId} {args : Array Value} {below : List Frame} {meth : Method} {c : Code} {Q : State → Prop} {A : Nat → Prop} {G : zG_t} {L T E V M K : zS_t} (hfl : l.stackTraces = false) (hIT : zIT T) (hIE : zIE E) (hIM : zIM M) (F : zF p m c cL_refuses 9 s args wsL_refuses RL G.1 (zty G) A) (hsx : zSx s) (hao : zAOA s) (kk : zW p l e rmL_refuses s m args below meth c 12 72 Q G.1 A 9 (zWL G L T E V M K) [(0, .ref (G.2.2 0 0)), (1, .int (T 4 0)), (2, .int (E 5 0)), (3, .int (L 6 0)), (4, .int 2147483647), (5, .int 0), (6, .int (-1)), (7, .int 1), (8, .int 7)] 318 []) : zW p l e rmL_refuses s m args below meth c 10 60 Q G.1 A 9 (zWL G L T E V M K) [(0, .ref (G.2.2 0 0)), (1, .int (T 4 0)), (2, .int (E 5 0)), (3, .int (L 6 0)), (4, .int 2147483647), (5, .int 0), (6, .int (-1)), (7, .int 1), (8, .int 7)] 240 [] := by
  have k_max : Int32.toInt 2147483647 = 2147483647 := by decide
  have hmaxT : T 4 0 ≤ 2147483647 := Int32.le_iff_toInt_le.mpr (by rw [k_max]; have h9 := hIT.2; omega)
  have hmaxE : E 5 0 ≤ 2147483647 := Int32.le_iff_toInt_le.mpr (by rw [k_max]; have h9 := hIE.1.2; omega)
  refine zi_iload (pc := 240) F dL_refuses_240 8 rfl ?_
  refine zi_bipush (pc := 242) (v := 9) F dL_refuses_242 rfl ?_
  refine zi_icmp_ge (pc := 244) (tgt := 324) F dL_refuses_244 (by decide) (fun h => absurd h (by decide)) (fun _ => ?_)
  refine zi_iload (pc := 247) F dL_refuses_247 7 rfl ?_
  refine zi_if_eq (pc := 249) (tgt := 315) F dL_refuses_249 (by decide) (fun h => absurd h (by decide)) (fun _ => ?_)
  refine zi_aload_n (pc := 252) F dL_refuses_252 0 rfl ?_
  refine zi_iload (pc := 253) F dL_refuses_253 8 rfl ?_
  refine zi_iload (pc := 255) F dL_refuses_255 5 rfl ?_
  refine zi_iconst (pc := 257) (v := 1) F dL_refuses_257 rfl ?_
  refine zi_icmp_ne (pc := 258) (tgt := 265) F dL_refuses_258 (by decide) (fun _ => ?_) (fun h => absurd h (by decide))
  refine zi_iload (pc := 265) F dL_refuses_265 6 rfl ?_
  refine zi_iconst (pc := 267) (v := (-1)) F dL_refuses_267 rfl ?_
  refine zi_callQH (pc := 268) (rest := []) F hsx hao (cr_7 l hfl G L T E V M K hIT hIE hIM (-1) (-1) (Or.inl (by decide))) (vx_cwSW 4 F.1.2.2.2.2 gL_refuses_L_act rfl rfl rfl hd_L_act ⟨Nat.le_of_ble_eq_true rfl, Nat.le_of_ble_eq_true rfl⟩) [] [] (zw_nil _) (zw_nil _).symm rfl rfl (Nat.le_of_ble_eq_true rfl) dL_refuses_268 ⟨Nat.le_of_ble_eq_true rfl, Nat.le_of_ble_eq_true rfl⟩ ?_
  show zW p l e rmL_refuses s m args below meth c 11 66 Q G.1 A 9 (zWL G L T E V M K) [(0, .ref (G.2.2 0 0)), (1, .int (T 4 0)), (2, .int (E 5 0)), (3, .int (L 6 0)), (4, .int 2147483647), (5, .int 0), (6, .int (-1)), (7, .int 1), (8, .int 7)] 271 [.int (-71)]
  refine zi_bipush (pc := 271) (v := (-71)) F dL_refuses_271 rfl ?_
  refine zi_icmp_ne (pc := 273) (tgt := 315) F dL_refuses_273 (by decide) (fun h => absurd h (by decide)) (fun _ => ?_)
  refine zi_iload (pc := 276) F dL_refuses_276 8 rfl ?_
  refine zi_iconst (pc := 278) (v := 5) F dL_refuses_278 rfl ?_
  refine zi_icmp_eq (pc := 279) (tgt := 311) F dL_refuses_279 (by decide) (fun h => absurd h (by decide)) (fun _ => ?_)
  refine zi_iload_n (pc := 282) F dL_refuses_282 1 rfl ?_
  refine zi_if_eq (pc := 283) (tgt := 311) F dL_refuses_283 (by decide) (fun _ => ?_) (fun h0 => ?_)
  · skip
    refine zi_iconst (pc := 311) (v := 1) F dL_refuses_311 rfl ?_
    refine zi_goto (pc := 312) (tgt := 316) F dL_refuses_312 (by decide) ?_
    refine zi_istore (pc := 316) (lv' := [(0, .ref (G.2.2 0 0)), (1, .int (T 4 0)), (2, .int (E 5 0)), (3, .int (L 6 0)), (4, .int 2147483647), (5, .int 0), (6, .int (-1)), (7, .int 1), (8, .int 7)]) F dL_refuses_316 (by decide) rfl ?_
    refine zi_widen (Nat.le_of_ble_eq_true rfl) (Nat.le_of_ble_eq_true rfl) kk
  · have h0 : ¬ T 4 0 ≤ 0 := fun h9 => by
      have t1 := zt_le h9
      have t2 := zt_ne h0
      have k_0 : Int32.toInt 0 = 0 := by decide
      obtain ⟨i1, i2⟩ := hIT
      omega
    refine zi_aload_n (pc := 286) F dL_refuses_286 0 rfl ?_
    refine zi_iload (pc := 287) F dL_refuses_287 8 rfl ?_
    refine zi_iconst (pc := 289) (v := 0) F dL_refuses_289 rfl ?_
    refine zi_iload (pc := 290) F dL_refuses_290 5 rfl ?_
    refine zi_iconst (pc := 292) (v := 1) F dL_refuses_292 rfl ?_
    refine zi_icmp_ne (pc := 293) (tgt := 301) F dL_refuses_293 (by decide) (fun _ => ?_) (fun h => absurd h (by decide))
    refine zi_iload (pc := 301) F dL_refuses_301 6 rfl ?_
    refine zi_callQH (pc := 303) (rest := []) F hsx hao (cr_7l l hfl G L T E V M K hIT hIE hIM (-1) h0 (Or.inl (by decide))) (vx_cwSW 4 F.1.2.2.2.2 gL_refuses_L_act rfl rfl rfl hd_L_act ⟨Nat.le_of_ble_eq_true rfl, Nat.le_of_ble_eq_true rfl⟩) [] [] (zw_nil _) (zw_nil _).symm rfl rfl (Nat.le_of_ble_eq_true rfl) dL_refuses_303 ⟨Nat.le_of_ble_eq_true rfl, Nat.le_of_ble_eq_true rfl⟩ ?_
    show zW p l e rmL_refuses s m args below meth c 12 72 Q G.1 A 9 (zWL G L T E V M K) [(0, .ref (G.2.2 0 0)), (1, .int (T 4 0)), (2, .int (E 5 0)), (3, .int (L 6 0)), (4, .int 2147483647), (5, .int 0), (6, .int (-1)), (7, .int 1), (8, .int 7)] 306 [.int (-72)]
    refine zi_bipush (pc := 306) (v := (-72)) F dL_refuses_306 rfl ?_
    refine zi_icmp_ne (pc := 308) (tgt := 315) F dL_refuses_308 (by decide) (fun h => absurd h (by decide)) (fun _ => ?_)
    refine zi_iconst (pc := 311) (v := 1) F dL_refuses_311 rfl ?_
    refine zi_goto (pc := 312) (tgt := 316) F dL_refuses_312 (by decide) ?_
    refine zi_istore (pc := 316) (lv' := [(0, .ref (G.2.2 0 0)), (1, .int (T 4 0)), (2, .int (E 5 0)), (3, .int (L 6 0)), (4, .int 2147483647), (5, .int 0), (6, .int (-1)), (7, .int 1), (8, .int 7)]) F dL_refuses_316 (by decide) rfl ?_
    exact kk
set_option maxHeartbeats 4000000 in
set_option maxRecDepth 100000 in
theorem sg_rf_0_w7i {p : Program} {l : Launch} {e : Env} {s : State} {m : MethodId} {args : Array Value} {below : List Frame} {meth : Method} {c : Code} {Q : State → Prop} {A : Nat → Prop} {G : zG_t} {L T E V M K : zS_t} (hfl : l.stackTraces = false) (hIT : zIT T) (hIE : zIE E) (hIM : zIM M) (F : zF p m c cL_refuses 9 s args wsL_refuses RL G.1 (zty G) A) (hsx : zSx s) (hao : zAOA s) (kk : zW p l e rmL_refuses s m args below meth c 12 72 Q G.1 A 9 (zWL G L T E V M K) [(0, .ref (G.2.2 0 0)), (1, .int (T 4 0)), (2, .int (E 5 0)), (3, .int (L 6 0)), (4, .int 2147483647), (5, .int 0), (6, .int (-1)), (7, .int 1), (8, .int 8)] 240 []) : zW p l e rmL_refuses s m args below meth c 12 72 Q G.1 A 9 (zWL G L T E V M K) [(0, .ref (G.2.2 0 0)), (1, .int (T 4 0)), (2, .int (E 5 0)), (3, .int (L 6 0)), (4, .int 2147483647), (5, .int 0), (6, .int (-1)), (7, .int 1), (8, .int 7)] 318 [] := by
  have k_max : Int32.toInt 2147483647 = 2147483647 := by decide
  have hmaxT : T 4 0 ≤ 2147483647 := Int32.le_iff_toInt_le.mpr (by rw [k_max]; have h9 := hIT.2; omega)
  have hmaxE : E 5 0 ≤ 2147483647 := Int32.le_iff_toInt_le.mpr (by rw [k_max]; have h9 := hIE.1.2; omega)
  refine zi_iinc (pc := 318) (lv' := [(0, .ref (G.2.2 0 0)), (1, .int (T 4 0)), (2, .int (E 5 0)), (3, .int (L 6 0)), (4, .int 2147483647), (5, .int 0), (6, .int (-1)), (7, .int 1), (8, .int 8)]) F dL_refuses_318 8 rfl (by decide) (by decide) rfl ?_
  refine zi_goto (pc := 321) (tgt := 240) F dL_refuses_321 (by decide) ?_
  exact kk
set_option maxHeartbeats 4000000 in
set_option maxRecDepth 100000 in
theorem sg_rf_0_w8 {p : Program} {l : Launch} {e : Env} {s : State} {m : MethodId} {args : Array Value} {below : List Frame} {meth : Method} {c : Code} {Q : State → Prop} {A : Nat → Prop} {G : zG_t} {L T E V M K : zS_t} (hfl : l.stackTraces = false) (hIT : zIT T) (hIE : zIE E) (hIM : zIM M) (F : zF p m c cL_refuses 9 s args wsL_refuses RL G.1 (zty G) A) (hsx : zSx s) (hao : zAOA s) (kk : zW p l e rmL_refuses s m args below meth c 14 84 Q G.1 A 9 (zWL G L T E V M K) [(0, .ref (G.2.2 0 0)), (1, .int (T 4 0)), (2, .int (E 5 0)), (3, .int (L 6 0)), (4, .int 2147483647), (5, .int 0), (6, .int (-1)), (7, .int 1), (8, .int 8)] 318 []) : zW p l e rmL_refuses s m args below meth c 12 72 Q G.1 A 9 (zWL G L T E V M K) [(0, .ref (G.2.2 0 0)), (1, .int (T 4 0)), (2, .int (E 5 0)), (3, .int (L 6 0)), (4, .int 2147483647), (5, .int 0), (6, .int (-1)), (7, .int 1), (8, .int 8)] 240 [] := by
  have k_max : Int32.toInt 2147483647 = 2147483647 := by decide
  have hmaxT : T 4 0 ≤ 2147483647 := Int32.le_iff_toInt_le.mpr (by rw [k_max]; have h9 := hIT.2; omega)
  have hmaxE : E 5 0 ≤ 2147483647 := Int32.le_iff_toInt_le.mpr (by rw [k_max]; have h9 := hIE.1.2; omega)
  refine zi_iload (pc := 240) F dL_refuses_240 8 rfl ?_
  refine zi_bipush (pc := 242) (v := 9) F dL_refuses_242 rfl ?_
  refine zi_icmp_ge (pc := 244) (tgt := 324) F dL_refuses_244 (by decide) (fun h => absurd h (by decide)) (fun _ => ?_)
  refine zi_iload (pc := 247) F dL_refuses_247 7 rfl ?_
  refine zi_if_eq (pc := 249) (tgt := 315) F dL_refuses_249 (by decide) (fun h => absurd h (by decide)) (fun _ => ?_)
  refine zi_aload_n (pc := 252) F dL_refuses_252 0 rfl ?_
  refine zi_iload (pc := 253) F dL_refuses_253 8 rfl ?_
  refine zi_iload (pc := 255) F dL_refuses_255 5 rfl ?_
  refine zi_iconst (pc := 257) (v := 1) F dL_refuses_257 rfl ?_
  refine zi_icmp_ne (pc := 258) (tgt := 265) F dL_refuses_258 (by decide) (fun _ => ?_) (fun h => absurd h (by decide))
  refine zi_iload (pc := 265) F dL_refuses_265 6 rfl ?_
  refine zi_iconst (pc := 267) (v := (-1)) F dL_refuses_267 rfl ?_
  refine zi_callQH (pc := 268) (rest := []) F hsx hao (cr_8 l hfl G L T E V M K hIT hIE hIM (-1) (-1) (Or.inl (by decide))) (vx_cwSW 4 F.1.2.2.2.2 gL_refuses_L_act rfl rfl rfl hd_L_act ⟨Nat.le_of_ble_eq_true rfl, Nat.le_of_ble_eq_true rfl⟩) [] [] (zw_nil _) (zw_nil _).symm rfl rfl (Nat.le_of_ble_eq_true rfl) dL_refuses_268 ⟨Nat.le_of_ble_eq_true rfl, Nat.le_of_ble_eq_true rfl⟩ ?_
  show zW p l e rmL_refuses s m args below meth c 13 78 Q G.1 A 9 (zWL G L T E V M K) [(0, .ref (G.2.2 0 0)), (1, .int (T 4 0)), (2, .int (E 5 0)), (3, .int (L 6 0)), (4, .int 2147483647), (5, .int 0), (6, .int (-1)), (7, .int 1), (8, .int 8)] 271 [.int (-71)]
  refine zi_bipush (pc := 271) (v := (-71)) F dL_refuses_271 rfl ?_
  refine zi_icmp_ne (pc := 273) (tgt := 315) F dL_refuses_273 (by decide) (fun h => absurd h (by decide)) (fun _ => ?_)
  refine zi_iload (pc := 276) F dL_refuses_276 8 rfl ?_
  refine zi_iconst (pc := 278) (v := 5) F dL_refuses_278 rfl ?_
  refine zi_icmp_eq (pc := 279) (tgt := 311) F dL_refuses_279 (by decide) (fun h => absurd h (by decide)) (fun _ => ?_)
  refine zi_iload_n (pc := 282) F dL_refuses_282 1 rfl ?_
  refine zi_if_eq (pc := 283) (tgt := 311) F dL_refuses_283 (by decide) (fun _ => ?_) (fun h0 => ?_)
  · skip
    refine zi_iconst (pc := 311) (v := 1) F dL_refuses_311 rfl ?_
    refine zi_goto (pc := 312) (tgt := 316) F dL_refuses_312 (by decide) ?_
    refine zi_istore (pc := 316) (lv' := [(0, .ref (G.2.2 0 0)), (1, .int (T 4 0)), (2, .int (E 5 0)), (3, .int (L 6 0)), (4, .int 2147483647), (5, .int 0), (6, .int (-1)), (7, .int 1), (8, .int 8)]) F dL_refuses_316 (by decide) rfl ?_
    refine zi_widen (Nat.le_of_ble_eq_true rfl) (Nat.le_of_ble_eq_true rfl) kk
  · have h0 : ¬ T 4 0 ≤ 0 := fun h9 => by
      have t1 := zt_le h9
      have t2 := zt_ne h0
      have k_0 : Int32.toInt 0 = 0 := by decide
      obtain ⟨i1, i2⟩ := hIT
      omega
    refine zi_aload_n (pc := 286) F dL_refuses_286 0 rfl ?_
    refine zi_iload (pc := 287) F dL_refuses_287 8 rfl ?_
    refine zi_iconst (pc := 289) (v := 0) F dL_refuses_289 rfl ?_
    refine zi_iload (pc := 290) F dL_refuses_290 5 rfl ?_
    refine zi_iconst (pc := 292) (v := 1) F dL_refuses_292 rfl ?_
    refine zi_icmp_ne (pc := 293) (tgt := 301) F dL_refuses_293 (by decide) (fun _ => ?_) (fun h => absurd h (by decide))
    refine zi_iload (pc := 301) F dL_refuses_301 6 rfl ?_
    refine zi_callQH (pc := 303) (rest := []) F hsx hao (cr_8l l hfl G L T E V M K hIT hIE hIM (-1) h0 (Or.inl (by decide))) (vx_cwSW 4 F.1.2.2.2.2 gL_refuses_L_act rfl rfl rfl hd_L_act ⟨Nat.le_of_ble_eq_true rfl, Nat.le_of_ble_eq_true rfl⟩) [] [] (zw_nil _) (zw_nil _).symm rfl rfl (Nat.le_of_ble_eq_true rfl) dL_refuses_303 ⟨Nat.le_of_ble_eq_true rfl, Nat.le_of_ble_eq_true rfl⟩ ?_
    show zW p l e rmL_refuses s m args below meth c 14 84 Q G.1 A 9 (zWL G L T E V M K) [(0, .ref (G.2.2 0 0)), (1, .int (T 4 0)), (2, .int (E 5 0)), (3, .int (L 6 0)), (4, .int 2147483647), (5, .int 0), (6, .int (-1)), (7, .int 1), (8, .int 8)] 306 [.int (-72)]
    refine zi_bipush (pc := 306) (v := (-72)) F dL_refuses_306 rfl ?_
    refine zi_icmp_ne (pc := 308) (tgt := 315) F dL_refuses_308 (by decide) (fun h => absurd h (by decide)) (fun _ => ?_)
    refine zi_iconst (pc := 311) (v := 1) F dL_refuses_311 rfl ?_
    refine zi_goto (pc := 312) (tgt := 316) F dL_refuses_312 (by decide) ?_
    refine zi_istore (pc := 316) (lv' := [(0, .ref (G.2.2 0 0)), (1, .int (T 4 0)), (2, .int (E 5 0)), (3, .int (L 6 0)), (4, .int 2147483647), (5, .int 0), (6, .int (-1)), (7, .int 1), (8, .int 8)]) F dL_refuses_316 (by decide) rfl ?_
    exact kk
set_option maxHeartbeats 4000000 in
set_option maxRecDepth 100000 in
theorem sg_rf_0_w8i {p : Program} {l : Launch} {e : Env} {s : State} {m : MethodId} {args : Array Value} {below : List Frame} {meth : Method} {c : Code} {Q : State → Prop} {A : Nat → Prop} {G : zG_t} {L T E V M K : zS_t} (hfl : l.stackTraces = false) (hIT : zIT T) (hIE : zIE E) (hIM : zIM M) (F : zF p m c cL_refuses 9 s args wsL_refuses RL G.1 (zty G) A) (hsx : zSx s) (hao : zAOA s) (kk : zW p l e rmL_refuses s m args below meth c 14 84 Q G.1 A 9 (zWL G L T E V M K) [(0, .ref (G.2.2 0 0)), (1, .int (T 4 0)), (2, .int (E 5 0)), (3, .int (L 6 0)), (4, .int 2147483647), (5, .int 0), (6, .int (-1)), (7, .int 1), (8, .int 9)] 240 []) : zW p l e rmL_refuses s m args below meth c 14 84 Q G.1 A 9 (zWL G L T E V M K) [(0, .ref (G.2.2 0 0)), (1, .int (T 4 0)), (2, .int (E 5 0)), (3, .int (L 6 0)), (4, .int 2147483647), (5, .int 0), (6, .int (-1)), (7, .int 1), (8, .int 8)] 318 [] := by
  have k_max : Int32.toInt 2147483647 = 2147483647 := by decide
  have hmaxT : T 4 0 ≤ 2147483647 := Int32.le_iff_toInt_le.mpr (by rw [k_max]; have h9 := hIT.2; omega)
  have hmaxE : E 5 0 ≤ 2147483647 := Int32.le_iff_toInt_le.mpr (by rw [k_max]; have h9 := hIE.1.2; omega)
  refine zi_iinc (pc := 318) (lv' := [(0, .ref (G.2.2 0 0)), (1, .int (T 4 0)), (2, .int (E 5 0)), (3, .int (L 6 0)), (4, .int 2147483647), (5, .int 0), (6, .int (-1)), (7, .int 1), (8, .int 9)]) F dL_refuses_318 8 rfl (by decide) (by decide) rfl ?_
  refine zi_goto (pc := 321) (tgt := 240) F dL_refuses_321 (by decide) ?_
  exact kk
set_option maxHeartbeats 4000000 in
set_option maxRecDepth 100000 in
theorem sg_rf_0_c {p : Program} {l : Launch} {e : Env} {s : State} {m : MethodId} {args : Array Value} {below : List Frame} {meth : Method} {c : Code} {Q : State → Prop} {A : Nat → Prop} {G : zG_t} {L T E V M K : zS_t} (hfl : l.stackTraces = false) (hIT : zIT T) (hIE : zIE E) (hIM : zIM M) (F : zF p m c cL_refuses 9 s args wsL_refuses RL G.1 (zty G) A) (hsx : zSx s) (hao : zAOA s) (kk : zW p l e rmL_refuses s m args below meth c 14 84 Q G.1 A 9 (zWL G L T E V M K) [(0, .ref (G.2.2 0 0)), (1, .int (T 4 0)), (2, .int (E 5 0)), (3, .int (L 6 0)), (4, .int 2147483647), (5, .int 0), (6, .int (-1)), (7, .int 1), (8, .int 9)] 328 []) : zW p l e rmL_refuses s m args below meth c 14 84 Q G.1 A 9 (zWL G L T E V M K) [(0, .ref (G.2.2 0 0)), (1, .int (T 4 0)), (2, .int (E 5 0)), (3, .int (L 6 0)), (4, .int 2147483647), (5, .int 0), (6, .int (-1)), (7, .int 1), (8, .int 9)] 240 [] := by
  have k_max : Int32.toInt 2147483647 = 2147483647 := by decide
  have hmaxT : T 4 0 ≤ 2147483647 := Int32.le_iff_toInt_le.mpr (by rw [k_max]; have h9 := hIT.2; omega)
  have hmaxE : E 5 0 ≤ 2147483647 := Int32.le_iff_toInt_le.mpr (by rw [k_max]; have h9 := hIE.1.2; omega)
  refine zi_iload (pc := 240) F dL_refuses_240 8 rfl ?_
  refine zi_bipush (pc := 242) (v := 9) F dL_refuses_242 rfl ?_
  refine zi_icmp_ge (pc := 244) (tgt := 324) F dL_refuses_244 (by decide) (fun _ => ?_) (fun h => absurd h (by decide))
  refine zi_bipush (pc := 324) (v := 9) F dL_refuses_324 rfl ?_
  refine zi_istore (pc := 326) (lv' := [(0, .ref (G.2.2 0 0)), (1, .int (T 4 0)), (2, .int (E 5 0)), (3, .int (L 6 0)), (4, .int 2147483647), (5, .int 0), (6, .int (-1)), (7, .int 1), (8, .int 9)]) F dL_refuses_326 (by decide) rfl ?_
  exact kk
set_option maxHeartbeats 4000000 in
set_option maxRecDepth 100000 in
theorem sg_rf_0_w9 {p : Program} {l : Launch} {e : Env} {s : State} {m : MethodId} {args : Array Value} {below : List Frame} {meth : Method} {c : Code} {Q : State → Prop} {A : Nat → Prop} {G : zG_t} {L T E V M K : zS_t} (hfl : l.stackTraces = false) (hIT : zIT T) (hIE : zIE E) (hIM : zIM M) (F : zF p m c cL_refuses 9 s args wsL_refuses RL G.1 (zty G) A) (hsx : zSx s) (hao : zAOA s) (kk : zW p l e rmL_refuses s m args below meth c 15 90 Q G.1 A 9 (zWL G L T E V M K) [(0, .ref (G.2.2 0 0)), (1, .int (T 4 0)), (2, .int (E 5 0)), (3, .int (L 6 0)), (4, .int 2147483647), (5, .int 0), (6, .int (-1)), (7, .int 1), (8, .int 9)] 371 []) : zW p l e rmL_refuses s m args below meth c 14 84 Q G.1 A 9 (zWL G L T E V M K) [(0, .ref (G.2.2 0 0)), (1, .int (T 4 0)), (2, .int (E 5 0)), (3, .int (L 6 0)), (4, .int 2147483647), (5, .int 0), (6, .int (-1)), (7, .int 1), (8, .int 9)] 328 [] := by
  have k_max : Int32.toInt 2147483647 = 2147483647 := by decide
  have hmaxT : T 4 0 ≤ 2147483647 := Int32.le_iff_toInt_le.mpr (by rw [k_max]; have h9 := hIT.2; omega)
  have hmaxE : E 5 0 ≤ 2147483647 := Int32.le_iff_toInt_le.mpr (by rw [k_max]; have h9 := hIE.1.2; omega)
  refine zi_iload (pc := 328) F dL_refuses_328 8 rfl ?_
  refine zi_bipush (pc := 330) (v := 13) F dL_refuses_330 rfl ?_
  refine zi_icmp_ge (pc := 332) (tgt := 377) F dL_refuses_332 (by decide) (fun h => absurd h (by decide)) (fun _ => ?_)
  refine zi_iload (pc := 335) F dL_refuses_335 7 rfl ?_
  refine zi_if_eq (pc := 337) (tgt := 368) F dL_refuses_337 (by decide) (fun h => absurd h (by decide)) (fun _ => ?_)
  refine zi_aload_n (pc := 340) F dL_refuses_340 0 rfl ?_
  refine zi_iload (pc := 341) F dL_refuses_341 8 rfl ?_
  refine zi_iload (pc := 343) F dL_refuses_343 5 rfl ?_
  refine zi_iconst (pc := 345) (v := 1) F dL_refuses_345 rfl ?_
  refine zi_icmp_ne (pc := 346) (tgt := 353) F dL_refuses_346 (by decide) (fun _ => ?_) (fun h => absurd h (by decide))
  refine zi_iload (pc := 353) F dL_refuses_353 6 rfl ?_
  refine zi_iconst (pc := 355) (v := 0) F dL_refuses_355 rfl ?_
  refine zi_callQH (pc := 356) (rest := []) F hsx hao (cr_9 l hfl G L T E V M K hIT hIE hIM (-1) 0 (Or.inl (by decide))) (vx_cwSW 4 F.1.2.2.2.2 gL_refuses_L_act rfl rfl rfl hd_L_act ⟨Nat.le_of_ble_eq_true rfl, Nat.le_of_ble_eq_true rfl⟩) [] [] (zw_nil _) (zw_nil _).symm rfl rfl (Nat.le_of_ble_eq_true rfl) dL_refuses_356 ⟨Nat.le_of_ble_eq_true rfl, Nat.le_of_ble_eq_true rfl⟩ ?_
  show zW p l e rmL_refuses s m args below meth c 15 90 Q G.1 A 9 (zWL G L T E V M K) [(0, .ref (G.2.2 0 0)), (1, .int (T 4 0)), (2, .int (E 5 0)), (3, .int (L 6 0)), (4, .int 2147483647), (5, .int 0), (6, .int (-1)), (7, .int 1), (8, .int 9)] 359 [.int (-71)]
  refine zi_bipush (pc := 359) (v := (-71)) F dL_refuses_359 rfl ?_
  refine zi_icmp_ne (pc := 361) (tgt := 368) F dL_refuses_361 (by decide) (fun h => absurd h (by decide)) (fun _ => ?_)
  refine zi_iconst (pc := 364) (v := 1) F dL_refuses_364 rfl ?_
  refine zi_goto (pc := 365) (tgt := 369) F dL_refuses_365 (by decide) ?_
  refine zi_istore (pc := 369) (lv' := [(0, .ref (G.2.2 0 0)), (1, .int (T 4 0)), (2, .int (E 5 0)), (3, .int (L 6 0)), (4, .int 2147483647), (5, .int 0), (6, .int (-1)), (7, .int 1), (8, .int 9)]) F dL_refuses_369 (by decide) rfl ?_
  exact kk
set_option maxHeartbeats 4000000 in
set_option maxRecDepth 100000 in
theorem sg_rf_0_w9i {p : Program} {l : Launch} {e : Env} {s : State} {m : MethodId} {args : Array Value} {below : List Frame} {meth : Method} {c : Code} {Q : State → Prop} {A : Nat → Prop} {G : zG_t} {L T E V M K : zS_t} (hfl : l.stackTraces = false) (hIT : zIT T) (hIE : zIE E) (hIM : zIM M) (F : zF p m c cL_refuses 9 s args wsL_refuses RL G.1 (zty G) A) (hsx : zSx s) (hao : zAOA s) (kk : zW p l e rmL_refuses s m args below meth c 15 90 Q G.1 A 9 (zWL G L T E V M K) [(0, .ref (G.2.2 0 0)), (1, .int (T 4 0)), (2, .int (E 5 0)), (3, .int (L 6 0)), (4, .int 2147483647), (5, .int 0), (6, .int (-1)), (7, .int 1), (8, .int 10)] 328 []) : zW p l e rmL_refuses s m args below meth c 15 90 Q G.1 A 9 (zWL G L T E V M K) [(0, .ref (G.2.2 0 0)), (1, .int (T 4 0)), (2, .int (E 5 0)), (3, .int (L 6 0)), (4, .int 2147483647), (5, .int 0), (6, .int (-1)), (7, .int 1), (8, .int 9)] 371 [] := by
  have k_max : Int32.toInt 2147483647 = 2147483647 := by decide
  have hmaxT : T 4 0 ≤ 2147483647 := Int32.le_iff_toInt_le.mpr (by rw [k_max]; have h9 := hIT.2; omega)
  have hmaxE : E 5 0 ≤ 2147483647 := Int32.le_iff_toInt_le.mpr (by rw [k_max]; have h9 := hIE.1.2; omega)
  refine zi_iinc (pc := 371) (lv' := [(0, .ref (G.2.2 0 0)), (1, .int (T 4 0)), (2, .int (E 5 0)), (3, .int (L 6 0)), (4, .int 2147483647), (5, .int 0), (6, .int (-1)), (7, .int 1), (8, .int 10)]) F dL_refuses_371 8 rfl (by decide) (by decide) rfl ?_
  refine zi_goto (pc := 374) (tgt := 328) F dL_refuses_374 (by decide) ?_
  exact kk
set_option maxHeartbeats 4000000 in
set_option maxRecDepth 100000 in
theorem sg_rf_0_w10 {p : Program} {l : Launch} {e : Env} {s : State} {m : MethodId} {args : Array Value} {below : List Frame} {meth : Method} {c : Code} {Q : State → Prop} {A : Nat → Prop} {G : zG_t} {L T E V M K : zS_t} (hfl : l.stackTraces = false) (hIT : zIT T) (hIE : zIE E) (hIM : zIM M) (F : zF p m c cL_refuses 9 s args wsL_refuses RL G.1 (zty G) A) (hsx : zSx s) (hao : zAOA s) (kk : zW p l e rmL_refuses s m args below meth c 16 96 Q G.1 A 9 (zWL G L T E V M K) [(0, .ref (G.2.2 0 0)), (1, .int (T 4 0)), (2, .int (E 5 0)), (3, .int (L 6 0)), (4, .int 2147483647), (5, .int 0), (6, .int (-1)), (7, .int 1), (8, .int 10)] 371 []) : zW p l e rmL_refuses s m args below meth c 15 90 Q G.1 A 9 (zWL G L T E V M K) [(0, .ref (G.2.2 0 0)), (1, .int (T 4 0)), (2, .int (E 5 0)), (3, .int (L 6 0)), (4, .int 2147483647), (5, .int 0), (6, .int (-1)), (7, .int 1), (8, .int 10)] 328 [] := by
  have k_max : Int32.toInt 2147483647 = 2147483647 := by decide
  have hmaxT : T 4 0 ≤ 2147483647 := Int32.le_iff_toInt_le.mpr (by rw [k_max]; have h9 := hIT.2; omega)
  have hmaxE : E 5 0 ≤ 2147483647 := Int32.le_iff_toInt_le.mpr (by rw [k_max]; have h9 := hIE.1.2; omega)
  refine zi_iload (pc := 328) F dL_refuses_328 8 rfl ?_
  refine zi_bipush (pc := 330) (v := 13) F dL_refuses_330 rfl ?_
  refine zi_icmp_ge (pc := 332) (tgt := 377) F dL_refuses_332 (by decide) (fun h => absurd h (by decide)) (fun _ => ?_)
  refine zi_iload (pc := 335) F dL_refuses_335 7 rfl ?_
  refine zi_if_eq (pc := 337) (tgt := 368) F dL_refuses_337 (by decide) (fun h => absurd h (by decide)) (fun _ => ?_)
  refine zi_aload_n (pc := 340) F dL_refuses_340 0 rfl ?_
  refine zi_iload (pc := 341) F dL_refuses_341 8 rfl ?_
  refine zi_iload (pc := 343) F dL_refuses_343 5 rfl ?_
  refine zi_iconst (pc := 345) (v := 1) F dL_refuses_345 rfl ?_
  refine zi_icmp_ne (pc := 346) (tgt := 353) F dL_refuses_346 (by decide) (fun _ => ?_) (fun h => absurd h (by decide))
  refine zi_iload (pc := 353) F dL_refuses_353 6 rfl ?_
  refine zi_iconst (pc := 355) (v := 0) F dL_refuses_355 rfl ?_
  refine zi_callQH (pc := 356) (rest := []) F hsx hao (cr_10 l hfl G L T E V M K hIT hIE hIM (-1) 0 (Or.inl (by decide))) (vx_cwSW 4 F.1.2.2.2.2 gL_refuses_L_act rfl rfl rfl hd_L_act ⟨Nat.le_of_ble_eq_true rfl, Nat.le_of_ble_eq_true rfl⟩) [] [] (zw_nil _) (zw_nil _).symm rfl rfl (Nat.le_of_ble_eq_true rfl) dL_refuses_356 ⟨Nat.le_of_ble_eq_true rfl, Nat.le_of_ble_eq_true rfl⟩ ?_
  show zW p l e rmL_refuses s m args below meth c 16 96 Q G.1 A 9 (zWL G L T E V M K) [(0, .ref (G.2.2 0 0)), (1, .int (T 4 0)), (2, .int (E 5 0)), (3, .int (L 6 0)), (4, .int 2147483647), (5, .int 0), (6, .int (-1)), (7, .int 1), (8, .int 10)] 359 [.int (-71)]
  refine zi_bipush (pc := 359) (v := (-71)) F dL_refuses_359 rfl ?_
  refine zi_icmp_ne (pc := 361) (tgt := 368) F dL_refuses_361 (by decide) (fun h => absurd h (by decide)) (fun _ => ?_)
  refine zi_iconst (pc := 364) (v := 1) F dL_refuses_364 rfl ?_
  refine zi_goto (pc := 365) (tgt := 369) F dL_refuses_365 (by decide) ?_
  refine zi_istore (pc := 369) (lv' := [(0, .ref (G.2.2 0 0)), (1, .int (T 4 0)), (2, .int (E 5 0)), (3, .int (L 6 0)), (4, .int 2147483647), (5, .int 0), (6, .int (-1)), (7, .int 1), (8, .int 10)]) F dL_refuses_369 (by decide) rfl ?_
  exact kk
set_option maxHeartbeats 4000000 in
set_option maxRecDepth 100000 in
theorem sg_rf_0_w10i {p : Program} {l : Launch} {e : Env} {s : State} {m : MethodId} {args : Array Value} {below : List Frame} {meth : Method} {c : Code} {Q : State → Prop} {A : Nat → Prop} {G : zG_t} {L T E V M K : zS_t} (hfl : l.stackTraces = false) (hIT : zIT T) (hIE : zIE E) (hIM : zIM M) (F : zF p m c cL_refuses 9 s args wsL_refuses RL G.1 (zty G) A) (hsx : zSx s) (hao : zAOA s) (kk : zW p l e rmL_refuses s m args below meth c 16 96 Q G.1 A 9 (zWL G L T E V M K) [(0, .ref (G.2.2 0 0)), (1, .int (T 4 0)), (2, .int (E 5 0)), (3, .int (L 6 0)), (4, .int 2147483647), (5, .int 0), (6, .int (-1)), (7, .int 1), (8, .int 11)] 328 []) : zW p l e rmL_refuses s m args below meth c 16 96 Q G.1 A 9 (zWL G L T E V M K) [(0, .ref (G.2.2 0 0)), (1, .int (T 4 0)), (2, .int (E 5 0)), (3, .int (L 6 0)), (4, .int 2147483647), (5, .int 0), (6, .int (-1)), (7, .int 1), (8, .int 10)] 371 [] := by
  have k_max : Int32.toInt 2147483647 = 2147483647 := by decide
  have hmaxT : T 4 0 ≤ 2147483647 := Int32.le_iff_toInt_le.mpr (by rw [k_max]; have h9 := hIT.2; omega)
  have hmaxE : E 5 0 ≤ 2147483647 := Int32.le_iff_toInt_le.mpr (by rw [k_max]; have h9 := hIE.1.2; omega)
  refine zi_iinc (pc := 371) (lv' := [(0, .ref (G.2.2 0 0)), (1, .int (T 4 0)), (2, .int (E 5 0)), (3, .int (L 6 0)), (4, .int 2147483647), (5, .int 0), (6, .int (-1)), (7, .int 1), (8, .int 11)]) F dL_refuses_371 8 rfl (by decide) (by decide) rfl ?_
  refine zi_goto (pc := 374) (tgt := 328) F dL_refuses_374 (by decide) ?_
  exact kk
set_option maxHeartbeats 4000000 in
set_option maxRecDepth 100000 in
theorem sg_rf_0_w11 {p : Program} {l : Launch} {e : Env} {s : State} {m : MethodId} {args : Array Value} {below : List Frame} {meth : Method} {c : Code} {Q : State → Prop} {A : Nat → Prop} {G : zG_t} {L T E V M K : zS_t} (hfl : l.stackTraces = false) (hIT : zIT T) (hIE : zIE E) (hIM : zIM M) (F : zF p m c cL_refuses 9 s args wsL_refuses RL G.1 (zty G) A) (hsx : zSx s) (hao : zAOA s) (kk : zW p l e rmL_refuses s m args below meth c 17 102 Q G.1 A 9 (zWL G L T E V M K) [(0, .ref (G.2.2 0 0)), (1, .int (T 4 0)), (2, .int (E 5 0)), (3, .int (L 6 0)), (4, .int 2147483647), (5, .int 0), (6, .int (-1)), (7, .int 1), (8, .int 11)] 371 []) : zW p l e rmL_refuses s m args below meth c 16 96 Q G.1 A 9 (zWL G L T E V M K) [(0, .ref (G.2.2 0 0)), (1, .int (T 4 0)), (2, .int (E 5 0)), (3, .int (L 6 0)), (4, .int 2147483647), (5, .int 0), (6, .int (-1)), (7, .int 1), (8, .int 11)] 328 [] := by
  have k_max : Int32.toInt 2147483647 = 2147483647 := by decide
  have hmaxT : T 4 0 ≤ 2147483647 := Int32.le_iff_toInt_le.mpr (by rw [k_max]; have h9 := hIT.2; omega)
  have hmaxE : E 5 0 ≤ 2147483647 := Int32.le_iff_toInt_le.mpr (by rw [k_max]; have h9 := hIE.1.2; omega)
  refine zi_iload (pc := 328) F dL_refuses_328 8 rfl ?_
  refine zi_bipush (pc := 330) (v := 13) F dL_refuses_330 rfl ?_
  refine zi_icmp_ge (pc := 332) (tgt := 377) F dL_refuses_332 (by decide) (fun h => absurd h (by decide)) (fun _ => ?_)
  refine zi_iload (pc := 335) F dL_refuses_335 7 rfl ?_
  refine zi_if_eq (pc := 337) (tgt := 368) F dL_refuses_337 (by decide) (fun h => absurd h (by decide)) (fun _ => ?_)
  refine zi_aload_n (pc := 340) F dL_refuses_340 0 rfl ?_
  refine zi_iload (pc := 341) F dL_refuses_341 8 rfl ?_
  refine zi_iload (pc := 343) F dL_refuses_343 5 rfl ?_
  refine zi_iconst (pc := 345) (v := 1) F dL_refuses_345 rfl ?_
  refine zi_icmp_ne (pc := 346) (tgt := 353) F dL_refuses_346 (by decide) (fun _ => ?_) (fun h => absurd h (by decide))
  refine zi_iload (pc := 353) F dL_refuses_353 6 rfl ?_
  refine zi_iconst (pc := 355) (v := 0) F dL_refuses_355 rfl ?_
  refine zi_callQH (pc := 356) (rest := []) F hsx hao (cr_11 l hfl G L T E V M K hIT hIE hIM (-1) 0 (Or.inl (by decide))) (vx_cwSW 4 F.1.2.2.2.2 gL_refuses_L_act rfl rfl rfl hd_L_act ⟨Nat.le_of_ble_eq_true rfl, Nat.le_of_ble_eq_true rfl⟩) [] [] (zw_nil _) (zw_nil _).symm rfl rfl (Nat.le_of_ble_eq_true rfl) dL_refuses_356 ⟨Nat.le_of_ble_eq_true rfl, Nat.le_of_ble_eq_true rfl⟩ ?_
  show zW p l e rmL_refuses s m args below meth c 17 102 Q G.1 A 9 (zWL G L T E V M K) [(0, .ref (G.2.2 0 0)), (1, .int (T 4 0)), (2, .int (E 5 0)), (3, .int (L 6 0)), (4, .int 2147483647), (5, .int 0), (6, .int (-1)), (7, .int 1), (8, .int 11)] 359 [.int (-71)]
  refine zi_bipush (pc := 359) (v := (-71)) F dL_refuses_359 rfl ?_
  refine zi_icmp_ne (pc := 361) (tgt := 368) F dL_refuses_361 (by decide) (fun h => absurd h (by decide)) (fun _ => ?_)
  refine zi_iconst (pc := 364) (v := 1) F dL_refuses_364 rfl ?_
  refine zi_goto (pc := 365) (tgt := 369) F dL_refuses_365 (by decide) ?_
  refine zi_istore (pc := 369) (lv' := [(0, .ref (G.2.2 0 0)), (1, .int (T 4 0)), (2, .int (E 5 0)), (3, .int (L 6 0)), (4, .int 2147483647), (5, .int 0), (6, .int (-1)), (7, .int 1), (8, .int 11)]) F dL_refuses_369 (by decide) rfl ?_
  exact kk
set_option maxHeartbeats 4000000 in
set_option maxRecDepth 100000 in
theorem sg_rf_0_w11i {p : Program} {l : Launch} {e : Env} {s : State} {m : MethodId} {args : Array Value} {below : List Frame} {meth : Method} {c : Code} {Q : State → Prop} {A : Nat → Prop} {G : zG_t} {L T E V M K : zS_t} (hfl : l.stackTraces = false) (hIT : zIT T) (hIE : zIE E) (hIM : zIM M) (F : zF p m c cL_refuses 9 s args wsL_refuses RL G.1 (zty G) A) (hsx : zSx s) (hao : zAOA s) (kk : zW p l e rmL_refuses s m args below meth c 17 102 Q G.1 A 9 (zWL G L T E V M K) [(0, .ref (G.2.2 0 0)), (1, .int (T 4 0)), (2, .int (E 5 0)), (3, .int (L 6 0)), (4, .int 2147483647), (5, .int 0), (6, .int (-1)), (7, .int 1), (8, .int 12)] 328 []) : zW p l e rmL_refuses s m args below meth c 17 102 Q G.1 A 9 (zWL G L T E V M K) [(0, .ref (G.2.2 0 0)), (1, .int (T 4 0)), (2, .int (E 5 0)), (3, .int (L 6 0)), (4, .int 2147483647), (5, .int 0), (6, .int (-1)), (7, .int 1), (8, .int 11)] 371 [] := by
  have k_max : Int32.toInt 2147483647 = 2147483647 := by decide
  have hmaxT : T 4 0 ≤ 2147483647 := Int32.le_iff_toInt_le.mpr (by rw [k_max]; have h9 := hIT.2; omega)
  have hmaxE : E 5 0 ≤ 2147483647 := Int32.le_iff_toInt_le.mpr (by rw [k_max]; have h9 := hIE.1.2; omega)
  refine zi_iinc (pc := 371) (lv' := [(0, .ref (G.2.2 0 0)), (1, .int (T 4 0)), (2, .int (E 5 0)), (3, .int (L 6 0)), (4, .int 2147483647), (5, .int 0), (6, .int (-1)), (7, .int 1), (8, .int 12)]) F dL_refuses_371 8 rfl (by decide) (by decide) rfl ?_
  refine zi_goto (pc := 374) (tgt := 328) F dL_refuses_374 (by decide) ?_
  exact kk
set_option maxHeartbeats 4000000 in
set_option maxRecDepth 100000 in
theorem sg_rf_0_w12 {p : Program} {l : Launch} {e : Env} {s : State} {m : MethodId} {args : Array Value} {below : List Frame} {meth : Method} {c : Code} {Q : State → Prop} {A : Nat → Prop} {G : zG_t} {L T E V M K : zS_t} (hfl : l.stackTraces = false) (hIT : zIT T) (hIE : zIE E) (hIM : zIM M) (F : zF p m c cL_refuses 9 s args wsL_refuses RL G.1 (zty G) A) (hsx : zSx s) (hao : zAOA s) (kk : zW p l e rmL_refuses s m args below meth c 18 108 Q G.1 A 9 (zWL G L T E V M K) [(0, .ref (G.2.2 0 0)), (1, .int (T 4 0)), (2, .int (E 5 0)), (3, .int (L 6 0)), (4, .int 2147483647), (5, .int 0), (6, .int (-1)), (7, .int 1), (8, .int 12)] 371 []) : zW p l e rmL_refuses s m args below meth c 17 102 Q G.1 A 9 (zWL G L T E V M K) [(0, .ref (G.2.2 0 0)), (1, .int (T 4 0)), (2, .int (E 5 0)), (3, .int (L 6 0)), (4, .int 2147483647), (5, .int 0), (6, .int (-1)), (7, .int 1), (8, .int 12)] 328 [] := by
  have k_max : Int32.toInt 2147483647 = 2147483647 := by decide
  have hmaxT : T 4 0 ≤ 2147483647 := Int32.le_iff_toInt_le.mpr (by rw [k_max]; have h9 := hIT.2; omega)
  have hmaxE : E 5 0 ≤ 2147483647 := Int32.le_iff_toInt_le.mpr (by rw [k_max]; have h9 := hIE.1.2; omega)
  refine zi_iload (pc := 328) F dL_refuses_328 8 rfl ?_
  refine zi_bipush (pc := 330) (v := 13) F dL_refuses_330 rfl ?_
  refine zi_icmp_ge (pc := 332) (tgt := 377) F dL_refuses_332 (by decide) (fun h => absurd h (by decide)) (fun _ => ?_)
  refine zi_iload (pc := 335) F dL_refuses_335 7 rfl ?_
  refine zi_if_eq (pc := 337) (tgt := 368) F dL_refuses_337 (by decide) (fun h => absurd h (by decide)) (fun _ => ?_)
  refine zi_aload_n (pc := 340) F dL_refuses_340 0 rfl ?_
  refine zi_iload (pc := 341) F dL_refuses_341 8 rfl ?_
  refine zi_iload (pc := 343) F dL_refuses_343 5 rfl ?_
  refine zi_iconst (pc := 345) (v := 1) F dL_refuses_345 rfl ?_
  refine zi_icmp_ne (pc := 346) (tgt := 353) F dL_refuses_346 (by decide) (fun _ => ?_) (fun h => absurd h (by decide))
  refine zi_iload (pc := 353) F dL_refuses_353 6 rfl ?_
  refine zi_iconst (pc := 355) (v := 0) F dL_refuses_355 rfl ?_
  refine zi_callQH (pc := 356) (rest := []) F hsx hao (cr_12 l hfl G L T E V M K hIT hIE hIM (-1) 0 (Or.inl (by decide))) (vx_cwSW 4 F.1.2.2.2.2 gL_refuses_L_act rfl rfl rfl hd_L_act ⟨Nat.le_of_ble_eq_true rfl, Nat.le_of_ble_eq_true rfl⟩) [] [] (zw_nil _) (zw_nil _).symm rfl rfl (Nat.le_of_ble_eq_true rfl) dL_refuses_356 ⟨Nat.le_of_ble_eq_true rfl, Nat.le_of_ble_eq_true rfl⟩ ?_
  show zW p l e rmL_refuses s m args below meth c 18 108 Q G.1 A 9 (zWL G L T E V M K) [(0, .ref (G.2.2 0 0)), (1, .int (T 4 0)), (2, .int (E 5 0)), (3, .int (L 6 0)), (4, .int 2147483647), (5, .int 0), (6, .int (-1)), (7, .int 1), (8, .int 12)] 359 [.int (-71)]
  refine zi_bipush (pc := 359) (v := (-71)) F dL_refuses_359 rfl ?_
  refine zi_icmp_ne (pc := 361) (tgt := 368) F dL_refuses_361 (by decide) (fun h => absurd h (by decide)) (fun _ => ?_)
  refine zi_iconst (pc := 364) (v := 1) F dL_refuses_364 rfl ?_
  refine zi_goto (pc := 365) (tgt := 369) F dL_refuses_365 (by decide) ?_
  refine zi_istore (pc := 369) (lv' := [(0, .ref (G.2.2 0 0)), (1, .int (T 4 0)), (2, .int (E 5 0)), (3, .int (L 6 0)), (4, .int 2147483647), (5, .int 0), (6, .int (-1)), (7, .int 1), (8, .int 12)]) F dL_refuses_369 (by decide) rfl ?_
  exact kk
set_option maxHeartbeats 4000000 in
set_option maxRecDepth 100000 in
theorem sg_rf_0_w12i {p : Program} {l : Launch} {e : Env} {s : State} {m : MethodId} {args : Array Value} {below : List Frame} {meth : Method} {c : Code} {Q : State → Prop} {A : Nat → Prop} {G : zG_t} {L T E V M K : zS_t} (hfl : l.stackTraces = false) (hIT : zIT T) (hIE : zIE E) (hIM : zIM M) (F : zF p m c cL_refuses 9 s args wsL_refuses RL G.1 (zty G) A) (hsx : zSx s) (hao : zAOA s) (kk : zW p l e rmL_refuses s m args below meth c 18 108 Q G.1 A 9 (zWL G L T E V M K) [(0, .ref (G.2.2 0 0)), (1, .int (T 4 0)), (2, .int (E 5 0)), (3, .int (L 6 0)), (4, .int 2147483647), (5, .int 0), (6, .int (-1)), (7, .int 1), (8, .int 13)] 328 []) : zW p l e rmL_refuses s m args below meth c 18 108 Q G.1 A 9 (zWL G L T E V M K) [(0, .ref (G.2.2 0 0)), (1, .int (T 4 0)), (2, .int (E 5 0)), (3, .int (L 6 0)), (4, .int 2147483647), (5, .int 0), (6, .int (-1)), (7, .int 1), (8, .int 12)] 371 [] := by
  have k_max : Int32.toInt 2147483647 = 2147483647 := by decide
  have hmaxT : T 4 0 ≤ 2147483647 := Int32.le_iff_toInt_le.mpr (by rw [k_max]; have h9 := hIT.2; omega)
  have hmaxE : E 5 0 ≤ 2147483647 := Int32.le_iff_toInt_le.mpr (by rw [k_max]; have h9 := hIE.1.2; omega)
  refine zi_iinc (pc := 371) (lv' := [(0, .ref (G.2.2 0 0)), (1, .int (T 4 0)), (2, .int (E 5 0)), (3, .int (L 6 0)), (4, .int 2147483647), (5, .int 0), (6, .int (-1)), (7, .int 1), (8, .int 13)]) F dL_refuses_371 8 rfl (by decide) (by decide) rfl ?_
  refine zi_goto (pc := 374) (tgt := 328) F dL_refuses_374 (by decide) ?_
  exact kk
set_option maxHeartbeats 4000000 in
set_option maxRecDepth 100000 in
theorem sg_rf_0_d {p : Program} {l : Launch} {e : Env} {s : State} {m : MethodId} {args : Array Value} {below : List Frame} {meth : Method} {c : Code} {Q : State → Prop} {A : Nat → Prop} {G : zG_t} {L T E V M K : zS_t} (hfl : l.stackTraces = false) (hIT : zIT T) (hIE : zIE E) (hIM : zIM M) (F : zF p m c cL_refuses 9 s args wsL_refuses RL G.1 (zty G) A) (hsx : zSx s) (hao : zAOA s) (kk : zW p l e rmL_refuses s m args below meth c 18 108 Q G.1 A 9 (zWL G L T E V M K) [(0, .ref (G.2.2 0 0)), (1, .int (T 4 0)), (2, .int (E 5 0)), (3, .int (L 6 0)), (4, .int 2147483647), (5, .int 0), (6, .int (-1)), (7, .int 1), (8, .int 13)] 384 []) : zW p l e rmL_refuses s m args below meth c 18 108 Q G.1 A 9 (zWL G L T E V M K) [(0, .ref (G.2.2 0 0)), (1, .int (T 4 0)), (2, .int (E 5 0)), (3, .int (L 6 0)), (4, .int 2147483647), (5, .int 0), (6, .int (-1)), (7, .int 1), (8, .int 13)] 328 [] := by
  have k_max : Int32.toInt 2147483647 = 2147483647 := by decide
  have hmaxT : T 4 0 ≤ 2147483647 := Int32.le_iff_toInt_le.mpr (by rw [k_max]; have h9 := hIT.2; omega)
  have hmaxE : E 5 0 ≤ 2147483647 := Int32.le_iff_toInt_le.mpr (by rw [k_max]; have h9 := hIE.1.2; omega)
  refine zi_iload (pc := 328) F dL_refuses_328 8 rfl ?_
  refine zi_bipush (pc := 330) (v := 13) F dL_refuses_330 rfl ?_
  refine zi_icmp_ge (pc := 332) (tgt := 377) F dL_refuses_332 (by decide) (fun _ => ?_) (fun h => absurd h (by decide))
  refine zi_iload (pc := 377) F dL_refuses_377 7 rfl ?_
  refine zi_if_ne (pc := 379) (tgt := 384) F dL_refuses_379 (by decide) (fun _ => ?_) (fun h => absurd h (by decide))
  exact kk
set_option maxHeartbeats 4000000 in
set_option maxRecDepth 100000 in
theorem sg_rf_0_e {p : Program} {l : Launch} {e : Env} {s : State} {m : MethodId} {args : Array Value} {below : List Frame} {meth : Method} {c : Code} {Q : State → Prop} {A : Nat → Prop} {G : zG_t} {L T E V M K : zS_t} (hfl : l.stackTraces = false) (hIT : zIT T) (hIE : zIE E) (hIM : zIM M) (F : zF p m c cL_refuses 9 s args wsL_refuses RL G.1 (zty G) A) (hsx : zSx s) (hao : zAOA s) (kk : zW p l e rmL_refuses s m args below meth c 18 108 Q G.1 A 9 (zWL G L T E V M K) [(0, .ref (G.2.2 0 0)), (1, .int (T 4 0)), (2, .int (E 5 0)), (3, .int (L 6 0)), (4, .int 2147483647), (5, .int 1), (6, .int (-1)), (7, .int 1), (8, .int 13)] 22 []) : zW p l e rmL_refuses s m args below meth c 18 108 Q G.1 A 9 (zWL G L T E V M K) [(0, .ref (G.2.2 0 0)), (1, .int (T 4 0)), (2, .int (E 5 0)), (3, .int (L 6 0)), (4, .int 2147483647), (5, .int 0), (6, .int (-1)), (7, .int 1), (8, .int 13)] 384 [] := by
  have k_max : Int32.toInt 2147483647 = 2147483647 := by decide
  have hmaxT : T 4 0 ≤ 2147483647 := Int32.le_iff_toInt_le.mpr (by rw [k_max]; have h9 := hIT.2; omega)
  have hmaxE : E 5 0 ≤ 2147483647 := Int32.le_iff_toInt_le.mpr (by rw [k_max]; have h9 := hIE.1.2; omega)
  refine zi_iinc (pc := 384) (lv' := [(0, .ref (G.2.2 0 0)), (1, .int (T 4 0)), (2, .int (E 5 0)), (3, .int (L 6 0)), (4, .int 2147483647), (5, .int 1), (6, .int (-1)), (7, .int 1), (8, .int 13)]) F dL_refuses_384 5 rfl (by decide) (by decide) rfl ?_
  refine zi_goto (pc := 387) (tgt := 22) F dL_refuses_387 (by decide) ?_
  exact kk
set_option maxHeartbeats 4000000 in
set_option maxRecDepth 100000 in
theorem sg_rf_1_b {p : Program} {l : Launch} {e : Env} {s : State} {m : MethodId} {args : Array Value} {below : List Frame} {meth : Method} {c : Code} {Q : State → Prop} {A : Nat → Prop} {G : zG_t} {L T E V M K : zS_t} (hfl : l.stackTraces = false) (hIT : zIT T) (hIE : zIE E) (hIM : zIM M) (F : zF p m c cL_refuses 9 s args wsL_refuses RL G.1 (zty G) A) (hsx : zSx s) (hao : zAOA s) (kk : zW p l e rmL_refuses s m args below meth c 25 150 Q G.1 A 9 (zWL G L T E V M K) [(0, .ref (G.2.2 0 0)), (1, .int (T 4 0)), (2, .int (E 5 0)), (3, .int (L 6 0)), (4, .int 2147483647), (5, .int 1), (6, .int (-2147483648)), (7, .int 1), (8, .int 5)] 240 []) : zW p l e rmL_refuses s m args below meth c 18 108 Q G.1 A 9 (zWL G L T E V M K) [(0, .ref (G.2.2 0 0)), (1, .int (T 4 0)), (2, .int (E 5 0)), (3, .int (L 6 0)), (4, .int 2147483647), (5, .int 1), (6, .int (-1)), (7, .int 1), (8, .int 13)] 22 [] := by
  have k_max : Int32.toInt 2147483647 = 2147483647 := by decide
  have hmaxT : T 4 0 ≤ 2147483647 := Int32.le_iff_toInt_le.mpr (by rw [k_max]; have h9 := hIT.2; omega)
  have hmaxE : E 5 0 ≤ 2147483647 := Int32.le_iff_toInt_le.mpr (by rw [k_max]; have h9 := hIE.1.2; omega)
  refine zi_iload (pc := 22) F dL_refuses_22 5 rfl ?_
  refine zi_iconst (pc := 24) (v := 4) F dL_refuses_24 rfl ?_
  refine zi_icmp_ge (pc := 25) (tgt := 390) F dL_refuses_25 (by decide) (fun h => absurd h (by decide)) (fun _ => ?_)
  refine zi_iload (pc := 28) F dL_refuses_28 5 rfl ?_
  refine zi_if_ne (pc := 30) (tgt := 37) F dL_refuses_30 (by decide) (fun _ => ?_) (fun h => absurd h (by decide))
  refine zi_iload (pc := 37) F dL_refuses_37 5 rfl ?_
  refine zi_iconst (pc := 39) (v := 2) F dL_refuses_39 rfl ?_
  refine zi_icmp_ne (pc := 40) (tgt := 48) F dL_refuses_40 (by decide) (fun _ => ?_) (fun h => absurd h (by decide))
  refine zi_iload (pc := 48) F dL_refuses_48 4 rfl ?_
  refine zi_ineg (pc := 50) F dL_refuses_50 ?_
  refine zi_toplit (y := (-2147483647)) (by decide) ?_
  refine zi_iconst (pc := 51) (v := 1) F dL_refuses_51 rfl ?_
  refine zi_isub (pc := 52) F dL_refuses_52 ?_
  refine zi_toplit (y := (-2147483648)) (by decide) ?_
  refine zi_istore (pc := 53) (lv' := [(0, .ref (G.2.2 0 0)), (1, .int (T 4 0)), (2, .int (E 5 0)), (3, .int (L 6 0)), (4, .int 2147483647), (5, .int 1), (6, .int (-2147483648)), (7, .int 1), (8, .int 13)]) F dL_refuses_53 (by decide) rfl ?_
  refine zi_aload_n (pc := 55) F dL_refuses_55 0 rfl ?_
  refine zi_iconst (pc := 56) (v := 0) F dL_refuses_56 rfl ?_
  refine zi_iload (pc := 57) F dL_refuses_57 5 rfl ?_
  refine zi_iconst (pc := 59) (v := 1) F dL_refuses_59 rfl ?_
  refine zi_icmp_ne (pc := 60) (tgt := 68) F dL_refuses_60 (by decide) (fun h => absurd h (by decide)) (fun _ => ?_)
  refine zi_bipush (pc := 63) (v := 14) F dL_refuses_63 rfl ?_
  refine zi_goto (pc := 65) (tgt := 70) F dL_refuses_65 (by decide) ?_
  refine zi_iconst (pc := 70) (v := 0) F dL_refuses_70 rfl ?_
  refine zi_callQH (pc := 71) (rest := []) F hsx hao (cr_0 l hfl G L T E V M K hIT hIE hIM 14 0 (Or.inr (by decide))) (vx_cwSW 4 F.1.2.2.2.2 gL_refuses_L_act rfl rfl rfl hd_L_act ⟨Nat.le_of_ble_eq_true rfl, Nat.le_of_ble_eq_true rfl⟩) [] [] (zw_nil _) (zw_nil _).symm rfl rfl (Nat.le_of_ble_eq_true rfl) dL_refuses_71 ⟨Nat.le_of_ble_eq_true rfl, Nat.le_of_ble_eq_true rfl⟩ ?_
  show zW p l e rmL_refuses s m args below meth c 19 114 Q G.1 A 9 (zWL G L T E V M K) [(0, .ref (G.2.2 0 0)), (1, .int (T 4 0)), (2, .int (E 5 0)), (3, .int (L 6 0)), (4, .int 2147483647), (5, .int 1), (6, .int (-2147483648)), (7, .int 1), (8, .int 13)] 74 [.int (-71)]
  refine zi_bipush (pc := 74) (v := (-71)) F dL_refuses_74 rfl ?_
  refine zi_icmp_ne (pc := 76) (tgt := 234) F dL_refuses_76 (by decide) (fun h => absurd h (by decide)) (fun _ => ?_)
  refine zi_aload_n (pc := 79) F dL_refuses_79 0 rfl ?_
  refine zi_iconst (pc := 80) (v := 1) F dL_refuses_80 rfl ?_
  refine zi_iload (pc := 81) F dL_refuses_81 5 rfl ?_
  refine zi_iconst (pc := 83) (v := 1) F dL_refuses_83 rfl ?_
  refine zi_icmp_ne (pc := 84) (tgt := 92) F dL_refuses_84 (by decide) (fun h => absurd h (by decide)) (fun _ => ?_)
  refine zi_bipush (pc := 87) (v := 14) F dL_refuses_87 rfl ?_
  refine zi_goto (pc := 89) (tgt := 94) F dL_refuses_89 (by decide) ?_
  refine zi_iconst (pc := 94) (v := 0) F dL_refuses_94 rfl ?_
  refine zi_callQH (pc := 95) (rest := []) F hsx hao (cr_1 l hfl G L T E V M K hIT hIE hIM 14 0 (Or.inr (by decide))) (vx_cwSW 4 F.1.2.2.2.2 gL_refuses_L_act rfl rfl rfl hd_L_act ⟨Nat.le_of_ble_eq_true rfl, Nat.le_of_ble_eq_true rfl⟩) [] [] (zw_nil _) (zw_nil _).symm rfl rfl (Nat.le_of_ble_eq_true rfl) dL_refuses_95 ⟨Nat.le_of_ble_eq_true rfl, Nat.le_of_ble_eq_true rfl⟩ ?_
  show zW p l e rmL_refuses s m args below meth c 20 120 Q G.1 A 9 (zWL G L T E V M K) [(0, .ref (G.2.2 0 0)), (1, .int (T 4 0)), (2, .int (E 5 0)), (3, .int (L 6 0)), (4, .int 2147483647), (5, .int 1), (6, .int (-2147483648)), (7, .int 1), (8, .int 13)] 98 [.int (-71)]
  refine zi_bipush (pc := 98) (v := (-71)) F dL_refuses_98 rfl ?_
  refine zi_icmp_ne (pc := 100) (tgt := 234) F dL_refuses_100 (by decide) (fun h => absurd h (by decide)) (fun _ => ?_)
  refine zi_aload_n (pc := 103) F dL_refuses_103 0 rfl ?_
  refine zi_iconst (pc := 104) (v := 2) F dL_refuses_104 rfl ?_
  refine zi_iload (pc := 105) F dL_refuses_105 5 rfl ?_
  refine zi_if_ne (pc := 107) (tgt := 114) F dL_refuses_107 (by decide) (fun _ => ?_) (fun h => absurd h (by decide))
  refine zi_iload (pc := 114) F dL_refuses_114 5 rfl ?_
  refine zi_iconst (pc := 116) (v := 1) F dL_refuses_116 rfl ?_
  refine zi_icmp_ne (pc := 117) (tgt := 125) F dL_refuses_117 (by decide) (fun h => absurd h (by decide)) (fun _ => ?_)
  refine zi_bipush (pc := 120) (v := 61) F dL_refuses_120 rfl ?_
  refine zi_goto (pc := 122) (tgt := 127) F dL_refuses_122 (by decide) ?_
  refine zi_iconst (pc := 127) (v := 0) F dL_refuses_127 rfl ?_
  refine zi_callQH (pc := 128) (rest := []) F hsx hao (cr_2 l hfl G L T E V M K hIT hIE hIM 61 0 (Or.inr (by decide))) (vx_cwSW 4 F.1.2.2.2.2 gL_refuses_L_act rfl rfl rfl hd_L_act ⟨Nat.le_of_ble_eq_true rfl, Nat.le_of_ble_eq_true rfl⟩) [] [] (zw_nil _) (zw_nil _).symm rfl rfl (Nat.le_of_ble_eq_true rfl) dL_refuses_128 ⟨Nat.le_of_ble_eq_true rfl, Nat.le_of_ble_eq_true rfl⟩ ?_
  show zW p l e rmL_refuses s m args below meth c 21 126 Q G.1 A 9 (zWL G L T E V M K) [(0, .ref (G.2.2 0 0)), (1, .int (T 4 0)), (2, .int (E 5 0)), (3, .int (L 6 0)), (4, .int 2147483647), (5, .int 1), (6, .int (-2147483648)), (7, .int 1), (8, .int 13)] 131 [.int (-72)]
  refine zi_bipush (pc := 131) (v := (-72)) F dL_refuses_131 rfl ?_
  refine zi_icmp_ne (pc := 133) (tgt := 234) F dL_refuses_133 (by decide) (fun h => absurd h (by decide)) (fun _ => ?_)
  refine zi_aload_n (pc := 136) F dL_refuses_136 0 rfl ?_
  refine zi_iconst (pc := 137) (v := 3) F dL_refuses_137 rfl ?_
  refine zi_iload (pc := 138) F dL_refuses_138 5 rfl ?_
  refine zi_iconst (pc := 140) (v := 1) F dL_refuses_140 rfl ?_
  refine zi_icmp_ne (pc := 141) (tgt := 148) F dL_refuses_141 (by decide) (fun h => absurd h (by decide)) (fun _ => ?_)
  refine zi_iconst (pc := 144) (v := 3) F dL_refuses_144 rfl ?_
  refine zi_goto (pc := 145) (tgt := 150) F dL_refuses_145 (by decide) ?_
  refine zi_iconst (pc := 150) (v := 0) F dL_refuses_150 rfl ?_
  refine zi_callQH (pc := 151) (rest := []) F hsx hao (cr_3 l hfl G L T E V M K hIT hIE hIM 3 0 (Or.inr (by decide))) (vx_cwSW 4 F.1.2.2.2.2 gL_refuses_L_act rfl rfl rfl hd_L_act ⟨Nat.le_of_ble_eq_true rfl, Nat.le_of_ble_eq_true rfl⟩) [] [] (zw_nil _) (zw_nil _).symm rfl rfl (Nat.le_of_ble_eq_true rfl) dL_refuses_151 ⟨Nat.le_of_ble_eq_true rfl, Nat.le_of_ble_eq_true rfl⟩ ?_
  show zW p l e rmL_refuses s m args below meth c 22 132 Q G.1 A 9 (zWL G L T E V M K) [(0, .ref (G.2.2 0 0)), (1, .int (T 4 0)), (2, .int (E 5 0)), (3, .int (L 6 0)), (4, .int 2147483647), (5, .int 1), (6, .int (-2147483648)), (7, .int 1), (8, .int 13)] 154 [.int (-71)]
  refine zi_bipush (pc := 154) (v := (-71)) F dL_refuses_154 rfl ?_
  refine zi_icmp_ne (pc := 156) (tgt := 234) F dL_refuses_156 (by decide) (fun h => absurd h (by decide)) (fun _ => ?_)
  refine zi_aload_n (pc := 159) F dL_refuses_159 0 rfl ?_
  refine zi_iconst (pc := 160) (v := 4) F dL_refuses_160 rfl ?_
  refine zi_iload (pc := 161) F dL_refuses_161 5 rfl ?_
  refine zi_iconst (pc := 163) (v := 1) F dL_refuses_163 rfl ?_
  refine zi_icmp_ne (pc := 164) (tgt := 171) F dL_refuses_164 (by decide) (fun h => absurd h (by decide)) (fun _ => ?_)
  refine zi_iconst (pc := 167) (v := 3) F dL_refuses_167 rfl ?_
  refine zi_goto (pc := 168) (tgt := 173) F dL_refuses_168 (by decide) ?_
  refine zi_iconst (pc := 173) (v := 0) F dL_refuses_173 rfl ?_
  refine zi_callQH (pc := 174) (rest := []) F hsx hao (cr_4 l hfl G L T E V M K hIT hIE hIM 3 0 (Or.inr (by decide))) (vx_cwSW 4 F.1.2.2.2.2 gL_refuses_L_act rfl rfl rfl hd_L_act ⟨Nat.le_of_ble_eq_true rfl, Nat.le_of_ble_eq_true rfl⟩) [] [] (zw_nil _) (zw_nil _).symm rfl rfl (Nat.le_of_ble_eq_true rfl) dL_refuses_174 ⟨Nat.le_of_ble_eq_true rfl, Nat.le_of_ble_eq_true rfl⟩ ?_
  show zW p l e rmL_refuses s m args below meth c 23 138 Q G.1 A 9 (zWL G L T E V M K) [(0, .ref (G.2.2 0 0)), (1, .int (T 4 0)), (2, .int (E 5 0)), (3, .int (L 6 0)), (4, .int 2147483647), (5, .int 1), (6, .int (-2147483648)), (7, .int 1), (8, .int 13)] 177 [.int (-71)]
  refine zi_bipush (pc := 177) (v := (-71)) F dL_refuses_177 rfl ?_
  refine zi_icmp_ne (pc := 179) (tgt := 234) F dL_refuses_179 (by decide) (fun h => absurd h (by decide)) (fun _ => ?_)
  refine zi_aload_n (pc := 182) F dL_refuses_182 0 rfl ?_
  refine zi_iconst (pc := 183) (v := 0) F dL_refuses_183 rfl ?_
  refine zi_bipush (pc := 184) (v := 12) F dL_refuses_184 rfl ?_
  refine zi_iload (pc := 186) F dL_refuses_186 5 rfl ?_
  refine zi_iconst (pc := 188) (v := 1) F dL_refuses_188 rfl ?_
  refine zi_icmp_ne (pc := 189) (tgt := 196) F dL_refuses_189 (by decide) (fun h => absurd h (by decide)) (fun _ => ?_)
  refine zi_iload_n (pc := 192) F dL_refuses_192 1 rfl ?_
  refine zi_goto (pc := 193) (tgt := 198) F dL_refuses_193 (by decide) ?_
  refine zi_callQH (pc := 198) (rest := []) F hsx hao (cr_0s l hfl G L T E V M K hIT hIE hIM (T 4 0) (Or.inr (Int32.le_refl _))) (vx_cwSW 4 F.1.2.2.2.2 gL_refuses_L_act rfl rfl rfl hd_L_act ⟨Nat.le_of_ble_eq_true rfl, Nat.le_of_ble_eq_true rfl⟩) [] [] (zw_nil _) (zw_nil _).symm rfl rfl (Nat.le_of_ble_eq_true rfl) dL_refuses_198 ⟨Nat.le_of_ble_eq_true rfl, Nat.le_of_ble_eq_true rfl⟩ ?_
  show zW p l e rmL_refuses s m args below meth c 24 144 Q G.1 A 9 (zWL G L T E V M K) [(0, .ref (G.2.2 0 0)), (1, .int (T 4 0)), (2, .int (E 5 0)), (3, .int (L 6 0)), (4, .int 2147483647), (5, .int 1), (6, .int (-2147483648)), (7, .int 1), (8, .int 13)] 201 [.int (-73)]
  refine zi_bipush (pc := 201) (v := (-73)) F dL_refuses_201 rfl ?_
  refine zi_icmp_ne (pc := 203) (tgt := 234) F dL_refuses_203 (by decide) (fun h => absurd h (by decide)) (fun _ => ?_)
  refine zi_aload_n (pc := 206) F dL_refuses_206 0 rfl ?_
  refine zi_iconst (pc := 207) (v := 0) F dL_refuses_207 rfl ?_
  refine zi_bipush (pc := 208) (v := 13) F dL_refuses_208 rfl ?_
  refine zi_iload (pc := 210) F dL_refuses_210 5 rfl ?_
  refine zi_iconst (pc := 212) (v := 1) F dL_refuses_212 rfl ?_
  refine zi_icmp_ne (pc := 213) (tgt := 220) F dL_refuses_213 (by decide) (fun h => absurd h (by decide)) (fun _ => ?_)
  refine zi_iload_n (pc := 216) F dL_refuses_216 2 rfl ?_
  refine zi_goto (pc := 217) (tgt := 222) F dL_refuses_217 (by decide) ?_
  refine zi_callQH (pc := 222) (rest := []) F hsx hao (cr_0d l hfl G L T E V M K hIT hIE hIM (E 5 0) (Or.inr (Int32.le_refl _))) (vx_cwSW 4 F.1.2.2.2.2 gL_refuses_L_act rfl rfl rfl hd_L_act ⟨Nat.le_of_ble_eq_true rfl, Nat.le_of_ble_eq_true rfl⟩) [] [] (zw_nil _) (zw_nil _).symm rfl rfl (Nat.le_of_ble_eq_true rfl) dL_refuses_222 ⟨Nat.le_of_ble_eq_true rfl, Nat.le_of_ble_eq_true rfl⟩ ?_
  show zW p l e rmL_refuses s m args below meth c 25 150 Q G.1 A 9 (zWL G L T E V M K) [(0, .ref (G.2.2 0 0)), (1, .int (T 4 0)), (2, .int (E 5 0)), (3, .int (L 6 0)), (4, .int 2147483647), (5, .int 1), (6, .int (-2147483648)), (7, .int 1), (8, .int 13)] 225 [.int (-73)]
  refine zi_bipush (pc := 225) (v := (-73)) F dL_refuses_225 rfl ?_
  refine zi_icmp_ne (pc := 227) (tgt := 234) F dL_refuses_227 (by decide) (fun h => absurd h (by decide)) (fun _ => ?_)
  refine zi_iconst (pc := 230) (v := 1) F dL_refuses_230 rfl ?_
  refine zi_goto (pc := 231) (tgt := 235) F dL_refuses_231 (by decide) ?_
  refine zi_istore (pc := 235) (lv' := [(0, .ref (G.2.2 0 0)), (1, .int (T 4 0)), (2, .int (E 5 0)), (3, .int (L 6 0)), (4, .int 2147483647), (5, .int 1), (6, .int (-2147483648)), (7, .int 1), (8, .int 13)]) F dL_refuses_235 (by decide) rfl ?_
  refine zi_iconst (pc := 237) (v := 5) F dL_refuses_237 rfl ?_
  refine zi_istore (pc := 238) (lv' := [(0, .ref (G.2.2 0 0)), (1, .int (T 4 0)), (2, .int (E 5 0)), (3, .int (L 6 0)), (4, .int 2147483647), (5, .int 1), (6, .int (-2147483648)), (7, .int 1), (8, .int 5)]) F dL_refuses_238 (by decide) rfl ?_
  exact kk
set_option maxHeartbeats 4000000 in
set_option maxRecDepth 100000 in
theorem sg_rf_1_w5 {p : Program} {l : Launch} {e : Env} {s : State} {m : MethodId} {args : Array Value} {below : List Frame} {meth : Method} {c : Code} {Q : State → Prop} {A : Nat → Prop} {G : zG_t} {L T E V M K : zS_t} (hfl : l.stackTraces = false) (hIT : zIT T) (hIE : zIE E) (hIM : zIM M) (F : zF p m c cL_refuses 9 s args wsL_refuses RL G.1 (zty G) A) (hsx : zSx s) (hao : zAOA s) (kk : zW p l e rmL_refuses s m args below meth c 26 156 Q G.1 A 9 (zWL G L T E V M K) [(0, .ref (G.2.2 0 0)), (1, .int (T 4 0)), (2, .int (E 5 0)), (3, .int (L 6 0)), (4, .int 2147483647), (5, .int 1), (6, .int (-2147483648)), (7, .int 1), (8, .int 5)] 318 []) : zW p l e rmL_refuses s m args below meth c 25 150 Q G.1 A 9 (zWL G L T E V M K) [(0, .ref (G.2.2 0 0)), (1, .int (T 4 0)), (2, .int (E 5 0)), (3, .int (L 6 0)), (4, .int 2147483647), (5, .int 1), (6, .int (-2147483648)), (7, .int 1), (8, .int 5)] 240 [] := by
  have k_max : Int32.toInt 2147483647 = 2147483647 := by decide
  have hmaxT : T 4 0 ≤ 2147483647 := Int32.le_iff_toInt_le.mpr (by rw [k_max]; have h9 := hIT.2; omega)
  have hmaxE : E 5 0 ≤ 2147483647 := Int32.le_iff_toInt_le.mpr (by rw [k_max]; have h9 := hIE.1.2; omega)
  refine zi_iload (pc := 240) F dL_refuses_240 8 rfl ?_
  refine zi_bipush (pc := 242) (v := 9) F dL_refuses_242 rfl ?_
  refine zi_icmp_ge (pc := 244) (tgt := 324) F dL_refuses_244 (by decide) (fun h => absurd h (by decide)) (fun _ => ?_)
  refine zi_iload (pc := 247) F dL_refuses_247 7 rfl ?_
  refine zi_if_eq (pc := 249) (tgt := 315) F dL_refuses_249 (by decide) (fun h => absurd h (by decide)) (fun _ => ?_)
  refine zi_aload_n (pc := 252) F dL_refuses_252 0 rfl ?_
  refine zi_iload (pc := 253) F dL_refuses_253 8 rfl ?_
  refine zi_iload (pc := 255) F dL_refuses_255 5 rfl ?_
  refine zi_iconst (pc := 257) (v := 1) F dL_refuses_257 rfl ?_
  refine zi_icmp_ne (pc := 258) (tgt := 265) F dL_refuses_258 (by decide) (fun h => absurd h (by decide)) (fun _ => ?_)
  refine zi_iload_n (pc := 261) F dL_refuses_261 1 rfl ?_
  refine zi_goto (pc := 262) (tgt := 267) F dL_refuses_262 (by decide) ?_
  refine zi_iconst (pc := 267) (v := (-1)) F dL_refuses_267 rfl ?_
  refine zi_callQH (pc := 268) (rest := []) F hsx hao (cr_5 l hfl G L T E V M K hIT hIE hIM (T 4 0) (-1) (Or.inr (Int32.le_refl _))) (vx_cwSW 4 F.1.2.2.2.2 gL_refuses_L_act rfl rfl rfl hd_L_act ⟨Nat.le_of_ble_eq_true rfl, Nat.le_of_ble_eq_true rfl⟩) [] [] (zw_nil _) (zw_nil _).symm rfl rfl (Nat.le_of_ble_eq_true rfl) dL_refuses_268 ⟨Nat.le_of_ble_eq_true rfl, Nat.le_of_ble_eq_true rfl⟩ ?_
  show zW p l e rmL_refuses s m args below meth c 26 156 Q G.1 A 9 (zWL G L T E V M K) [(0, .ref (G.2.2 0 0)), (1, .int (T 4 0)), (2, .int (E 5 0)), (3, .int (L 6 0)), (4, .int 2147483647), (5, .int 1), (6, .int (-2147483648)), (7, .int 1), (8, .int 5)] 271 [.int (-71)]
  refine zi_bipush (pc := 271) (v := (-71)) F dL_refuses_271 rfl ?_
  refine zi_icmp_ne (pc := 273) (tgt := 315) F dL_refuses_273 (by decide) (fun h => absurd h (by decide)) (fun _ => ?_)
  refine zi_iload (pc := 276) F dL_refuses_276 8 rfl ?_
  refine zi_iconst (pc := 278) (v := 5) F dL_refuses_278 rfl ?_
  refine zi_icmp_eq (pc := 279) (tgt := 311) F dL_refuses_279 (by decide) (fun _ => ?_) (fun h => absurd h (by decide))
  refine zi_iconst (pc := 311) (v := 1) F dL_refuses_311 rfl ?_
  refine zi_goto (pc := 312) (tgt := 316) F dL_refuses_312 (by decide) ?_
  refine zi_istore (pc := 316) (lv' := [(0, .ref (G.2.2 0 0)), (1, .int (T 4 0)), (2, .int (E 5 0)), (3, .int (L 6 0)), (4, .int 2147483647), (5, .int 1), (6, .int (-2147483648)), (7, .int 1), (8, .int 5)]) F dL_refuses_316 (by decide) rfl ?_
  exact kk
set_option maxHeartbeats 4000000 in
set_option maxRecDepth 100000 in
theorem sg_rf_1_w5i {p : Program} {l : Launch} {e : Env} {s : State} {m : MethodId} {args : Array Value} {below : List Frame} {meth : Method} {c : Code} {Q : State → Prop} {A : Nat → Prop} {G : zG_t} {L T E V M K : zS_t} (hfl : l.stackTraces = false) (hIT : zIT T) (hIE : zIE E) (hIM : zIM M) (F : zF p m c cL_refuses 9 s args wsL_refuses RL G.1 (zty G) A) (hsx : zSx s) (hao : zAOA s) (kk : zW p l e rmL_refuses s m args below meth c 26 156 Q G.1 A 9 (zWL G L T E V M K) [(0, .ref (G.2.2 0 0)), (1, .int (T 4 0)), (2, .int (E 5 0)), (3, .int (L 6 0)), (4, .int 2147483647), (5, .int 1), (6, .int (-2147483648)), (7, .int 1), (8, .int 6)] 240 []) : zW p l e rmL_refuses s m args below meth c 26 156 Q G.1 A 9 (zWL G L T E V M K) [(0, .ref (G.2.2 0 0)), (1, .int (T 4 0)), (2, .int (E 5 0)), (3, .int (L 6 0)), (4, .int 2147483647), (5, .int 1), (6, .int (-2147483648)), (7, .int 1), (8, .int 5)] 318 [] := by
  have k_max : Int32.toInt 2147483647 = 2147483647 := by decide
  have hmaxT : T 4 0 ≤ 2147483647 := Int32.le_iff_toInt_le.mpr (by rw [k_max]; have h9 := hIT.2; omega)
  have hmaxE : E 5 0 ≤ 2147483647 := Int32.le_iff_toInt_le.mpr (by rw [k_max]; have h9 := hIE.1.2; omega)
  refine zi_iinc (pc := 318) (lv' := [(0, .ref (G.2.2 0 0)), (1, .int (T 4 0)), (2, .int (E 5 0)), (3, .int (L 6 0)), (4, .int 2147483647), (5, .int 1), (6, .int (-2147483648)), (7, .int 1), (8, .int 6)]) F dL_refuses_318 8 rfl (by decide) (by decide) rfl ?_
  refine zi_goto (pc := 321) (tgt := 240) F dL_refuses_321 (by decide) ?_
  exact kk
set_option maxHeartbeats 4000000 in
set_option maxRecDepth 100000 in
theorem sg_rf_1_w6 {p : Program} {l : Launch} {e : Env} {s : State} {m : MethodId} {args : Array Value} {below : List Frame} {meth : Method} {c : Code} {Q : State → Prop} {A : Nat → Prop} {G : zG_t} {L T E V M K : zS_t} (hfl : l.stackTraces = false) (hIT : zIT T) (hIE : zIE E) (hIM : zIM M) (F : zF p m c cL_refuses 9 s args wsL_refuses RL G.1 (zty G) A) (hsx : zSx s) (hao : zAOA s) (kk : zW p l e rmL_refuses s m args below meth c 28 168 Q G.1 A 9 (zWL G L T E V M K) [(0, .ref (G.2.2 0 0)), (1, .int (T 4 0)), (2, .int (E 5 0)), (3, .int (L 6 0)), (4, .int 2147483647), (5, .int 1), (6, .int (-2147483648)), (7, .int 1), (8, .int 6)] 318 []) : zW p l e rmL_refuses s m args below meth c 26 156 Q G.1 A 9 (zWL G L T E V M K) [(0, .ref (G.2.2 0 0)), (1, .int (T 4 0)), (2, .int (E 5 0)), (3, .int (L 6 0)), (4, .int 2147483647), (5, .int 1), (6, .int (-2147483648)), (7, .int 1), (8, .int 6)] 240 [] := by
  have k_max : Int32.toInt 2147483647 = 2147483647 := by decide
  have hmaxT : T 4 0 ≤ 2147483647 := Int32.le_iff_toInt_le.mpr (by rw [k_max]; have h9 := hIT.2; omega)
  have hmaxE : E 5 0 ≤ 2147483647 := Int32.le_iff_toInt_le.mpr (by rw [k_max]; have h9 := hIE.1.2; omega)
  refine zi_iload (pc := 240) F dL_refuses_240 8 rfl ?_
  refine zi_bipush (pc := 242) (v := 9) F dL_refuses_242 rfl ?_
  refine zi_icmp_ge (pc := 244) (tgt := 324) F dL_refuses_244 (by decide) (fun h => absurd h (by decide)) (fun _ => ?_)
  refine zi_iload (pc := 247) F dL_refuses_247 7 rfl ?_
  refine zi_if_eq (pc := 249) (tgt := 315) F dL_refuses_249 (by decide) (fun h => absurd h (by decide)) (fun _ => ?_)
  refine zi_aload_n (pc := 252) F dL_refuses_252 0 rfl ?_
  refine zi_iload (pc := 253) F dL_refuses_253 8 rfl ?_
  refine zi_iload (pc := 255) F dL_refuses_255 5 rfl ?_
  refine zi_iconst (pc := 257) (v := 1) F dL_refuses_257 rfl ?_
  refine zi_icmp_ne (pc := 258) (tgt := 265) F dL_refuses_258 (by decide) (fun h => absurd h (by decide)) (fun _ => ?_)
  refine zi_iload_n (pc := 261) F dL_refuses_261 1 rfl ?_
  refine zi_goto (pc := 262) (tgt := 267) F dL_refuses_262 (by decide) ?_
  refine zi_iconst (pc := 267) (v := (-1)) F dL_refuses_267 rfl ?_
  refine zi_callQH (pc := 268) (rest := []) F hsx hao (cr_6 l hfl G L T E V M K hIT hIE hIM (T 4 0) (-1) (Or.inr (Int32.le_refl _))) (vx_cwSW 4 F.1.2.2.2.2 gL_refuses_L_act rfl rfl rfl hd_L_act ⟨Nat.le_of_ble_eq_true rfl, Nat.le_of_ble_eq_true rfl⟩) [] [] (zw_nil _) (zw_nil _).symm rfl rfl (Nat.le_of_ble_eq_true rfl) dL_refuses_268 ⟨Nat.le_of_ble_eq_true rfl, Nat.le_of_ble_eq_true rfl⟩ ?_
  show zW p l e rmL_refuses s m args below meth c 27 162 Q G.1 A 9 (zWL G L T E V M K) [(0, .ref (G.2.2 0 0)), (1, .int (T 4 0)), (2, .int (E 5 0)), (3, .int (L 6 0)), (4, .int 2147483647), (5, .int 1), (6, .int (-2147483648)), (7, .int 1), (8, .int 6)] 271 [.int (-71)]
  refine zi_bipush (pc := 271) (v := (-71)) F dL_refuses_271 rfl ?_
  refine zi_icmp_ne (pc := 273) (tgt := 315) F dL_refuses_273 (by decide) (fun h => absurd h (by decide)) (fun _ => ?_)
  refine zi_iload (pc := 276) F dL_refuses_276 8 rfl ?_
  refine zi_iconst (pc := 278) (v := 5) F dL_refuses_278 rfl ?_
  refine zi_icmp_eq (pc := 279) (tgt := 311) F dL_refuses_279 (by decide) (fun h => absurd h (by decide)) (fun _ => ?_)
  refine zi_iload_n (pc := 282) F dL_refuses_282 1 rfl ?_
  refine zi_if_eq (pc := 283) (tgt := 311) F dL_refuses_283 (by decide) (fun _ => ?_) (fun h0 => ?_)
  · skip
    refine zi_iconst (pc := 311) (v := 1) F dL_refuses_311 rfl ?_
    refine zi_goto (pc := 312) (tgt := 316) F dL_refuses_312 (by decide) ?_
    refine zi_istore (pc := 316) (lv' := [(0, .ref (G.2.2 0 0)), (1, .int (T 4 0)), (2, .int (E 5 0)), (3, .int (L 6 0)), (4, .int 2147483647), (5, .int 1), (6, .int (-2147483648)), (7, .int 1), (8, .int 6)]) F dL_refuses_316 (by decide) rfl ?_
    refine zi_widen (Nat.le_of_ble_eq_true rfl) (Nat.le_of_ble_eq_true rfl) kk
  · have h0 : ¬ T 4 0 ≤ 0 := fun h9 => by
      have t1 := zt_le h9
      have t2 := zt_ne h0
      have k_0 : Int32.toInt 0 = 0 := by decide
      obtain ⟨i1, i2⟩ := hIT
      omega
    refine zi_aload_n (pc := 286) F dL_refuses_286 0 rfl ?_
    refine zi_iload (pc := 287) F dL_refuses_287 8 rfl ?_
    refine zi_iconst (pc := 289) (v := 0) F dL_refuses_289 rfl ?_
    refine zi_iload (pc := 290) F dL_refuses_290 5 rfl ?_
    refine zi_iconst (pc := 292) (v := 1) F dL_refuses_292 rfl ?_
    refine zi_icmp_ne (pc := 293) (tgt := 301) F dL_refuses_293 (by decide) (fun h => absurd h (by decide)) (fun _ => ?_)
    refine zi_bipush (pc := 296) (v := 6) F dL_refuses_296 rfl ?_
    refine zi_goto (pc := 298) (tgt := 303) F dL_refuses_298 (by decide) ?_
    refine zi_callQH (pc := 303) (rest := []) F hsx hao (cr_6l l hfl G L T E V M K hIT hIE hIM 6 h0 (Or.inr (by decide))) (vx_cwSW 4 F.1.2.2.2.2 gL_refuses_L_act rfl rfl rfl hd_L_act ⟨Nat.le_of_ble_eq_true rfl, Nat.le_of_ble_eq_true rfl⟩) [] [] (zw_nil _) (zw_nil _).symm rfl rfl (Nat.le_of_ble_eq_true rfl) dL_refuses_303 ⟨Nat.le_of_ble_eq_true rfl, Nat.le_of_ble_eq_true rfl⟩ ?_
    show zW p l e rmL_refuses s m args below meth c 28 168 Q G.1 A 9 (zWL G L T E V M K) [(0, .ref (G.2.2 0 0)), (1, .int (T 4 0)), (2, .int (E 5 0)), (3, .int (L 6 0)), (4, .int 2147483647), (5, .int 1), (6, .int (-2147483648)), (7, .int 1), (8, .int 6)] 306 [.int (-72)]
    refine zi_bipush (pc := 306) (v := (-72)) F dL_refuses_306 rfl ?_
    refine zi_icmp_ne (pc := 308) (tgt := 315) F dL_refuses_308 (by decide) (fun h => absurd h (by decide)) (fun _ => ?_)
    refine zi_iconst (pc := 311) (v := 1) F dL_refuses_311 rfl ?_
    refine zi_goto (pc := 312) (tgt := 316) F dL_refuses_312 (by decide) ?_
    refine zi_istore (pc := 316) (lv' := [(0, .ref (G.2.2 0 0)), (1, .int (T 4 0)), (2, .int (E 5 0)), (3, .int (L 6 0)), (4, .int 2147483647), (5, .int 1), (6, .int (-2147483648)), (7, .int 1), (8, .int 6)]) F dL_refuses_316 (by decide) rfl ?_
    exact kk
set_option maxHeartbeats 4000000 in
set_option maxRecDepth 100000 in
theorem sg_rf_1_w6i {p : Program} {l : Launch} {e : Env} {s : State} {m : MethodId} {args : Array Value} {below : List Frame} {meth : Method} {c : Code} {Q : State → Prop} {A : Nat → Prop} {G : zG_t} {L T E V M K : zS_t} (hfl : l.stackTraces = false) (hIT : zIT T) (hIE : zIE E) (hIM : zIM M) (F : zF p m c cL_refuses 9 s args wsL_refuses RL G.1 (zty G) A) (hsx : zSx s) (hao : zAOA s) (kk : zW p l e rmL_refuses s m args below meth c 28 168 Q G.1 A 9 (zWL G L T E V M K) [(0, .ref (G.2.2 0 0)), (1, .int (T 4 0)), (2, .int (E 5 0)), (3, .int (L 6 0)), (4, .int 2147483647), (5, .int 1), (6, .int (-2147483648)), (7, .int 1), (8, .int 7)] 240 []) : zW p l e rmL_refuses s m args below meth c 28 168 Q G.1 A 9 (zWL G L T E V M K) [(0, .ref (G.2.2 0 0)), (1, .int (T 4 0)), (2, .int (E 5 0)), (3, .int (L 6 0)), (4, .int 2147483647), (5, .int 1), (6, .int (-2147483648)), (7, .int 1), (8, .int 6)] 318 [] := by
  have k_max : Int32.toInt 2147483647 = 2147483647 := by decide
  have hmaxT : T 4 0 ≤ 2147483647 := Int32.le_iff_toInt_le.mpr (by rw [k_max]; have h9 := hIT.2; omega)
  have hmaxE : E 5 0 ≤ 2147483647 := Int32.le_iff_toInt_le.mpr (by rw [k_max]; have h9 := hIE.1.2; omega)
  refine zi_iinc (pc := 318) (lv' := [(0, .ref (G.2.2 0 0)), (1, .int (T 4 0)), (2, .int (E 5 0)), (3, .int (L 6 0)), (4, .int 2147483647), (5, .int 1), (6, .int (-2147483648)), (7, .int 1), (8, .int 7)]) F dL_refuses_318 8 rfl (by decide) (by decide) rfl ?_
  refine zi_goto (pc := 321) (tgt := 240) F dL_refuses_321 (by decide) ?_
  exact kk
set_option maxHeartbeats 4000000 in
set_option maxRecDepth 100000 in
theorem sg_rf_1_w7 {p : Program} {l : Launch} {e : Env} {s : State} {m : MethodId} {args : Array Value} {below : List Frame} {meth : Method} {c : Code} {Q : State → Prop} {A : Nat → Prop} {G : zG_t} {L T E V M K : zS_t} (hfl : l.stackTraces = false) (hIT : zIT T) (hIE : zIE E) (hIM : zIM M) (F : zF p m c cL_refuses 9 s args wsL_refuses RL G.1 (zty G) A) (hsx : zSx s) (hao : zAOA s) (kk : zW p l e rmL_refuses s m args below meth c 30 180 Q G.1 A 9 (zWL G L T E V M K) [(0, .ref (G.2.2 0 0)), (1, .int (T 4 0)), (2, .int (E 5 0)), (3, .int (L 6 0)), (4, .int 2147483647), (5, .int 1), (6, .int (-2147483648)), (7, .int 1), (8, .int 7)] 318 []) : zW p l e rmL_refuses s m args below meth c 28 168 Q G.1 A 9 (zWL G L T E V M K) [(0, .ref (G.2.2 0 0)), (1, .int (T 4 0)), (2, .int (E 5 0)), (3, .int (L 6 0)), (4, .int 2147483647), (5, .int 1), (6, .int (-2147483648)), (7, .int 1), (8, .int 7)] 240 [] := by
  have k_max : Int32.toInt 2147483647 = 2147483647 := by decide
  have hmaxT : T 4 0 ≤ 2147483647 := Int32.le_iff_toInt_le.mpr (by rw [k_max]; have h9 := hIT.2; omega)
  have hmaxE : E 5 0 ≤ 2147483647 := Int32.le_iff_toInt_le.mpr (by rw [k_max]; have h9 := hIE.1.2; omega)
  refine zi_iload (pc := 240) F dL_refuses_240 8 rfl ?_
  refine zi_bipush (pc := 242) (v := 9) F dL_refuses_242 rfl ?_
  refine zi_icmp_ge (pc := 244) (tgt := 324) F dL_refuses_244 (by decide) (fun h => absurd h (by decide)) (fun _ => ?_)
  refine zi_iload (pc := 247) F dL_refuses_247 7 rfl ?_
  refine zi_if_eq (pc := 249) (tgt := 315) F dL_refuses_249 (by decide) (fun h => absurd h (by decide)) (fun _ => ?_)
  refine zi_aload_n (pc := 252) F dL_refuses_252 0 rfl ?_
  refine zi_iload (pc := 253) F dL_refuses_253 8 rfl ?_
  refine zi_iload (pc := 255) F dL_refuses_255 5 rfl ?_
  refine zi_iconst (pc := 257) (v := 1) F dL_refuses_257 rfl ?_
  refine zi_icmp_ne (pc := 258) (tgt := 265) F dL_refuses_258 (by decide) (fun h => absurd h (by decide)) (fun _ => ?_)
  refine zi_iload_n (pc := 261) F dL_refuses_261 1 rfl ?_
  refine zi_goto (pc := 262) (tgt := 267) F dL_refuses_262 (by decide) ?_
  refine zi_iconst (pc := 267) (v := (-1)) F dL_refuses_267 rfl ?_
  refine zi_callQH (pc := 268) (rest := []) F hsx hao (cr_7 l hfl G L T E V M K hIT hIE hIM (T 4 0) (-1) (Or.inr (Int32.le_refl _))) (vx_cwSW 4 F.1.2.2.2.2 gL_refuses_L_act rfl rfl rfl hd_L_act ⟨Nat.le_of_ble_eq_true rfl, Nat.le_of_ble_eq_true rfl⟩) [] [] (zw_nil _) (zw_nil _).symm rfl rfl (Nat.le_of_ble_eq_true rfl) dL_refuses_268 ⟨Nat.le_of_ble_eq_true rfl, Nat.le_of_ble_eq_true rfl⟩ ?_
  show zW p l e rmL_refuses s m args below meth c 29 174 Q G.1 A 9 (zWL G L T E V M K) [(0, .ref (G.2.2 0 0)), (1, .int (T 4 0)), (2, .int (E 5 0)), (3, .int (L 6 0)), (4, .int 2147483647), (5, .int 1), (6, .int (-2147483648)), (7, .int 1), (8, .int 7)] 271 [.int (-71)]
  refine zi_bipush (pc := 271) (v := (-71)) F dL_refuses_271 rfl ?_
  refine zi_icmp_ne (pc := 273) (tgt := 315) F dL_refuses_273 (by decide) (fun h => absurd h (by decide)) (fun _ => ?_)
  refine zi_iload (pc := 276) F dL_refuses_276 8 rfl ?_
  refine zi_iconst (pc := 278) (v := 5) F dL_refuses_278 rfl ?_
  refine zi_icmp_eq (pc := 279) (tgt := 311) F dL_refuses_279 (by decide) (fun h => absurd h (by decide)) (fun _ => ?_)
  refine zi_iload_n (pc := 282) F dL_refuses_282 1 rfl ?_
  refine zi_if_eq (pc := 283) (tgt := 311) F dL_refuses_283 (by decide) (fun _ => ?_) (fun h0 => ?_)
  · skip
    refine zi_iconst (pc := 311) (v := 1) F dL_refuses_311 rfl ?_
    refine zi_goto (pc := 312) (tgt := 316) F dL_refuses_312 (by decide) ?_
    refine zi_istore (pc := 316) (lv' := [(0, .ref (G.2.2 0 0)), (1, .int (T 4 0)), (2, .int (E 5 0)), (3, .int (L 6 0)), (4, .int 2147483647), (5, .int 1), (6, .int (-2147483648)), (7, .int 1), (8, .int 7)]) F dL_refuses_316 (by decide) rfl ?_
    refine zi_widen (Nat.le_of_ble_eq_true rfl) (Nat.le_of_ble_eq_true rfl) kk
  · have h0 : ¬ T 4 0 ≤ 0 := fun h9 => by
      have t1 := zt_le h9
      have t2 := zt_ne h0
      have k_0 : Int32.toInt 0 = 0 := by decide
      obtain ⟨i1, i2⟩ := hIT
      omega
    refine zi_aload_n (pc := 286) F dL_refuses_286 0 rfl ?_
    refine zi_iload (pc := 287) F dL_refuses_287 8 rfl ?_
    refine zi_iconst (pc := 289) (v := 0) F dL_refuses_289 rfl ?_
    refine zi_iload (pc := 290) F dL_refuses_290 5 rfl ?_
    refine zi_iconst (pc := 292) (v := 1) F dL_refuses_292 rfl ?_
    refine zi_icmp_ne (pc := 293) (tgt := 301) F dL_refuses_293 (by decide) (fun h => absurd h (by decide)) (fun _ => ?_)
    refine zi_bipush (pc := 296) (v := 6) F dL_refuses_296 rfl ?_
    refine zi_goto (pc := 298) (tgt := 303) F dL_refuses_298 (by decide) ?_
    refine zi_callQH (pc := 303) (rest := []) F hsx hao (cr_7l l hfl G L T E V M K hIT hIE hIM 6 h0 (Or.inr (by decide))) (vx_cwSW 4 F.1.2.2.2.2 gL_refuses_L_act rfl rfl rfl hd_L_act ⟨Nat.le_of_ble_eq_true rfl, Nat.le_of_ble_eq_true rfl⟩) [] [] (zw_nil _) (zw_nil _).symm rfl rfl (Nat.le_of_ble_eq_true rfl) dL_refuses_303 ⟨Nat.le_of_ble_eq_true rfl, Nat.le_of_ble_eq_true rfl⟩ ?_
    show zW p l e rmL_refuses s m args below meth c 30 180 Q G.1 A 9 (zWL G L T E V M K) [(0, .ref (G.2.2 0 0)), (1, .int (T 4 0)), (2, .int (E 5 0)), (3, .int (L 6 0)), (4, .int 2147483647), (5, .int 1), (6, .int (-2147483648)), (7, .int 1), (8, .int 7)] 306 [.int (-72)]
    refine zi_bipush (pc := 306) (v := (-72)) F dL_refuses_306 rfl ?_
    refine zi_icmp_ne (pc := 308) (tgt := 315) F dL_refuses_308 (by decide) (fun h => absurd h (by decide)) (fun _ => ?_)
    refine zi_iconst (pc := 311) (v := 1) F dL_refuses_311 rfl ?_
    refine zi_goto (pc := 312) (tgt := 316) F dL_refuses_312 (by decide) ?_
    refine zi_istore (pc := 316) (lv' := [(0, .ref (G.2.2 0 0)), (1, .int (T 4 0)), (2, .int (E 5 0)), (3, .int (L 6 0)), (4, .int 2147483647), (5, .int 1), (6, .int (-2147483648)), (7, .int 1), (8, .int 7)]) F dL_refuses_316 (by decide) rfl ?_
    exact kk
set_option maxHeartbeats 4000000 in
set_option maxRecDepth 100000 in
theorem sg_rf_1_w7i {p : Program} {l : Launch} {e : Env} {s : State} {m : MethodId} {args : Array Value} {below : List Frame} {meth : Method} {c : Code} {Q : State → Prop} {A : Nat → Prop} {G : zG_t} {L T E V M K : zS_t} (hfl : l.stackTraces = false) (hIT : zIT T) (hIE : zIE E) (hIM : zIM M) (F : zF p m c cL_refuses 9 s args wsL_refuses RL G.1 (zty G) A) (hsx : zSx s) (hao : zAOA s) (kk : zW p l e rmL_refuses s m args below meth c 30 180 Q G.1 A 9 (zWL G L T E V M K) [(0, .ref (G.2.2 0 0)), (1, .int (T 4 0)), (2, .int (E 5 0)), (3, .int (L 6 0)), (4, .int 2147483647), (5, .int 1), (6, .int (-2147483648)), (7, .int 1), (8, .int 8)] 240 []) : zW p l e rmL_refuses s m args below meth c 30 180 Q G.1 A 9 (zWL G L T E V M K) [(0, .ref (G.2.2 0 0)), (1, .int (T 4 0)), (2, .int (E 5 0)), (3, .int (L 6 0)), (4, .int 2147483647), (5, .int 1), (6, .int (-2147483648)), (7, .int 1), (8, .int 7)] 318 [] := by
  have k_max : Int32.toInt 2147483647 = 2147483647 := by decide
  have hmaxT : T 4 0 ≤ 2147483647 := Int32.le_iff_toInt_le.mpr (by rw [k_max]; have h9 := hIT.2; omega)
  have hmaxE : E 5 0 ≤ 2147483647 := Int32.le_iff_toInt_le.mpr (by rw [k_max]; have h9 := hIE.1.2; omega)
  refine zi_iinc (pc := 318) (lv' := [(0, .ref (G.2.2 0 0)), (1, .int (T 4 0)), (2, .int (E 5 0)), (3, .int (L 6 0)), (4, .int 2147483647), (5, .int 1), (6, .int (-2147483648)), (7, .int 1), (8, .int 8)]) F dL_refuses_318 8 rfl (by decide) (by decide) rfl ?_
  refine zi_goto (pc := 321) (tgt := 240) F dL_refuses_321 (by decide) ?_
  exact kk
set_option maxHeartbeats 4000000 in
set_option maxRecDepth 100000 in
theorem sg_rf_1_w8 {p : Program} {l : Launch} {e : Env} {s : State} {m : MethodId} {args : Array Value} {below : List Frame} {meth : Method} {c : Code} {Q : State → Prop} {A : Nat → Prop} {G : zG_t} {L T E V M K : zS_t} (hfl : l.stackTraces = false) (hIT : zIT T) (hIE : zIE E) (hIM : zIM M) (F : zF p m c cL_refuses 9 s args wsL_refuses RL G.1 (zty G) A) (hsx : zSx s) (hao : zAOA s) (kk : zW p l e rmL_refuses s m args below meth c 32 192 Q G.1 A 9 (zWL G L T E V M K) [(0, .ref (G.2.2 0 0)), (1, .int (T 4 0)), (2, .int (E 5 0)), (3, .int (L 6 0)), (4, .int 2147483647), (5, .int 1), (6, .int (-2147483648)), (7, .int 1), (8, .int 8)] 318 []) : zW p l e rmL_refuses s m args below meth c 30 180 Q G.1 A 9 (zWL G L T E V M K) [(0, .ref (G.2.2 0 0)), (1, .int (T 4 0)), (2, .int (E 5 0)), (3, .int (L 6 0)), (4, .int 2147483647), (5, .int 1), (6, .int (-2147483648)), (7, .int 1), (8, .int 8)] 240 [] := by
  have k_max : Int32.toInt 2147483647 = 2147483647 := by decide
  have hmaxT : T 4 0 ≤ 2147483647 := Int32.le_iff_toInt_le.mpr (by rw [k_max]; have h9 := hIT.2; omega)
  have hmaxE : E 5 0 ≤ 2147483647 := Int32.le_iff_toInt_le.mpr (by rw [k_max]; have h9 := hIE.1.2; omega)
  refine zi_iload (pc := 240) F dL_refuses_240 8 rfl ?_
  refine zi_bipush (pc := 242) (v := 9) F dL_refuses_242 rfl ?_
  refine zi_icmp_ge (pc := 244) (tgt := 324) F dL_refuses_244 (by decide) (fun h => absurd h (by decide)) (fun _ => ?_)
  refine zi_iload (pc := 247) F dL_refuses_247 7 rfl ?_
  refine zi_if_eq (pc := 249) (tgt := 315) F dL_refuses_249 (by decide) (fun h => absurd h (by decide)) (fun _ => ?_)
  refine zi_aload_n (pc := 252) F dL_refuses_252 0 rfl ?_
  refine zi_iload (pc := 253) F dL_refuses_253 8 rfl ?_
  refine zi_iload (pc := 255) F dL_refuses_255 5 rfl ?_
  refine zi_iconst (pc := 257) (v := 1) F dL_refuses_257 rfl ?_
  refine zi_icmp_ne (pc := 258) (tgt := 265) F dL_refuses_258 (by decide) (fun h => absurd h (by decide)) (fun _ => ?_)
  refine zi_iload_n (pc := 261) F dL_refuses_261 1 rfl ?_
  refine zi_goto (pc := 262) (tgt := 267) F dL_refuses_262 (by decide) ?_
  refine zi_iconst (pc := 267) (v := (-1)) F dL_refuses_267 rfl ?_
  refine zi_callQH (pc := 268) (rest := []) F hsx hao (cr_8 l hfl G L T E V M K hIT hIE hIM (T 4 0) (-1) (Or.inr (Int32.le_refl _))) (vx_cwSW 4 F.1.2.2.2.2 gL_refuses_L_act rfl rfl rfl hd_L_act ⟨Nat.le_of_ble_eq_true rfl, Nat.le_of_ble_eq_true rfl⟩) [] [] (zw_nil _) (zw_nil _).symm rfl rfl (Nat.le_of_ble_eq_true rfl) dL_refuses_268 ⟨Nat.le_of_ble_eq_true rfl, Nat.le_of_ble_eq_true rfl⟩ ?_
  show zW p l e rmL_refuses s m args below meth c 31 186 Q G.1 A 9 (zWL G L T E V M K) [(0, .ref (G.2.2 0 0)), (1, .int (T 4 0)), (2, .int (E 5 0)), (3, .int (L 6 0)), (4, .int 2147483647), (5, .int 1), (6, .int (-2147483648)), (7, .int 1), (8, .int 8)] 271 [.int (-71)]
  refine zi_bipush (pc := 271) (v := (-71)) F dL_refuses_271 rfl ?_
  refine zi_icmp_ne (pc := 273) (tgt := 315) F dL_refuses_273 (by decide) (fun h => absurd h (by decide)) (fun _ => ?_)
  refine zi_iload (pc := 276) F dL_refuses_276 8 rfl ?_
  refine zi_iconst (pc := 278) (v := 5) F dL_refuses_278 rfl ?_
  refine zi_icmp_eq (pc := 279) (tgt := 311) F dL_refuses_279 (by decide) (fun h => absurd h (by decide)) (fun _ => ?_)
  refine zi_iload_n (pc := 282) F dL_refuses_282 1 rfl ?_
  refine zi_if_eq (pc := 283) (tgt := 311) F dL_refuses_283 (by decide) (fun _ => ?_) (fun h0 => ?_)
  · skip
    refine zi_iconst (pc := 311) (v := 1) F dL_refuses_311 rfl ?_
    refine zi_goto (pc := 312) (tgt := 316) F dL_refuses_312 (by decide) ?_
    refine zi_istore (pc := 316) (lv' := [(0, .ref (G.2.2 0 0)), (1, .int (T 4 0)), (2, .int (E 5 0)), (3, .int (L 6 0)), (4, .int 2147483647), (5, .int 1), (6, .int (-2147483648)), (7, .int 1), (8, .int 8)]) F dL_refuses_316 (by decide) rfl ?_
    refine zi_widen (Nat.le_of_ble_eq_true rfl) (Nat.le_of_ble_eq_true rfl) kk
  · have h0 : ¬ T 4 0 ≤ 0 := fun h9 => by
      have t1 := zt_le h9
      have t2 := zt_ne h0
      have k_0 : Int32.toInt 0 = 0 := by decide
      obtain ⟨i1, i2⟩ := hIT
      omega
    refine zi_aload_n (pc := 286) F dL_refuses_286 0 rfl ?_
    refine zi_iload (pc := 287) F dL_refuses_287 8 rfl ?_
    refine zi_iconst (pc := 289) (v := 0) F dL_refuses_289 rfl ?_
    refine zi_iload (pc := 290) F dL_refuses_290 5 rfl ?_
    refine zi_iconst (pc := 292) (v := 1) F dL_refuses_292 rfl ?_
    refine zi_icmp_ne (pc := 293) (tgt := 301) F dL_refuses_293 (by decide) (fun h => absurd h (by decide)) (fun _ => ?_)
    refine zi_bipush (pc := 296) (v := 6) F dL_refuses_296 rfl ?_
    refine zi_goto (pc := 298) (tgt := 303) F dL_refuses_298 (by decide) ?_
    refine zi_callQH (pc := 303) (rest := []) F hsx hao (cr_8l l hfl G L T E V M K hIT hIE hIM 6 h0 (Or.inr (by decide))) (vx_cwSW 4 F.1.2.2.2.2 gL_refuses_L_act rfl rfl rfl hd_L_act ⟨Nat.le_of_ble_eq_true rfl, Nat.le_of_ble_eq_true rfl⟩) [] [] (zw_nil _) (zw_nil _).symm rfl rfl (Nat.le_of_ble_eq_true rfl) dL_refuses_303 ⟨Nat.le_of_ble_eq_true rfl, Nat.le_of_ble_eq_true rfl⟩ ?_
    show zW p l e rmL_refuses s m args below meth c 32 192 Q G.1 A 9 (zWL G L T E V M K) [(0, .ref (G.2.2 0 0)), (1, .int (T 4 0)), (2, .int (E 5 0)), (3, .int (L 6 0)), (4, .int 2147483647), (5, .int 1), (6, .int (-2147483648)), (7, .int 1), (8, .int 8)] 306 [.int (-72)]
    refine zi_bipush (pc := 306) (v := (-72)) F dL_refuses_306 rfl ?_
    refine zi_icmp_ne (pc := 308) (tgt := 315) F dL_refuses_308 (by decide) (fun h => absurd h (by decide)) (fun _ => ?_)
    refine zi_iconst (pc := 311) (v := 1) F dL_refuses_311 rfl ?_
    refine zi_goto (pc := 312) (tgt := 316) F dL_refuses_312 (by decide) ?_
    refine zi_istore (pc := 316) (lv' := [(0, .ref (G.2.2 0 0)), (1, .int (T 4 0)), (2, .int (E 5 0)), (3, .int (L 6 0)), (4, .int 2147483647), (5, .int 1), (6, .int (-2147483648)), (7, .int 1), (8, .int 8)]) F dL_refuses_316 (by decide) rfl ?_
    exact kk
set_option maxHeartbeats 4000000 in
set_option maxRecDepth 100000 in
theorem sg_rf_1_w8i {p : Program} {l : Launch} {e : Env} {s : State} {m : MethodId} {args : Array Value} {below : List Frame} {meth : Method} {c : Code} {Q : State → Prop} {A : Nat → Prop} {G : zG_t} {L T E V M K : zS_t} (hfl : l.stackTraces = false) (hIT : zIT T) (hIE : zIE E) (hIM : zIM M) (F : zF p m c cL_refuses 9 s args wsL_refuses RL G.1 (zty G) A) (hsx : zSx s) (hao : zAOA s) (kk : zW p l e rmL_refuses s m args below meth c 32 192 Q G.1 A 9 (zWL G L T E V M K) [(0, .ref (G.2.2 0 0)), (1, .int (T 4 0)), (2, .int (E 5 0)), (3, .int (L 6 0)), (4, .int 2147483647), (5, .int 1), (6, .int (-2147483648)), (7, .int 1), (8, .int 9)] 240 []) : zW p l e rmL_refuses s m args below meth c 32 192 Q G.1 A 9 (zWL G L T E V M K) [(0, .ref (G.2.2 0 0)), (1, .int (T 4 0)), (2, .int (E 5 0)), (3, .int (L 6 0)), (4, .int 2147483647), (5, .int 1), (6, .int (-2147483648)), (7, .int 1), (8, .int 8)] 318 [] := by
  have k_max : Int32.toInt 2147483647 = 2147483647 := by decide
  have hmaxT : T 4 0 ≤ 2147483647 := Int32.le_iff_toInt_le.mpr (by rw [k_max]; have h9 := hIT.2; omega)
  have hmaxE : E 5 0 ≤ 2147483647 := Int32.le_iff_toInt_le.mpr (by rw [k_max]; have h9 := hIE.1.2; omega)
  refine zi_iinc (pc := 318) (lv' := [(0, .ref (G.2.2 0 0)), (1, .int (T 4 0)), (2, .int (E 5 0)), (3, .int (L 6 0)), (4, .int 2147483647), (5, .int 1), (6, .int (-2147483648)), (7, .int 1), (8, .int 9)]) F dL_refuses_318 8 rfl (by decide) (by decide) rfl ?_
  refine zi_goto (pc := 321) (tgt := 240) F dL_refuses_321 (by decide) ?_
  exact kk
set_option maxHeartbeats 4000000 in
set_option maxRecDepth 100000 in
theorem sg_rf_1_c {p : Program} {l : Launch} {e : Env} {s : State} {m : MethodId} {args : Array Value} {below : List Frame} {meth : Method} {c : Code} {Q : State → Prop} {A : Nat → Prop} {G : zG_t} {L T E V M K : zS_t} (hfl : l.stackTraces = false) (hIT : zIT T) (hIE : zIE E) (hIM : zIM M) (F : zF p m c cL_refuses 9 s args wsL_refuses RL G.1 (zty G) A) (hsx : zSx s) (hao : zAOA s) (kk : zW p l e rmL_refuses s m args below meth c 32 192 Q G.1 A 9 (zWL G L T E V M K) [(0, .ref (G.2.2 0 0)), (1, .int (T 4 0)), (2, .int (E 5 0)), (3, .int (L 6 0)), (4, .int 2147483647), (5, .int 1), (6, .int (-2147483648)), (7, .int 1), (8, .int 9)] 328 []) : zW p l e rmL_refuses s m args below meth c 32 192 Q G.1 A 9 (zWL G L T E V M K) [(0, .ref (G.2.2 0 0)), (1, .int (T 4 0)), (2, .int (E 5 0)), (3, .int (L 6 0)), (4, .int 2147483647), (5, .int 1), (6, .int (-2147483648)), (7, .int 1), (8, .int 9)] 240 [] := by
  have k_max : Int32.toInt 2147483647 = 2147483647 := by decide
  have hmaxT : T 4 0 ≤ 2147483647 := Int32.le_iff_toInt_le.mpr (by rw [k_max]; have h9 := hIT.2; omega)
  have hmaxE : E 5 0 ≤ 2147483647 := Int32.le_iff_toInt_le.mpr (by rw [k_max]; have h9 := hIE.1.2; omega)
  refine zi_iload (pc := 240) F dL_refuses_240 8 rfl ?_
  refine zi_bipush (pc := 242) (v := 9) F dL_refuses_242 rfl ?_
  refine zi_icmp_ge (pc := 244) (tgt := 324) F dL_refuses_244 (by decide) (fun _ => ?_) (fun h => absurd h (by decide))
  refine zi_bipush (pc := 324) (v := 9) F dL_refuses_324 rfl ?_
  refine zi_istore (pc := 326) (lv' := [(0, .ref (G.2.2 0 0)), (1, .int (T 4 0)), (2, .int (E 5 0)), (3, .int (L 6 0)), (4, .int 2147483647), (5, .int 1), (6, .int (-2147483648)), (7, .int 1), (8, .int 9)]) F dL_refuses_326 (by decide) rfl ?_
  exact kk
set_option maxHeartbeats 4000000 in
set_option maxRecDepth 100000 in
theorem sg_rf_1_w9 {p : Program} {l : Launch} {e : Env} {s : State} {m : MethodId} {args : Array Value} {below : List Frame} {meth : Method} {c : Code} {Q : State → Prop} {A : Nat → Prop} {G : zG_t} {L T E V M K : zS_t} (hfl : l.stackTraces = false) (hIT : zIT T) (hIE : zIE E) (hIM : zIM M) (F : zF p m c cL_refuses 9 s args wsL_refuses RL G.1 (zty G) A) (hsx : zSx s) (hao : zAOA s) (kk : zW p l e rmL_refuses s m args below meth c 33 198 Q G.1 A 9 (zWL G L T E V M K) [(0, .ref (G.2.2 0 0)), (1, .int (T 4 0)), (2, .int (E 5 0)), (3, .int (L 6 0)), (4, .int 2147483647), (5, .int 1), (6, .int (-2147483648)), (7, .int 1), (8, .int 9)] 371 []) : zW p l e rmL_refuses s m args below meth c 32 192 Q G.1 A 9 (zWL G L T E V M K) [(0, .ref (G.2.2 0 0)), (1, .int (T 4 0)), (2, .int (E 5 0)), (3, .int (L 6 0)), (4, .int 2147483647), (5, .int 1), (6, .int (-2147483648)), (7, .int 1), (8, .int 9)] 328 [] := by
  have k_max : Int32.toInt 2147483647 = 2147483647 := by decide
  have hmaxT : T 4 0 ≤ 2147483647 := Int32.le_iff_toInt_le.mpr (by rw [k_max]; have h9 := hIT.2; omega)
  have hmaxE : E 5 0 ≤ 2147483647 := Int32.le_iff_toInt_le.mpr (by rw [k_max]; have h9 := hIE.1.2; omega)
  refine zi_iload (pc := 328) F dL_refuses_328 8 rfl ?_
  refine zi_bipush (pc := 330) (v := 13) F dL_refuses_330 rfl ?_
  refine zi_icmp_ge (pc := 332) (tgt := 377) F dL_refuses_332 (by decide) (fun h => absurd h (by decide)) (fun _ => ?_)
  refine zi_iload (pc := 335) F dL_refuses_335 7 rfl ?_
  refine zi_if_eq (pc := 337) (tgt := 368) F dL_refuses_337 (by decide) (fun h => absurd h (by decide)) (fun _ => ?_)
  refine zi_aload_n (pc := 340) F dL_refuses_340 0 rfl ?_
  refine zi_iload (pc := 341) F dL_refuses_341 8 rfl ?_
  refine zi_iload (pc := 343) F dL_refuses_343 5 rfl ?_
  refine zi_iconst (pc := 345) (v := 1) F dL_refuses_345 rfl ?_
  refine zi_icmp_ne (pc := 346) (tgt := 353) F dL_refuses_346 (by decide) (fun h => absurd h (by decide)) (fun _ => ?_)
  refine zi_iload_n (pc := 349) F dL_refuses_349 2 rfl ?_
  refine zi_goto (pc := 350) (tgt := 355) F dL_refuses_350 (by decide) ?_
  refine zi_iconst (pc := 355) (v := 0) F dL_refuses_355 rfl ?_
  refine zi_callQH (pc := 356) (rest := []) F hsx hao (cr_9 l hfl G L T E V M K hIT hIE hIM (E 5 0) 0 (Or.inr (Int32.le_refl _))) (vx_cwSW 4 F.1.2.2.2.2 gL_refuses_L_act rfl rfl rfl hd_L_act ⟨Nat.le_of_ble_eq_true rfl, Nat.le_of_ble_eq_true rfl⟩) [] [] (zw_nil _) (zw_nil _).symm rfl rfl (Nat.le_of_ble_eq_true rfl) dL_refuses_356 ⟨Nat.le_of_ble_eq_true rfl, Nat.le_of_ble_eq_true rfl⟩ ?_
  show zW p l e rmL_refuses s m args below meth c 33 198 Q G.1 A 9 (zWL G L T E V M K) [(0, .ref (G.2.2 0 0)), (1, .int (T 4 0)), (2, .int (E 5 0)), (3, .int (L 6 0)), (4, .int 2147483647), (5, .int 1), (6, .int (-2147483648)), (7, .int 1), (8, .int 9)] 359 [.int (-71)]
  refine zi_bipush (pc := 359) (v := (-71)) F dL_refuses_359 rfl ?_
  refine zi_icmp_ne (pc := 361) (tgt := 368) F dL_refuses_361 (by decide) (fun h => absurd h (by decide)) (fun _ => ?_)
  refine zi_iconst (pc := 364) (v := 1) F dL_refuses_364 rfl ?_
  refine zi_goto (pc := 365) (tgt := 369) F dL_refuses_365 (by decide) ?_
  refine zi_istore (pc := 369) (lv' := [(0, .ref (G.2.2 0 0)), (1, .int (T 4 0)), (2, .int (E 5 0)), (3, .int (L 6 0)), (4, .int 2147483647), (5, .int 1), (6, .int (-2147483648)), (7, .int 1), (8, .int 9)]) F dL_refuses_369 (by decide) rfl ?_
  exact kk
set_option maxHeartbeats 4000000 in
set_option maxRecDepth 100000 in
theorem sg_rf_1_w9i {p : Program} {l : Launch} {e : Env} {s : State} {m : MethodId} {args : Array Value} {below : List Frame} {meth : Method} {c : Code} {Q : State → Prop} {A : Nat → Prop} {G : zG_t} {L T E V M K : zS_t} (hfl : l.stackTraces = false) (hIT : zIT T) (hIE : zIE E) (hIM : zIM M) (F : zF p m c cL_refuses 9 s args wsL_refuses RL G.1 (zty G) A) (hsx : zSx s) (hao : zAOA s) (kk : zW p l e rmL_refuses s m args below meth c 33 198 Q G.1 A 9 (zWL G L T E V M K) [(0, .ref (G.2.2 0 0)), (1, .int (T 4 0)), (2, .int (E 5 0)), (3, .int (L 6 0)), (4, .int 2147483647), (5, .int 1), (6, .int (-2147483648)), (7, .int 1), (8, .int 10)] 328 []) : zW p l e rmL_refuses s m args below meth c 33 198 Q G.1 A 9 (zWL G L T E V M K) [(0, .ref (G.2.2 0 0)), (1, .int (T 4 0)), (2, .int (E 5 0)), (3, .int (L 6 0)), (4, .int 2147483647), (5, .int 1), (6, .int (-2147483648)), (7, .int 1), (8, .int 9)] 371 [] := by
  have k_max : Int32.toInt 2147483647 = 2147483647 := by decide
  have hmaxT : T 4 0 ≤ 2147483647 := Int32.le_iff_toInt_le.mpr (by rw [k_max]; have h9 := hIT.2; omega)
  have hmaxE : E 5 0 ≤ 2147483647 := Int32.le_iff_toInt_le.mpr (by rw [k_max]; have h9 := hIE.1.2; omega)
  refine zi_iinc (pc := 371) (lv' := [(0, .ref (G.2.2 0 0)), (1, .int (T 4 0)), (2, .int (E 5 0)), (3, .int (L 6 0)), (4, .int 2147483647), (5, .int 1), (6, .int (-2147483648)), (7, .int 1), (8, .int 10)]) F dL_refuses_371 8 rfl (by decide) (by decide) rfl ?_
  refine zi_goto (pc := 374) (tgt := 328) F dL_refuses_374 (by decide) ?_
  exact kk
set_option maxHeartbeats 4000000 in
set_option maxRecDepth 100000 in
theorem sg_rf_1_w10 {p : Program} {l : Launch} {e : Env} {s : State} {m : MethodId} {args : Array Value} {below : List Frame} {meth : Method} {c : Code} {Q : State → Prop} {A : Nat → Prop} {G : zG_t} {L T E V M K : zS_t} (hfl : l.stackTraces = false) (hIT : zIT T) (hIE : zIE E) (hIM : zIM M) (F : zF p m c cL_refuses 9 s args wsL_refuses RL G.1 (zty G) A) (hsx : zSx s) (hao : zAOA s) (kk : zW p l e rmL_refuses s m args below meth c 34 204 Q G.1 A 9 (zWL G L T E V M K) [(0, .ref (G.2.2 0 0)), (1, .int (T 4 0)), (2, .int (E 5 0)), (3, .int (L 6 0)), (4, .int 2147483647), (5, .int 1), (6, .int (-2147483648)), (7, .int 1), (8, .int 10)] 371 []) : zW p l e rmL_refuses s m args below meth c 33 198 Q G.1 A 9 (zWL G L T E V M K) [(0, .ref (G.2.2 0 0)), (1, .int (T 4 0)), (2, .int (E 5 0)), (3, .int (L 6 0)), (4, .int 2147483647), (5, .int 1), (6, .int (-2147483648)), (7, .int 1), (8, .int 10)] 328 [] := by
  have k_max : Int32.toInt 2147483647 = 2147483647 := by decide
  have hmaxT : T 4 0 ≤ 2147483647 := Int32.le_iff_toInt_le.mpr (by rw [k_max]; have h9 := hIT.2; omega)
  have hmaxE : E 5 0 ≤ 2147483647 := Int32.le_iff_toInt_le.mpr (by rw [k_max]; have h9 := hIE.1.2; omega)
  refine zi_iload (pc := 328) F dL_refuses_328 8 rfl ?_
  refine zi_bipush (pc := 330) (v := 13) F dL_refuses_330 rfl ?_
  refine zi_icmp_ge (pc := 332) (tgt := 377) F dL_refuses_332 (by decide) (fun h => absurd h (by decide)) (fun _ => ?_)
  refine zi_iload (pc := 335) F dL_refuses_335 7 rfl ?_
  refine zi_if_eq (pc := 337) (tgt := 368) F dL_refuses_337 (by decide) (fun h => absurd h (by decide)) (fun _ => ?_)
  refine zi_aload_n (pc := 340) F dL_refuses_340 0 rfl ?_
  refine zi_iload (pc := 341) F dL_refuses_341 8 rfl ?_
  refine zi_iload (pc := 343) F dL_refuses_343 5 rfl ?_
  refine zi_iconst (pc := 345) (v := 1) F dL_refuses_345 rfl ?_
  refine zi_icmp_ne (pc := 346) (tgt := 353) F dL_refuses_346 (by decide) (fun h => absurd h (by decide)) (fun _ => ?_)
  refine zi_iload_n (pc := 349) F dL_refuses_349 2 rfl ?_
  refine zi_goto (pc := 350) (tgt := 355) F dL_refuses_350 (by decide) ?_
  refine zi_iconst (pc := 355) (v := 0) F dL_refuses_355 rfl ?_
  refine zi_callQH (pc := 356) (rest := []) F hsx hao (cr_10 l hfl G L T E V M K hIT hIE hIM (E 5 0) 0 (Or.inr (Int32.le_refl _))) (vx_cwSW 4 F.1.2.2.2.2 gL_refuses_L_act rfl rfl rfl hd_L_act ⟨Nat.le_of_ble_eq_true rfl, Nat.le_of_ble_eq_true rfl⟩) [] [] (zw_nil _) (zw_nil _).symm rfl rfl (Nat.le_of_ble_eq_true rfl) dL_refuses_356 ⟨Nat.le_of_ble_eq_true rfl, Nat.le_of_ble_eq_true rfl⟩ ?_
  show zW p l e rmL_refuses s m args below meth c 34 204 Q G.1 A 9 (zWL G L T E V M K) [(0, .ref (G.2.2 0 0)), (1, .int (T 4 0)), (2, .int (E 5 0)), (3, .int (L 6 0)), (4, .int 2147483647), (5, .int 1), (6, .int (-2147483648)), (7, .int 1), (8, .int 10)] 359 [.int (-71)]
  refine zi_bipush (pc := 359) (v := (-71)) F dL_refuses_359 rfl ?_
  refine zi_icmp_ne (pc := 361) (tgt := 368) F dL_refuses_361 (by decide) (fun h => absurd h (by decide)) (fun _ => ?_)
  refine zi_iconst (pc := 364) (v := 1) F dL_refuses_364 rfl ?_
  refine zi_goto (pc := 365) (tgt := 369) F dL_refuses_365 (by decide) ?_
  refine zi_istore (pc := 369) (lv' := [(0, .ref (G.2.2 0 0)), (1, .int (T 4 0)), (2, .int (E 5 0)), (3, .int (L 6 0)), (4, .int 2147483647), (5, .int 1), (6, .int (-2147483648)), (7, .int 1), (8, .int 10)]) F dL_refuses_369 (by decide) rfl ?_
  exact kk
set_option maxHeartbeats 4000000 in
set_option maxRecDepth 100000 in
theorem sg_rf_1_w10i {p : Program} {l : Launch} {e : Env} {s : State} {m : MethodId} {args : Array Value} {below : List Frame} {meth : Method} {c : Code} {Q : State → Prop} {A : Nat → Prop} {G : zG_t} {L T E V M K : zS_t} (hfl : l.stackTraces = false) (hIT : zIT T) (hIE : zIE E) (hIM : zIM M) (F : zF p m c cL_refuses 9 s args wsL_refuses RL G.1 (zty G) A) (hsx : zSx s) (hao : zAOA s) (kk : zW p l e rmL_refuses s m args below meth c 34 204 Q G.1 A 9 (zWL G L T E V M K) [(0, .ref (G.2.2 0 0)), (1, .int (T 4 0)), (2, .int (E 5 0)), (3, .int (L 6 0)), (4, .int 2147483647), (5, .int 1), (6, .int (-2147483648)), (7, .int 1), (8, .int 11)] 328 []) : zW p l e rmL_refuses s m args below meth c 34 204 Q G.1 A 9 (zWL G L T E V M K) [(0, .ref (G.2.2 0 0)), (1, .int (T 4 0)), (2, .int (E 5 0)), (3, .int (L 6 0)), (4, .int 2147483647), (5, .int 1), (6, .int (-2147483648)), (7, .int 1), (8, .int 10)] 371 [] := by
  have k_max : Int32.toInt 2147483647 = 2147483647 := by decide
  have hmaxT : T 4 0 ≤ 2147483647 := Int32.le_iff_toInt_le.mpr (by rw [k_max]; have h9 := hIT.2; omega)
  have hmaxE : E 5 0 ≤ 2147483647 := Int32.le_iff_toInt_le.mpr (by rw [k_max]; have h9 := hIE.1.2; omega)
  refine zi_iinc (pc := 371) (lv' := [(0, .ref (G.2.2 0 0)), (1, .int (T 4 0)), (2, .int (E 5 0)), (3, .int (L 6 0)), (4, .int 2147483647), (5, .int 1), (6, .int (-2147483648)), (7, .int 1), (8, .int 11)]) F dL_refuses_371 8 rfl (by decide) (by decide) rfl ?_
  refine zi_goto (pc := 374) (tgt := 328) F dL_refuses_374 (by decide) ?_
  exact kk
set_option maxHeartbeats 4000000 in
set_option maxRecDepth 100000 in
theorem sg_rf_1_w11 {p : Program} {l : Launch} {e : Env} {s : State} {m : MethodId} {args : Array Value} {below : List Frame} {meth : Method} {c : Code} {Q : State → Prop} {A : Nat → Prop} {G : zG_t} {L T E V M K : zS_t} (hfl : l.stackTraces = false) (hIT : zIT T) (hIE : zIE E) (hIM : zIM M) (F : zF p m c cL_refuses 9 s args wsL_refuses RL G.1 (zty G) A) (hsx : zSx s) (hao : zAOA s) (kk : zW p l e rmL_refuses s m args below meth c 35 210 Q G.1 A 9 (zWL G L T E V M K) [(0, .ref (G.2.2 0 0)), (1, .int (T 4 0)), (2, .int (E 5 0)), (3, .int (L 6 0)), (4, .int 2147483647), (5, .int 1), (6, .int (-2147483648)), (7, .int 1), (8, .int 11)] 371 []) : zW p l e rmL_refuses s m args below meth c 34 204 Q G.1 A 9 (zWL G L T E V M K) [(0, .ref (G.2.2 0 0)), (1, .int (T 4 0)), (2, .int (E 5 0)), (3, .int (L 6 0)), (4, .int 2147483647), (5, .int 1), (6, .int (-2147483648)), (7, .int 1), (8, .int 11)] 328 [] := by
  have k_max : Int32.toInt 2147483647 = 2147483647 := by decide
  have hmaxT : T 4 0 ≤ 2147483647 := Int32.le_iff_toInt_le.mpr (by rw [k_max]; have h9 := hIT.2; omega)
  have hmaxE : E 5 0 ≤ 2147483647 := Int32.le_iff_toInt_le.mpr (by rw [k_max]; have h9 := hIE.1.2; omega)
  refine zi_iload (pc := 328) F dL_refuses_328 8 rfl ?_
  refine zi_bipush (pc := 330) (v := 13) F dL_refuses_330 rfl ?_
  refine zi_icmp_ge (pc := 332) (tgt := 377) F dL_refuses_332 (by decide) (fun h => absurd h (by decide)) (fun _ => ?_)
  refine zi_iload (pc := 335) F dL_refuses_335 7 rfl ?_
  refine zi_if_eq (pc := 337) (tgt := 368) F dL_refuses_337 (by decide) (fun h => absurd h (by decide)) (fun _ => ?_)
  refine zi_aload_n (pc := 340) F dL_refuses_340 0 rfl ?_
  refine zi_iload (pc := 341) F dL_refuses_341 8 rfl ?_
  refine zi_iload (pc := 343) F dL_refuses_343 5 rfl ?_
  refine zi_iconst (pc := 345) (v := 1) F dL_refuses_345 rfl ?_
  refine zi_icmp_ne (pc := 346) (tgt := 353) F dL_refuses_346 (by decide) (fun h => absurd h (by decide)) (fun _ => ?_)
  refine zi_iload_n (pc := 349) F dL_refuses_349 2 rfl ?_
  refine zi_goto (pc := 350) (tgt := 355) F dL_refuses_350 (by decide) ?_
  refine zi_iconst (pc := 355) (v := 0) F dL_refuses_355 rfl ?_
  refine zi_callQH (pc := 356) (rest := []) F hsx hao (cr_11 l hfl G L T E V M K hIT hIE hIM (E 5 0) 0 (Or.inr (Int32.le_refl _))) (vx_cwSW 4 F.1.2.2.2.2 gL_refuses_L_act rfl rfl rfl hd_L_act ⟨Nat.le_of_ble_eq_true rfl, Nat.le_of_ble_eq_true rfl⟩) [] [] (zw_nil _) (zw_nil _).symm rfl rfl (Nat.le_of_ble_eq_true rfl) dL_refuses_356 ⟨Nat.le_of_ble_eq_true rfl, Nat.le_of_ble_eq_true rfl⟩ ?_
  show zW p l e rmL_refuses s m args below meth c 35 210 Q G.1 A 9 (zWL G L T E V M K) [(0, .ref (G.2.2 0 0)), (1, .int (T 4 0)), (2, .int (E 5 0)), (3, .int (L 6 0)), (4, .int 2147483647), (5, .int 1), (6, .int (-2147483648)), (7, .int 1), (8, .int 11)] 359 [.int (-71)]
  refine zi_bipush (pc := 359) (v := (-71)) F dL_refuses_359 rfl ?_
  refine zi_icmp_ne (pc := 361) (tgt := 368) F dL_refuses_361 (by decide) (fun h => absurd h (by decide)) (fun _ => ?_)
  refine zi_iconst (pc := 364) (v := 1) F dL_refuses_364 rfl ?_
  refine zi_goto (pc := 365) (tgt := 369) F dL_refuses_365 (by decide) ?_
  refine zi_istore (pc := 369) (lv' := [(0, .ref (G.2.2 0 0)), (1, .int (T 4 0)), (2, .int (E 5 0)), (3, .int (L 6 0)), (4, .int 2147483647), (5, .int 1), (6, .int (-2147483648)), (7, .int 1), (8, .int 11)]) F dL_refuses_369 (by decide) rfl ?_
  exact kk
set_option maxHeartbeats 4000000 in
set_option maxRecDepth 100000 in
theorem sg_rf_1_w11i {p : Program} {l : Launch} {e : Env} {s : State} {m : MethodId} {args : Array Value} {below : List Frame} {meth : Method} {c : Code} {Q : State → Prop} {A : Nat → Prop} {G : zG_t} {L T E V M K : zS_t} (hfl : l.stackTraces = false) (hIT : zIT T) (hIE : zIE E) (hIM : zIM M) (F : zF p m c cL_refuses 9 s args wsL_refuses RL G.1 (zty G) A) (hsx : zSx s) (hao : zAOA s) (kk : zW p l e rmL_refuses s m args below meth c 35 210 Q G.1 A 9 (zWL G L T E V M K) [(0, .ref (G.2.2 0 0)), (1, .int (T 4 0)), (2, .int (E 5 0)), (3, .int (L 6 0)), (4, .int 2147483647), (5, .int 1), (6, .int (-2147483648)), (7, .int 1), (8, .int 12)] 328 []) : zW p l e rmL_refuses s m args below meth c 35 210 Q G.1 A 9 (zWL G L T E V M K) [(0, .ref (G.2.2 0 0)), (1, .int (T 4 0)), (2, .int (E 5 0)), (3, .int (L 6 0)), (4, .int 2147483647), (5, .int 1), (6, .int (-2147483648)), (7, .int 1), (8, .int 11)] 371 [] := by
  have k_max : Int32.toInt 2147483647 = 2147483647 := by decide
  have hmaxT : T 4 0 ≤ 2147483647 := Int32.le_iff_toInt_le.mpr (by rw [k_max]; have h9 := hIT.2; omega)
  have hmaxE : E 5 0 ≤ 2147483647 := Int32.le_iff_toInt_le.mpr (by rw [k_max]; have h9 := hIE.1.2; omega)
  refine zi_iinc (pc := 371) (lv' := [(0, .ref (G.2.2 0 0)), (1, .int (T 4 0)), (2, .int (E 5 0)), (3, .int (L 6 0)), (4, .int 2147483647), (5, .int 1), (6, .int (-2147483648)), (7, .int 1), (8, .int 12)]) F dL_refuses_371 8 rfl (by decide) (by decide) rfl ?_
  refine zi_goto (pc := 374) (tgt := 328) F dL_refuses_374 (by decide) ?_
  exact kk
set_option maxHeartbeats 4000000 in
set_option maxRecDepth 100000 in
theorem sg_rf_1_w12 {p : Program} {l : Launch} {e : Env} {s : State} {m : MethodId} {args : Array Value} {below : List Frame} {meth : Method} {c : Code} {Q : State → Prop} {A : Nat → Prop} {G : zG_t} {L T E V M K : zS_t} (hfl : l.stackTraces = false) (hIT : zIT T) (hIE : zIE E) (hIM : zIM M) (F : zF p m c cL_refuses 9 s args wsL_refuses RL G.1 (zty G) A) (hsx : zSx s) (hao : zAOA s) (kk : zW p l e rmL_refuses s m args below meth c 36 216 Q G.1 A 9 (zWL G L T E V M K) [(0, .ref (G.2.2 0 0)), (1, .int (T 4 0)), (2, .int (E 5 0)), (3, .int (L 6 0)), (4, .int 2147483647), (5, .int 1), (6, .int (-2147483648)), (7, .int 1), (8, .int 12)] 371 []) : zW p l e rmL_refuses s m args below meth c 35 210 Q G.1 A 9 (zWL G L T E V M K) [(0, .ref (G.2.2 0 0)), (1, .int (T 4 0)), (2, .int (E 5 0)), (3, .int (L 6 0)), (4, .int 2147483647), (5, .int 1), (6, .int (-2147483648)), (7, .int 1), (8, .int 12)] 328 [] := by
  have k_max : Int32.toInt 2147483647 = 2147483647 := by decide
  have hmaxT : T 4 0 ≤ 2147483647 := Int32.le_iff_toInt_le.mpr (by rw [k_max]; have h9 := hIT.2; omega)
  have hmaxE : E 5 0 ≤ 2147483647 := Int32.le_iff_toInt_le.mpr (by rw [k_max]; have h9 := hIE.1.2; omega)
  refine zi_iload (pc := 328) F dL_refuses_328 8 rfl ?_
  refine zi_bipush (pc := 330) (v := 13) F dL_refuses_330 rfl ?_
  refine zi_icmp_ge (pc := 332) (tgt := 377) F dL_refuses_332 (by decide) (fun h => absurd h (by decide)) (fun _ => ?_)
  refine zi_iload (pc := 335) F dL_refuses_335 7 rfl ?_
  refine zi_if_eq (pc := 337) (tgt := 368) F dL_refuses_337 (by decide) (fun h => absurd h (by decide)) (fun _ => ?_)
  refine zi_aload_n (pc := 340) F dL_refuses_340 0 rfl ?_
  refine zi_iload (pc := 341) F dL_refuses_341 8 rfl ?_
  refine zi_iload (pc := 343) F dL_refuses_343 5 rfl ?_
  refine zi_iconst (pc := 345) (v := 1) F dL_refuses_345 rfl ?_
  refine zi_icmp_ne (pc := 346) (tgt := 353) F dL_refuses_346 (by decide) (fun h => absurd h (by decide)) (fun _ => ?_)
  refine zi_iload_n (pc := 349) F dL_refuses_349 2 rfl ?_
  refine zi_goto (pc := 350) (tgt := 355) F dL_refuses_350 (by decide) ?_
  refine zi_iconst (pc := 355) (v := 0) F dL_refuses_355 rfl ?_
  refine zi_callQH (pc := 356) (rest := []) F hsx hao (cr_12 l hfl G L T E V M K hIT hIE hIM (E 5 0) 0 (Or.inr (Int32.le_refl _))) (vx_cwSW 4 F.1.2.2.2.2 gL_refuses_L_act rfl rfl rfl hd_L_act ⟨Nat.le_of_ble_eq_true rfl, Nat.le_of_ble_eq_true rfl⟩) [] [] (zw_nil _) (zw_nil _).symm rfl rfl (Nat.le_of_ble_eq_true rfl) dL_refuses_356 ⟨Nat.le_of_ble_eq_true rfl, Nat.le_of_ble_eq_true rfl⟩ ?_
  show zW p l e rmL_refuses s m args below meth c 36 216 Q G.1 A 9 (zWL G L T E V M K) [(0, .ref (G.2.2 0 0)), (1, .int (T 4 0)), (2, .int (E 5 0)), (3, .int (L 6 0)), (4, .int 2147483647), (5, .int 1), (6, .int (-2147483648)), (7, .int 1), (8, .int 12)] 359 [.int (-71)]
  refine zi_bipush (pc := 359) (v := (-71)) F dL_refuses_359 rfl ?_
  refine zi_icmp_ne (pc := 361) (tgt := 368) F dL_refuses_361 (by decide) (fun h => absurd h (by decide)) (fun _ => ?_)
  refine zi_iconst (pc := 364) (v := 1) F dL_refuses_364 rfl ?_
  refine zi_goto (pc := 365) (tgt := 369) F dL_refuses_365 (by decide) ?_
  refine zi_istore (pc := 369) (lv' := [(0, .ref (G.2.2 0 0)), (1, .int (T 4 0)), (2, .int (E 5 0)), (3, .int (L 6 0)), (4, .int 2147483647), (5, .int 1), (6, .int (-2147483648)), (7, .int 1), (8, .int 12)]) F dL_refuses_369 (by decide) rfl ?_
  exact kk
set_option maxHeartbeats 4000000 in
set_option maxRecDepth 100000 in
theorem sg_rf_1_w12i {p : Program} {l : Launch} {e : Env} {s : State} {m : MethodId} {args : Array Value} {below : List Frame} {meth : Method} {c : Code} {Q : State → Prop} {A : Nat → Prop} {G : zG_t} {L T E V M K : zS_t} (hfl : l.stackTraces = false) (hIT : zIT T) (hIE : zIE E) (hIM : zIM M) (F : zF p m c cL_refuses 9 s args wsL_refuses RL G.1 (zty G) A) (hsx : zSx s) (hao : zAOA s) (kk : zW p l e rmL_refuses s m args below meth c 36 216 Q G.1 A 9 (zWL G L T E V M K) [(0, .ref (G.2.2 0 0)), (1, .int (T 4 0)), (2, .int (E 5 0)), (3, .int (L 6 0)), (4, .int 2147483647), (5, .int 1), (6, .int (-2147483648)), (7, .int 1), (8, .int 13)] 328 []) : zW p l e rmL_refuses s m args below meth c 36 216 Q G.1 A 9 (zWL G L T E V M K) [(0, .ref (G.2.2 0 0)), (1, .int (T 4 0)), (2, .int (E 5 0)), (3, .int (L 6 0)), (4, .int 2147483647), (5, .int 1), (6, .int (-2147483648)), (7, .int 1), (8, .int 12)] 371 [] := by
  have k_max : Int32.toInt 2147483647 = 2147483647 := by decide
  have hmaxT : T 4 0 ≤ 2147483647 := Int32.le_iff_toInt_le.mpr (by rw [k_max]; have h9 := hIT.2; omega)
  have hmaxE : E 5 0 ≤ 2147483647 := Int32.le_iff_toInt_le.mpr (by rw [k_max]; have h9 := hIE.1.2; omega)
  refine zi_iinc (pc := 371) (lv' := [(0, .ref (G.2.2 0 0)), (1, .int (T 4 0)), (2, .int (E 5 0)), (3, .int (L 6 0)), (4, .int 2147483647), (5, .int 1), (6, .int (-2147483648)), (7, .int 1), (8, .int 13)]) F dL_refuses_371 8 rfl (by decide) (by decide) rfl ?_
  refine zi_goto (pc := 374) (tgt := 328) F dL_refuses_374 (by decide) ?_
  exact kk
set_option maxHeartbeats 4000000 in
set_option maxRecDepth 100000 in
theorem sg_rf_1_d {p : Program} {l : Launch} {e : Env} {s : State} {m : MethodId} {args : Array Value} {below : List Frame} {meth : Method} {c : Code} {Q : State → Prop} {A : Nat → Prop} {G : zG_t} {L T E V M K : zS_t} (hfl : l.stackTraces = false) (hIT : zIT T) (hIE : zIE E) (hIM : zIM M) (F : zF p m c cL_refuses 9 s args wsL_refuses RL G.1 (zty G) A) (hsx : zSx s) (hao : zAOA s) (kk : zW p l e rmL_refuses s m args below meth c 36 216 Q G.1 A 9 (zWL G L T E V M K) [(0, .ref (G.2.2 0 0)), (1, .int (T 4 0)), (2, .int (E 5 0)), (3, .int (L 6 0)), (4, .int 2147483647), (5, .int 1), (6, .int (-2147483648)), (7, .int 1), (8, .int 13)] 384 []) : zW p l e rmL_refuses s m args below meth c 36 216 Q G.1 A 9 (zWL G L T E V M K) [(0, .ref (G.2.2 0 0)), (1, .int (T 4 0)), (2, .int (E 5 0)), (3, .int (L 6 0)), (4, .int 2147483647), (5, .int 1), (6, .int (-2147483648)), (7, .int 1), (8, .int 13)] 328 [] := by
  have k_max : Int32.toInt 2147483647 = 2147483647 := by decide
  have hmaxT : T 4 0 ≤ 2147483647 := Int32.le_iff_toInt_le.mpr (by rw [k_max]; have h9 := hIT.2; omega)
  have hmaxE : E 5 0 ≤ 2147483647 := Int32.le_iff_toInt_le.mpr (by rw [k_max]; have h9 := hIE.1.2; omega)
  refine zi_iload (pc := 328) F dL_refuses_328 8 rfl ?_
  refine zi_bipush (pc := 330) (v := 13) F dL_refuses_330 rfl ?_
  refine zi_icmp_ge (pc := 332) (tgt := 377) F dL_refuses_332 (by decide) (fun _ => ?_) (fun h => absurd h (by decide))
  refine zi_iload (pc := 377) F dL_refuses_377 7 rfl ?_
  refine zi_if_ne (pc := 379) (tgt := 384) F dL_refuses_379 (by decide) (fun _ => ?_) (fun h => absurd h (by decide))
  exact kk
set_option maxHeartbeats 4000000 in
set_option maxRecDepth 100000 in
theorem sg_rf_1_e {p : Program} {l : Launch} {e : Env} {s : State} {m : MethodId} {args : Array Value} {below : List Frame} {meth : Method} {c : Code} {Q : State → Prop} {A : Nat → Prop} {G : zG_t} {L T E V M K : zS_t} (hfl : l.stackTraces = false) (hIT : zIT T) (hIE : zIE E) (hIM : zIM M) (F : zF p m c cL_refuses 9 s args wsL_refuses RL G.1 (zty G) A) (hsx : zSx s) (hao : zAOA s) (kk : zW p l e rmL_refuses s m args below meth c 36 216 Q G.1 A 9 (zWL G L T E V M K) [(0, .ref (G.2.2 0 0)), (1, .int (T 4 0)), (2, .int (E 5 0)), (3, .int (L 6 0)), (4, .int 2147483647), (5, .int 2), (6, .int (-2147483648)), (7, .int 1), (8, .int 13)] 22 []) : zW p l e rmL_refuses s m args below meth c 36 216 Q G.1 A 9 (zWL G L T E V M K) [(0, .ref (G.2.2 0 0)), (1, .int (T 4 0)), (2, .int (E 5 0)), (3, .int (L 6 0)), (4, .int 2147483647), (5, .int 1), (6, .int (-2147483648)), (7, .int 1), (8, .int 13)] 384 [] := by
  have k_max : Int32.toInt 2147483647 = 2147483647 := by decide
  have hmaxT : T 4 0 ≤ 2147483647 := Int32.le_iff_toInt_le.mpr (by rw [k_max]; have h9 := hIT.2; omega)
  have hmaxE : E 5 0 ≤ 2147483647 := Int32.le_iff_toInt_le.mpr (by rw [k_max]; have h9 := hIE.1.2; omega)
  refine zi_iinc (pc := 384) (lv' := [(0, .ref (G.2.2 0 0)), (1, .int (T 4 0)), (2, .int (E 5 0)), (3, .int (L 6 0)), (4, .int 2147483647), (5, .int 2), (6, .int (-2147483648)), (7, .int 1), (8, .int 13)]) F dL_refuses_384 5 rfl (by decide) (by decide) rfl ?_
  refine zi_goto (pc := 387) (tgt := 22) F dL_refuses_387 (by decide) ?_
  exact kk
set_option maxHeartbeats 4000000 in
set_option maxRecDepth 100000 in
theorem sg_rf_2_b {p : Program} {l : Launch} {e : Env} {s : State} {m : MethodId} {args : Array Value} {below : List Frame} {meth : Method} {c : Code} {Q : State → Prop} {A : Nat → Prop} {G : zG_t} {L T E V M K : zS_t} (hfl : l.stackTraces = false) (hIT : zIT T) (hIE : zIE E) (hIM : zIM M) (F : zF p m c cL_refuses 9 s args wsL_refuses RL G.1 (zty G) A) (hsx : zSx s) (hao : zAOA s) (kk : zW p l e rmL_refuses s m args below meth c 43 258 Q G.1 A 9 (zWL G L T E V M K) [(0, .ref (G.2.2 0 0)), (1, .int (T 4 0)), (2, .int (E 5 0)), (3, .int (L 6 0)), (4, .int 2147483647), (5, .int 2), (6, .int 2147483647), (7, .int 1), (8, .int 5)] 240 []) : zW p l e rmL_refuses s m args below meth c 36 216 Q G.1 A 9 (zWL G L T E V M K) [(0, .ref (G.2.2 0 0)), (1, .int (T 4 0)), (2, .int (E 5 0)), (3, .int (L 6 0)), (4, .int 2147483647), (5, .int 2), (6, .int (-2147483648)), (7, .int 1), (8, .int 13)] 22 [] := by
  have k_max : Int32.toInt 2147483647 = 2147483647 := by decide
  have hmaxT : T 4 0 ≤ 2147483647 := Int32.le_iff_toInt_le.mpr (by rw [k_max]; have h9 := hIT.2; omega)
  have hmaxE : E 5 0 ≤ 2147483647 := Int32.le_iff_toInt_le.mpr (by rw [k_max]; have h9 := hIE.1.2; omega)
  refine zi_iload (pc := 22) F dL_refuses_22 5 rfl ?_
  refine zi_iconst (pc := 24) (v := 4) F dL_refuses_24 rfl ?_
  refine zi_icmp_ge (pc := 25) (tgt := 390) F dL_refuses_25 (by decide) (fun h => absurd h (by decide)) (fun _ => ?_)
  refine zi_iload (pc := 28) F dL_refuses_28 5 rfl ?_
  refine zi_if_ne (pc := 30) (tgt := 37) F dL_refuses_30 (by decide) (fun _ => ?_) (fun h => absurd h (by decide))
  refine zi_iload (pc := 37) F dL_refuses_37 5 rfl ?_
  refine zi_iconst (pc := 39) (v := 2) F dL_refuses_39 rfl ?_
  refine zi_icmp_ne (pc := 40) (tgt := 48) F dL_refuses_40 (by decide) (fun h => absurd h (by decide)) (fun _ => ?_)
  refine zi_iload (pc := 43) F dL_refuses_43 4 rfl ?_
  refine zi_goto (pc := 45) (tgt := 53) F dL_refuses_45 (by decide) ?_
  refine zi_istore (pc := 53) (lv' := [(0, .ref (G.2.2 0 0)), (1, .int (T 4 0)), (2, .int (E 5 0)), (3, .int (L 6 0)), (4, .int 2147483647), (5, .int 2), (6, .int 2147483647), (7, .int 1), (8, .int 13)]) F dL_refuses_53 (by decide) rfl ?_
  refine zi_aload_n (pc := 55) F dL_refuses_55 0 rfl ?_
  refine zi_iconst (pc := 56) (v := 0) F dL_refuses_56 rfl ?_
  refine zi_iload (pc := 57) F dL_refuses_57 5 rfl ?_
  refine zi_iconst (pc := 59) (v := 1) F dL_refuses_59 rfl ?_
  refine zi_icmp_ne (pc := 60) (tgt := 68) F dL_refuses_60 (by decide) (fun _ => ?_) (fun h => absurd h (by decide))
  refine zi_iload (pc := 68) F dL_refuses_68 6 rfl ?_
  refine zi_iconst (pc := 70) (v := 0) F dL_refuses_70 rfl ?_
  refine zi_callQH (pc := 71) (rest := []) F hsx hao (cr_0 l hfl G L T E V M K hIT hIE hIM 2147483647 0 (Or.inr (by decide))) (vx_cwSW 4 F.1.2.2.2.2 gL_refuses_L_act rfl rfl rfl hd_L_act ⟨Nat.le_of_ble_eq_true rfl, Nat.le_of_ble_eq_true rfl⟩) [] [] (zw_nil _) (zw_nil _).symm rfl rfl (Nat.le_of_ble_eq_true rfl) dL_refuses_71 ⟨Nat.le_of_ble_eq_true rfl, Nat.le_of_ble_eq_true rfl⟩ ?_
  show zW p l e rmL_refuses s m args below meth c 37 222 Q G.1 A 9 (zWL G L T E V M K) [(0, .ref (G.2.2 0 0)), (1, .int (T 4 0)), (2, .int (E 5 0)), (3, .int (L 6 0)), (4, .int 2147483647), (5, .int 2), (6, .int 2147483647), (7, .int 1), (8, .int 13)] 74 [.int (-71)]
  refine zi_bipush (pc := 74) (v := (-71)) F dL_refuses_74 rfl ?_
  refine zi_icmp_ne (pc := 76) (tgt := 234) F dL_refuses_76 (by decide) (fun h => absurd h (by decide)) (fun _ => ?_)
  refine zi_aload_n (pc := 79) F dL_refuses_79 0 rfl ?_
  refine zi_iconst (pc := 80) (v := 1) F dL_refuses_80 rfl ?_
  refine zi_iload (pc := 81) F dL_refuses_81 5 rfl ?_
  refine zi_iconst (pc := 83) (v := 1) F dL_refuses_83 rfl ?_
  refine zi_icmp_ne (pc := 84) (tgt := 92) F dL_refuses_84 (by decide) (fun _ => ?_) (fun h => absurd h (by decide))
  refine zi_iload (pc := 92) F dL_refuses_92 6 rfl ?_
  refine zi_iconst (pc := 94) (v := 0) F dL_refuses_94 rfl ?_
  refine zi_callQH (pc := 95) (rest := []) F hsx hao (cr_1 l hfl G L T E V M K hIT hIE hIM 2147483647 0 (Or.inr (by decide))) (vx_cwSW 4 F.1.2.2.2.2 gL_refuses_L_act rfl rfl rfl hd_L_act ⟨Nat.le_of_ble_eq_true rfl, Nat.le_of_ble_eq_true rfl⟩) [] [] (zw_nil _) (zw_nil _).symm rfl rfl (Nat.le_of_ble_eq_true rfl) dL_refuses_95 ⟨Nat.le_of_ble_eq_true rfl, Nat.le_of_ble_eq_true rfl⟩ ?_
  show zW p l e rmL_refuses s m args below meth c 38 228 Q G.1 A 9 (zWL G L T E V M K) [(0, .ref (G.2.2 0 0)), (1, .int (T 4 0)), (2, .int (E 5 0)), (3, .int (L 6 0)), (4, .int 2147483647), (5, .int 2), (6, .int 2147483647), (7, .int 1), (8, .int 13)] 98 [.int (-71)]
  refine zi_bipush (pc := 98) (v := (-71)) F dL_refuses_98 rfl ?_
  refine zi_icmp_ne (pc := 100) (tgt := 234) F dL_refuses_100 (by decide) (fun h => absurd h (by decide)) (fun _ => ?_)
  refine zi_aload_n (pc := 103) F dL_refuses_103 0 rfl ?_
  refine zi_iconst (pc := 104) (v := 2) F dL_refuses_104 rfl ?_
  refine zi_iload (pc := 105) F dL_refuses_105 5 rfl ?_
  refine zi_if_ne (pc := 107) (tgt := 114) F dL_refuses_107 (by decide) (fun _ => ?_) (fun h => absurd h (by decide))
  refine zi_iload (pc := 114) F dL_refuses_114 5 rfl ?_
  refine zi_iconst (pc := 116) (v := 1) F dL_refuses_116 rfl ?_
  refine zi_icmp_ne (pc := 117) (tgt := 125) F dL_refuses_117 (by decide) (fun _ => ?_) (fun h => absurd h (by decide))
  refine zi_iload (pc := 125) F dL_refuses_125 6 rfl ?_
  refine zi_iconst (pc := 127) (v := 0) F dL_refuses_127 rfl ?_
  refine zi_callQH (pc := 128) (rest := []) F hsx hao (cr_2 l hfl G L T E V M K hIT hIE hIM 2147483647 0 (Or.inr (by decide))) (vx_cwSW 4 F.1.2.2.2.2 gL_refuses_L_act rfl rfl rfl hd_L_act ⟨Nat.le_of_ble_eq_true rfl, Nat.le_of_ble_eq_true rfl⟩) [] [] (zw_nil _) (zw_nil _).symm rfl rfl (Nat.le_of_ble_eq_true rfl) dL_refuses_128 ⟨Nat.le_of_ble_eq_true rfl, Nat.le_of_ble_eq_true rfl⟩ ?_
  show zW p l e rmL_refuses s m args below meth c 39 234 Q G.1 A 9 (zWL G L T E V M K) [(0, .ref (G.2.2 0 0)), (1, .int (T 4 0)), (2, .int (E 5 0)), (3, .int (L 6 0)), (4, .int 2147483647), (5, .int 2), (6, .int 2147483647), (7, .int 1), (8, .int 13)] 131 [.int (-72)]
  refine zi_bipush (pc := 131) (v := (-72)) F dL_refuses_131 rfl ?_
  refine zi_icmp_ne (pc := 133) (tgt := 234) F dL_refuses_133 (by decide) (fun h => absurd h (by decide)) (fun _ => ?_)
  refine zi_aload_n (pc := 136) F dL_refuses_136 0 rfl ?_
  refine zi_iconst (pc := 137) (v := 3) F dL_refuses_137 rfl ?_
  refine zi_iload (pc := 138) F dL_refuses_138 5 rfl ?_
  refine zi_iconst (pc := 140) (v := 1) F dL_refuses_140 rfl ?_
  refine zi_icmp_ne (pc := 141) (tgt := 148) F dL_refuses_141 (by decide) (fun _ => ?_) (fun h => absurd h (by decide))
  refine zi_iload (pc := 148) F dL_refuses_148 6 rfl ?_
  refine zi_iconst (pc := 150) (v := 0) F dL_refuses_150 rfl ?_
  refine zi_callQH (pc := 151) (rest := []) F hsx hao (cr_3 l hfl G L T E V M K hIT hIE hIM 2147483647 0 (Or.inr (by decide))) (vx_cwSW 4 F.1.2.2.2.2 gL_refuses_L_act rfl rfl rfl hd_L_act ⟨Nat.le_of_ble_eq_true rfl, Nat.le_of_ble_eq_true rfl⟩) [] [] (zw_nil _) (zw_nil _).symm rfl rfl (Nat.le_of_ble_eq_true rfl) dL_refuses_151 ⟨Nat.le_of_ble_eq_true rfl, Nat.le_of_ble_eq_true rfl⟩ ?_
  show zW p l e rmL_refuses s m args below meth c 40 240 Q G.1 A 9 (zWL G L T E V M K) [(0, .ref (G.2.2 0 0)), (1, .int (T 4 0)), (2, .int (E 5 0)), (3, .int (L 6 0)), (4, .int 2147483647), (5, .int 2), (6, .int 2147483647), (7, .int 1), (8, .int 13)] 154 [.int (-71)]
  refine zi_bipush (pc := 154) (v := (-71)) F dL_refuses_154 rfl ?_
  refine zi_icmp_ne (pc := 156) (tgt := 234) F dL_refuses_156 (by decide) (fun h => absurd h (by decide)) (fun _ => ?_)
  refine zi_aload_n (pc := 159) F dL_refuses_159 0 rfl ?_
  refine zi_iconst (pc := 160) (v := 4) F dL_refuses_160 rfl ?_
  refine zi_iload (pc := 161) F dL_refuses_161 5 rfl ?_
  refine zi_iconst (pc := 163) (v := 1) F dL_refuses_163 rfl ?_
  refine zi_icmp_ne (pc := 164) (tgt := 171) F dL_refuses_164 (by decide) (fun _ => ?_) (fun h => absurd h (by decide))
  refine zi_iload (pc := 171) F dL_refuses_171 6 rfl ?_
  refine zi_iconst (pc := 173) (v := 0) F dL_refuses_173 rfl ?_
  refine zi_callQH (pc := 174) (rest := []) F hsx hao (cr_4 l hfl G L T E V M K hIT hIE hIM 2147483647 0 (Or.inr (by decide))) (vx_cwSW 4 F.1.2.2.2.2 gL_refuses_L_act rfl rfl rfl hd_L_act ⟨Nat.le_of_ble_eq_true rfl, Nat.le_of_ble_eq_true rfl⟩) [] [] (zw_nil _) (zw_nil _).symm rfl rfl (Nat.le_of_ble_eq_true rfl) dL_refuses_174 ⟨Nat.le_of_ble_eq_true rfl, Nat.le_of_ble_eq_true rfl⟩ ?_
  show zW p l e rmL_refuses s m args below meth c 41 246 Q G.1 A 9 (zWL G L T E V M K) [(0, .ref (G.2.2 0 0)), (1, .int (T 4 0)), (2, .int (E 5 0)), (3, .int (L 6 0)), (4, .int 2147483647), (5, .int 2), (6, .int 2147483647), (7, .int 1), (8, .int 13)] 177 [.int (-71)]
  refine zi_bipush (pc := 177) (v := (-71)) F dL_refuses_177 rfl ?_
  refine zi_icmp_ne (pc := 179) (tgt := 234) F dL_refuses_179 (by decide) (fun h => absurd h (by decide)) (fun _ => ?_)
  refine zi_aload_n (pc := 182) F dL_refuses_182 0 rfl ?_
  refine zi_iconst (pc := 183) (v := 0) F dL_refuses_183 rfl ?_
  refine zi_bipush (pc := 184) (v := 12) F dL_refuses_184 rfl ?_
  refine zi_iload (pc := 186) F dL_refuses_186 5 rfl ?_
  refine zi_iconst (pc := 188) (v := 1) F dL_refuses_188 rfl ?_
  refine zi_icmp_ne (pc := 189) (tgt := 196) F dL_refuses_189 (by decide) (fun _ => ?_) (fun h => absurd h (by decide))
  refine zi_iload (pc := 196) F dL_refuses_196 6 rfl ?_
  refine zi_callQH (pc := 198) (rest := []) F hsx hao (cr_0s l hfl G L T E V M K hIT hIE hIM 2147483647 (Or.inr hmaxT)) (vx_cwSW 4 F.1.2.2.2.2 gL_refuses_L_act rfl rfl rfl hd_L_act ⟨Nat.le_of_ble_eq_true rfl, Nat.le_of_ble_eq_true rfl⟩) [] [] (zw_nil _) (zw_nil _).symm rfl rfl (Nat.le_of_ble_eq_true rfl) dL_refuses_198 ⟨Nat.le_of_ble_eq_true rfl, Nat.le_of_ble_eq_true rfl⟩ ?_
  show zW p l e rmL_refuses s m args below meth c 42 252 Q G.1 A 9 (zWL G L T E V M K) [(0, .ref (G.2.2 0 0)), (1, .int (T 4 0)), (2, .int (E 5 0)), (3, .int (L 6 0)), (4, .int 2147483647), (5, .int 2), (6, .int 2147483647), (7, .int 1), (8, .int 13)] 201 [.int (-73)]
  refine zi_bipush (pc := 201) (v := (-73)) F dL_refuses_201 rfl ?_
  refine zi_icmp_ne (pc := 203) (tgt := 234) F dL_refuses_203 (by decide) (fun h => absurd h (by decide)) (fun _ => ?_)
  refine zi_aload_n (pc := 206) F dL_refuses_206 0 rfl ?_
  refine zi_iconst (pc := 207) (v := 0) F dL_refuses_207 rfl ?_
  refine zi_bipush (pc := 208) (v := 13) F dL_refuses_208 rfl ?_
  refine zi_iload (pc := 210) F dL_refuses_210 5 rfl ?_
  refine zi_iconst (pc := 212) (v := 1) F dL_refuses_212 rfl ?_
  refine zi_icmp_ne (pc := 213) (tgt := 220) F dL_refuses_213 (by decide) (fun _ => ?_) (fun h => absurd h (by decide))
  refine zi_iload (pc := 220) F dL_refuses_220 6 rfl ?_
  refine zi_callQH (pc := 222) (rest := []) F hsx hao (cr_0d l hfl G L T E V M K hIT hIE hIM 2147483647 (Or.inr hmaxE)) (vx_cwSW 4 F.1.2.2.2.2 gL_refuses_L_act rfl rfl rfl hd_L_act ⟨Nat.le_of_ble_eq_true rfl, Nat.le_of_ble_eq_true rfl⟩) [] [] (zw_nil _) (zw_nil _).symm rfl rfl (Nat.le_of_ble_eq_true rfl) dL_refuses_222 ⟨Nat.le_of_ble_eq_true rfl, Nat.le_of_ble_eq_true rfl⟩ ?_
  show zW p l e rmL_refuses s m args below meth c 43 258 Q G.1 A 9 (zWL G L T E V M K) [(0, .ref (G.2.2 0 0)), (1, .int (T 4 0)), (2, .int (E 5 0)), (3, .int (L 6 0)), (4, .int 2147483647), (5, .int 2), (6, .int 2147483647), (7, .int 1), (8, .int 13)] 225 [.int (-73)]
  refine zi_bipush (pc := 225) (v := (-73)) F dL_refuses_225 rfl ?_
  refine zi_icmp_ne (pc := 227) (tgt := 234) F dL_refuses_227 (by decide) (fun h => absurd h (by decide)) (fun _ => ?_)
  refine zi_iconst (pc := 230) (v := 1) F dL_refuses_230 rfl ?_
  refine zi_goto (pc := 231) (tgt := 235) F dL_refuses_231 (by decide) ?_
  refine zi_istore (pc := 235) (lv' := [(0, .ref (G.2.2 0 0)), (1, .int (T 4 0)), (2, .int (E 5 0)), (3, .int (L 6 0)), (4, .int 2147483647), (5, .int 2), (6, .int 2147483647), (7, .int 1), (8, .int 13)]) F dL_refuses_235 (by decide) rfl ?_
  refine zi_iconst (pc := 237) (v := 5) F dL_refuses_237 rfl ?_
  refine zi_istore (pc := 238) (lv' := [(0, .ref (G.2.2 0 0)), (1, .int (T 4 0)), (2, .int (E 5 0)), (3, .int (L 6 0)), (4, .int 2147483647), (5, .int 2), (6, .int 2147483647), (7, .int 1), (8, .int 5)]) F dL_refuses_238 (by decide) rfl ?_
  exact kk
set_option maxHeartbeats 4000000 in
set_option maxRecDepth 100000 in
theorem sg_rf_2_w5 {p : Program} {l : Launch} {e : Env} {s : State} {m : MethodId} {args : Array Value} {below : List Frame} {meth : Method} {c : Code} {Q : State → Prop} {A : Nat → Prop} {G : zG_t} {L T E V M K : zS_t} (hfl : l.stackTraces = false) (hIT : zIT T) (hIE : zIE E) (hIM : zIM M) (F : zF p m c cL_refuses 9 s args wsL_refuses RL G.1 (zty G) A) (hsx : zSx s) (hao : zAOA s) (kk : zW p l e rmL_refuses s m args below meth c 44 264 Q G.1 A 9 (zWL G L T E V M K) [(0, .ref (G.2.2 0 0)), (1, .int (T 4 0)), (2, .int (E 5 0)), (3, .int (L 6 0)), (4, .int 2147483647), (5, .int 2), (6, .int 2147483647), (7, .int 1), (8, .int 5)] 318 []) : zW p l e rmL_refuses s m args below meth c 43 258 Q G.1 A 9 (zWL G L T E V M K) [(0, .ref (G.2.2 0 0)), (1, .int (T 4 0)), (2, .int (E 5 0)), (3, .int (L 6 0)), (4, .int 2147483647), (5, .int 2), (6, .int 2147483647), (7, .int 1), (8, .int 5)] 240 [] := by
  have k_max : Int32.toInt 2147483647 = 2147483647 := by decide
  have hmaxT : T 4 0 ≤ 2147483647 := Int32.le_iff_toInt_le.mpr (by rw [k_max]; have h9 := hIT.2; omega)
  have hmaxE : E 5 0 ≤ 2147483647 := Int32.le_iff_toInt_le.mpr (by rw [k_max]; have h9 := hIE.1.2; omega)
  refine zi_iload (pc := 240) F dL_refuses_240 8 rfl ?_
  refine zi_bipush (pc := 242) (v := 9) F dL_refuses_242 rfl ?_
  refine zi_icmp_ge (pc := 244) (tgt := 324) F dL_refuses_244 (by decide) (fun h => absurd h (by decide)) (fun _ => ?_)
  refine zi_iload (pc := 247) F dL_refuses_247 7 rfl ?_
  refine zi_if_eq (pc := 249) (tgt := 315) F dL_refuses_249 (by decide) (fun h => absurd h (by decide)) (fun _ => ?_)
  refine zi_aload_n (pc := 252) F dL_refuses_252 0 rfl ?_
  refine zi_iload (pc := 253) F dL_refuses_253 8 rfl ?_
  refine zi_iload (pc := 255) F dL_refuses_255 5 rfl ?_
  refine zi_iconst (pc := 257) (v := 1) F dL_refuses_257 rfl ?_
  refine zi_icmp_ne (pc := 258) (tgt := 265) F dL_refuses_258 (by decide) (fun _ => ?_) (fun h => absurd h (by decide))
  refine zi_iload (pc := 265) F dL_refuses_265 6 rfl ?_
  refine zi_iconst (pc := 267) (v := (-1)) F dL_refuses_267 rfl ?_
  refine zi_callQH (pc := 268) (rest := []) F hsx hao (cr_5 l hfl G L T E V M K hIT hIE hIM 2147483647 (-1) (Or.inr hmaxT)) (vx_cwSW 4 F.1.2.2.2.2 gL_refuses_L_act rfl rfl rfl hd_L_act ⟨Nat.le_of_ble_eq_true rfl, Nat.le_of_ble_eq_true rfl⟩) [] [] (zw_nil _) (zw_nil _).symm rfl rfl (Nat.le_of_ble_eq_true rfl) dL_refuses_268 ⟨Nat.le_of_ble_eq_true rfl, Nat.le_of_ble_eq_true rfl⟩ ?_
  show zW p l e rmL_refuses s m args below meth c 44 264 Q G.1 A 9 (zWL G L T E V M K) [(0, .ref (G.2.2 0 0)), (1, .int (T 4 0)), (2, .int (E 5 0)), (3, .int (L 6 0)), (4, .int 2147483647), (5, .int 2), (6, .int 2147483647), (7, .int 1), (8, .int 5)] 271 [.int (-71)]
  refine zi_bipush (pc := 271) (v := (-71)) F dL_refuses_271 rfl ?_
  refine zi_icmp_ne (pc := 273) (tgt := 315) F dL_refuses_273 (by decide) (fun h => absurd h (by decide)) (fun _ => ?_)
  refine zi_iload (pc := 276) F dL_refuses_276 8 rfl ?_
  refine zi_iconst (pc := 278) (v := 5) F dL_refuses_278 rfl ?_
  refine zi_icmp_eq (pc := 279) (tgt := 311) F dL_refuses_279 (by decide) (fun _ => ?_) (fun h => absurd h (by decide))
  refine zi_iconst (pc := 311) (v := 1) F dL_refuses_311 rfl ?_
  refine zi_goto (pc := 312) (tgt := 316) F dL_refuses_312 (by decide) ?_
  refine zi_istore (pc := 316) (lv' := [(0, .ref (G.2.2 0 0)), (1, .int (T 4 0)), (2, .int (E 5 0)), (3, .int (L 6 0)), (4, .int 2147483647), (5, .int 2), (6, .int 2147483647), (7, .int 1), (8, .int 5)]) F dL_refuses_316 (by decide) rfl ?_
  exact kk
set_option maxHeartbeats 4000000 in
set_option maxRecDepth 100000 in
theorem sg_rf_2_w5i {p : Program} {l : Launch} {e : Env} {s : State} {m : MethodId} {args : Array Value} {below : List Frame} {meth : Method} {c : Code} {Q : State → Prop} {A : Nat → Prop} {G : zG_t} {L T E V M K : zS_t} (hfl : l.stackTraces = false) (hIT : zIT T) (hIE : zIE E) (hIM : zIM M) (F : zF p m c cL_refuses 9 s args wsL_refuses RL G.1 (zty G) A) (hsx : zSx s) (hao : zAOA s) (kk : zW p l e rmL_refuses s m args below meth c 44 264 Q G.1 A 9 (zWL G L T E V M K) [(0, .ref (G.2.2 0 0)), (1, .int (T 4 0)), (2, .int (E 5 0)), (3, .int (L 6 0)), (4, .int 2147483647), (5, .int 2), (6, .int 2147483647), (7, .int 1), (8, .int 6)] 240 []) : zW p l e rmL_refuses s m args below meth c 44 264 Q G.1 A 9 (zWL G L T E V M K) [(0, .ref (G.2.2 0 0)), (1, .int (T 4 0)), (2, .int (E 5 0)), (3, .int (L 6 0)), (4, .int 2147483647), (5, .int 2), (6, .int 2147483647), (7, .int 1), (8, .int 5)] 318 [] := by
  have k_max : Int32.toInt 2147483647 = 2147483647 := by decide
  have hmaxT : T 4 0 ≤ 2147483647 := Int32.le_iff_toInt_le.mpr (by rw [k_max]; have h9 := hIT.2; omega)
  have hmaxE : E 5 0 ≤ 2147483647 := Int32.le_iff_toInt_le.mpr (by rw [k_max]; have h9 := hIE.1.2; omega)
  refine zi_iinc (pc := 318) (lv' := [(0, .ref (G.2.2 0 0)), (1, .int (T 4 0)), (2, .int (E 5 0)), (3, .int (L 6 0)), (4, .int 2147483647), (5, .int 2), (6, .int 2147483647), (7, .int 1), (8, .int 6)]) F dL_refuses_318 8 rfl (by decide) (by decide) rfl ?_
  refine zi_goto (pc := 321) (tgt := 240) F dL_refuses_321 (by decide) ?_
  exact kk
set_option maxHeartbeats 4000000 in
set_option maxRecDepth 100000 in
theorem sg_rf_2_w6 {p : Program} {l : Launch} {e : Env} {s : State} {m : MethodId} {args : Array Value} {below : List Frame} {meth : Method} {c : Code} {Q : State → Prop} {A : Nat → Prop} {G : zG_t} {L T E V M K : zS_t} (hfl : l.stackTraces = false) (hIT : zIT T) (hIE : zIE E) (hIM : zIM M) (F : zF p m c cL_refuses 9 s args wsL_refuses RL G.1 (zty G) A) (hsx : zSx s) (hao : zAOA s) (kk : zW p l e rmL_refuses s m args below meth c 46 276 Q G.1 A 9 (zWL G L T E V M K) [(0, .ref (G.2.2 0 0)), (1, .int (T 4 0)), (2, .int (E 5 0)), (3, .int (L 6 0)), (4, .int 2147483647), (5, .int 2), (6, .int 2147483647), (7, .int 1), (8, .int 6)] 318 []) : zW p l e rmL_refuses s m args below meth c 44 264 Q G.1 A 9 (zWL G L T E V M K) [(0, .ref (G.2.2 0 0)), (1, .int (T 4 0)), (2, .int (E 5 0)), (3, .int (L 6 0)), (4, .int 2147483647), (5, .int 2), (6, .int 2147483647), (7, .int 1), (8, .int 6)] 240 [] := by
  have k_max : Int32.toInt 2147483647 = 2147483647 := by decide
  have hmaxT : T 4 0 ≤ 2147483647 := Int32.le_iff_toInt_le.mpr (by rw [k_max]; have h9 := hIT.2; omega)
  have hmaxE : E 5 0 ≤ 2147483647 := Int32.le_iff_toInt_le.mpr (by rw [k_max]; have h9 := hIE.1.2; omega)
  refine zi_iload (pc := 240) F dL_refuses_240 8 rfl ?_
  refine zi_bipush (pc := 242) (v := 9) F dL_refuses_242 rfl ?_
  refine zi_icmp_ge (pc := 244) (tgt := 324) F dL_refuses_244 (by decide) (fun h => absurd h (by decide)) (fun _ => ?_)
  refine zi_iload (pc := 247) F dL_refuses_247 7 rfl ?_
  refine zi_if_eq (pc := 249) (tgt := 315) F dL_refuses_249 (by decide) (fun h => absurd h (by decide)) (fun _ => ?_)
  refine zi_aload_n (pc := 252) F dL_refuses_252 0 rfl ?_
  refine zi_iload (pc := 253) F dL_refuses_253 8 rfl ?_
  refine zi_iload (pc := 255) F dL_refuses_255 5 rfl ?_
  refine zi_iconst (pc := 257) (v := 1) F dL_refuses_257 rfl ?_
  refine zi_icmp_ne (pc := 258) (tgt := 265) F dL_refuses_258 (by decide) (fun _ => ?_) (fun h => absurd h (by decide))
  refine zi_iload (pc := 265) F dL_refuses_265 6 rfl ?_
  refine zi_iconst (pc := 267) (v := (-1)) F dL_refuses_267 rfl ?_
  refine zi_callQH (pc := 268) (rest := []) F hsx hao (cr_6 l hfl G L T E V M K hIT hIE hIM 2147483647 (-1) (Or.inr hmaxT)) (vx_cwSW 4 F.1.2.2.2.2 gL_refuses_L_act rfl rfl rfl hd_L_act ⟨Nat.le_of_ble_eq_true rfl, Nat.le_of_ble_eq_true rfl⟩) [] [] (zw_nil _) (zw_nil _).symm rfl rfl (Nat.le_of_ble_eq_true rfl) dL_refuses_268 ⟨Nat.le_of_ble_eq_true rfl, Nat.le_of_ble_eq_true rfl⟩ ?_
  show zW p l e rmL_refuses s m args below meth c 45 270 Q G.1 A 9 (zWL G L T E V M K) [(0, .ref (G.2.2 0 0)), (1, .int (T 4 0)), (2, .int (E 5 0)), (3, .int (L 6 0)), (4, .int 2147483647), (5, .int 2), (6, .int 2147483647), (7, .int 1), (8, .int 6)] 271 [.int (-71)]
  refine zi_bipush (pc := 271) (v := (-71)) F dL_refuses_271 rfl ?_
  refine zi_icmp_ne (pc := 273) (tgt := 315) F dL_refuses_273 (by decide) (fun h => absurd h (by decide)) (fun _ => ?_)
  refine zi_iload (pc := 276) F dL_refuses_276 8 rfl ?_
  refine zi_iconst (pc := 278) (v := 5) F dL_refuses_278 rfl ?_
  refine zi_icmp_eq (pc := 279) (tgt := 311) F dL_refuses_279 (by decide) (fun h => absurd h (by decide)) (fun _ => ?_)
  refine zi_iload_n (pc := 282) F dL_refuses_282 1 rfl ?_
  refine zi_if_eq (pc := 283) (tgt := 311) F dL_refuses_283 (by decide) (fun _ => ?_) (fun h0 => ?_)
  · skip
    refine zi_iconst (pc := 311) (v := 1) F dL_refuses_311 rfl ?_
    refine zi_goto (pc := 312) (tgt := 316) F dL_refuses_312 (by decide) ?_
    refine zi_istore (pc := 316) (lv' := [(0, .ref (G.2.2 0 0)), (1, .int (T 4 0)), (2, .int (E 5 0)), (3, .int (L 6 0)), (4, .int 2147483647), (5, .int 2), (6, .int 2147483647), (7, .int 1), (8, .int 6)]) F dL_refuses_316 (by decide) rfl ?_
    refine zi_widen (Nat.le_of_ble_eq_true rfl) (Nat.le_of_ble_eq_true rfl) kk
  · have h0 : ¬ T 4 0 ≤ 0 := fun h9 => by
      have t1 := zt_le h9
      have t2 := zt_ne h0
      have k_0 : Int32.toInt 0 = 0 := by decide
      obtain ⟨i1, i2⟩ := hIT
      omega
    refine zi_aload_n (pc := 286) F dL_refuses_286 0 rfl ?_
    refine zi_iload (pc := 287) F dL_refuses_287 8 rfl ?_
    refine zi_iconst (pc := 289) (v := 0) F dL_refuses_289 rfl ?_
    refine zi_iload (pc := 290) F dL_refuses_290 5 rfl ?_
    refine zi_iconst (pc := 292) (v := 1) F dL_refuses_292 rfl ?_
    refine zi_icmp_ne (pc := 293) (tgt := 301) F dL_refuses_293 (by decide) (fun _ => ?_) (fun h => absurd h (by decide))
    refine zi_iload (pc := 301) F dL_refuses_301 6 rfl ?_
    refine zi_callQH (pc := 303) (rest := []) F hsx hao (cr_6l l hfl G L T E V M K hIT hIE hIM 2147483647 h0 (Or.inr (by decide))) (vx_cwSW 4 F.1.2.2.2.2 gL_refuses_L_act rfl rfl rfl hd_L_act ⟨Nat.le_of_ble_eq_true rfl, Nat.le_of_ble_eq_true rfl⟩) [] [] (zw_nil _) (zw_nil _).symm rfl rfl (Nat.le_of_ble_eq_true rfl) dL_refuses_303 ⟨Nat.le_of_ble_eq_true rfl, Nat.le_of_ble_eq_true rfl⟩ ?_
    show zW p l e rmL_refuses s m args below meth c 46 276 Q G.1 A 9 (zWL G L T E V M K) [(0, .ref (G.2.2 0 0)), (1, .int (T 4 0)), (2, .int (E 5 0)), (3, .int (L 6 0)), (4, .int 2147483647), (5, .int 2), (6, .int 2147483647), (7, .int 1), (8, .int 6)] 306 [.int (-72)]
    refine zi_bipush (pc := 306) (v := (-72)) F dL_refuses_306 rfl ?_
    refine zi_icmp_ne (pc := 308) (tgt := 315) F dL_refuses_308 (by decide) (fun h => absurd h (by decide)) (fun _ => ?_)
    refine zi_iconst (pc := 311) (v := 1) F dL_refuses_311 rfl ?_
    refine zi_goto (pc := 312) (tgt := 316) F dL_refuses_312 (by decide) ?_
    refine zi_istore (pc := 316) (lv' := [(0, .ref (G.2.2 0 0)), (1, .int (T 4 0)), (2, .int (E 5 0)), (3, .int (L 6 0)), (4, .int 2147483647), (5, .int 2), (6, .int 2147483647), (7, .int 1), (8, .int 6)]) F dL_refuses_316 (by decide) rfl ?_
    exact kk
set_option maxHeartbeats 4000000 in
set_option maxRecDepth 100000 in
theorem sg_rf_2_w6i {p : Program} {l : Launch} {e : Env} {s : State} {m : MethodId} {args : Array Value} {below : List Frame} {meth : Method} {c : Code} {Q : State → Prop} {A : Nat → Prop} {G : zG_t} {L T E V M K : zS_t} (hfl : l.stackTraces = false) (hIT : zIT T) (hIE : zIE E) (hIM : zIM M) (F : zF p m c cL_refuses 9 s args wsL_refuses RL G.1 (zty G) A) (hsx : zSx s) (hao : zAOA s) (kk : zW p l e rmL_refuses s m args below meth c 46 276 Q G.1 A 9 (zWL G L T E V M K) [(0, .ref (G.2.2 0 0)), (1, .int (T 4 0)), (2, .int (E 5 0)), (3, .int (L 6 0)), (4, .int 2147483647), (5, .int 2), (6, .int 2147483647), (7, .int 1), (8, .int 7)] 240 []) : zW p l e rmL_refuses s m args below meth c 46 276 Q G.1 A 9 (zWL G L T E V M K) [(0, .ref (G.2.2 0 0)), (1, .int (T 4 0)), (2, .int (E 5 0)), (3, .int (L 6 0)), (4, .int 2147483647), (5, .int 2), (6, .int 2147483647), (7, .int 1), (8, .int 6)] 318 [] := by
  have k_max : Int32.toInt 2147483647 = 2147483647 := by decide
  have hmaxT : T 4 0 ≤ 2147483647 := Int32.le_iff_toInt_le.mpr (by rw [k_max]; have h9 := hIT.2; omega)
  have hmaxE : E 5 0 ≤ 2147483647 := Int32.le_iff_toInt_le.mpr (by rw [k_max]; have h9 := hIE.1.2; omega)
  refine zi_iinc (pc := 318) (lv' := [(0, .ref (G.2.2 0 0)), (1, .int (T 4 0)), (2, .int (E 5 0)), (3, .int (L 6 0)), (4, .int 2147483647), (5, .int 2), (6, .int 2147483647), (7, .int 1), (8, .int 7)]) F dL_refuses_318 8 rfl (by decide) (by decide) rfl ?_
  refine zi_goto (pc := 321) (tgt := 240) F dL_refuses_321 (by decide) ?_
  exact kk
set_option maxHeartbeats 4000000 in
set_option maxRecDepth 100000 in
theorem sg_rf_2_w7 {p : Program} {l : Launch} {e : Env} {s : State} {m : MethodId} {args : Array Value} {below : List Frame} {meth : Method} {c : Code} {Q : State → Prop} {A : Nat → Prop} {G : zG_t} {L T E V M K : zS_t} (hfl : l.stackTraces = false) (hIT : zIT T) (hIE : zIE E) (hIM : zIM M) (F : zF p m c cL_refuses 9 s args wsL_refuses RL G.1 (zty G) A) (hsx : zSx s) (hao : zAOA s) (kk : zW p l e rmL_refuses s m args below meth c 48 288 Q G.1 A 9 (zWL G L T E V M K) [(0, .ref (G.2.2 0 0)), (1, .int (T 4 0)), (2, .int (E 5 0)), (3, .int (L 6 0)), (4, .int 2147483647), (5, .int 2), (6, .int 2147483647), (7, .int 1), (8, .int 7)] 318 []) : zW p l e rmL_refuses s m args below meth c 46 276 Q G.1 A 9 (zWL G L T E V M K) [(0, .ref (G.2.2 0 0)), (1, .int (T 4 0)), (2, .int (E 5 0)), (3, .int (L 6 0)), (4, .int 2147483647), (5, .int 2), (6, .int 2147483647), (7, .int 1), (8, .int 7)] 240 [] := by
  have k_max : Int32.toInt 2147483647 = 2147483647 := by decide
  have hmaxT : T 4 0 ≤ 2147483647 := Int32.le_iff_toInt_le.mpr (by rw [k_max]; have h9 := hIT.2; omega)
  have hmaxE : E 5 0 ≤ 2147483647 := Int32.le_iff_toInt_le.mpr (by rw [k_max]; have h9 := hIE.1.2; omega)
  refine zi_iload (pc := 240) F dL_refuses_240 8 rfl ?_
  refine zi_bipush (pc := 242) (v := 9) F dL_refuses_242 rfl ?_
  refine zi_icmp_ge (pc := 244) (tgt := 324) F dL_refuses_244 (by decide) (fun h => absurd h (by decide)) (fun _ => ?_)
  refine zi_iload (pc := 247) F dL_refuses_247 7 rfl ?_
  refine zi_if_eq (pc := 249) (tgt := 315) F dL_refuses_249 (by decide) (fun h => absurd h (by decide)) (fun _ => ?_)
  refine zi_aload_n (pc := 252) F dL_refuses_252 0 rfl ?_
  refine zi_iload (pc := 253) F dL_refuses_253 8 rfl ?_
  refine zi_iload (pc := 255) F dL_refuses_255 5 rfl ?_
  refine zi_iconst (pc := 257) (v := 1) F dL_refuses_257 rfl ?_
  refine zi_icmp_ne (pc := 258) (tgt := 265) F dL_refuses_258 (by decide) (fun _ => ?_) (fun h => absurd h (by decide))
  refine zi_iload (pc := 265) F dL_refuses_265 6 rfl ?_
  refine zi_iconst (pc := 267) (v := (-1)) F dL_refuses_267 rfl ?_
  refine zi_callQH (pc := 268) (rest := []) F hsx hao (cr_7 l hfl G L T E V M K hIT hIE hIM 2147483647 (-1) (Or.inr hmaxT)) (vx_cwSW 4 F.1.2.2.2.2 gL_refuses_L_act rfl rfl rfl hd_L_act ⟨Nat.le_of_ble_eq_true rfl, Nat.le_of_ble_eq_true rfl⟩) [] [] (zw_nil _) (zw_nil _).symm rfl rfl (Nat.le_of_ble_eq_true rfl) dL_refuses_268 ⟨Nat.le_of_ble_eq_true rfl, Nat.le_of_ble_eq_true rfl⟩ ?_
  show zW p l e rmL_refuses s m args below meth c 47 282 Q G.1 A 9 (zWL G L T E V M K) [(0, .ref (G.2.2 0 0)), (1, .int (T 4 0)), (2, .int (E 5 0)), (3, .int (L 6 0)), (4, .int 2147483647), (5, .int 2), (6, .int 2147483647), (7, .int 1), (8, .int 7)] 271 [.int (-71)]
  refine zi_bipush (pc := 271) (v := (-71)) F dL_refuses_271 rfl ?_
  refine zi_icmp_ne (pc := 273) (tgt := 315) F dL_refuses_273 (by decide) (fun h => absurd h (by decide)) (fun _ => ?_)
  refine zi_iload (pc := 276) F dL_refuses_276 8 rfl ?_
  refine zi_iconst (pc := 278) (v := 5) F dL_refuses_278 rfl ?_
  refine zi_icmp_eq (pc := 279) (tgt := 311) F dL_refuses_279 (by decide) (fun h => absurd h (by decide)) (fun _ => ?_)
  refine zi_iload_n (pc := 282) F dL_refuses_282 1 rfl ?_
  refine zi_if_eq (pc := 283) (tgt := 311) F dL_refuses_283 (by decide) (fun _ => ?_) (fun h0 => ?_)
  · skip
    refine zi_iconst (pc := 311) (v := 1) F dL_refuses_311 rfl ?_
    refine zi_goto (pc := 312) (tgt := 316) F dL_refuses_312 (by decide) ?_
    refine zi_istore (pc := 316) (lv' := [(0, .ref (G.2.2 0 0)), (1, .int (T 4 0)), (2, .int (E 5 0)), (3, .int (L 6 0)), (4, .int 2147483647), (5, .int 2), (6, .int 2147483647), (7, .int 1), (8, .int 7)]) F dL_refuses_316 (by decide) rfl ?_
    refine zi_widen (Nat.le_of_ble_eq_true rfl) (Nat.le_of_ble_eq_true rfl) kk
  · have h0 : ¬ T 4 0 ≤ 0 := fun h9 => by
      have t1 := zt_le h9
      have t2 := zt_ne h0
      have k_0 : Int32.toInt 0 = 0 := by decide
      obtain ⟨i1, i2⟩ := hIT
      omega
    refine zi_aload_n (pc := 286) F dL_refuses_286 0 rfl ?_
    refine zi_iload (pc := 287) F dL_refuses_287 8 rfl ?_
    refine zi_iconst (pc := 289) (v := 0) F dL_refuses_289 rfl ?_
    refine zi_iload (pc := 290) F dL_refuses_290 5 rfl ?_
    refine zi_iconst (pc := 292) (v := 1) F dL_refuses_292 rfl ?_
    refine zi_icmp_ne (pc := 293) (tgt := 301) F dL_refuses_293 (by decide) (fun _ => ?_) (fun h => absurd h (by decide))
    refine zi_iload (pc := 301) F dL_refuses_301 6 rfl ?_
    refine zi_callQH (pc := 303) (rest := []) F hsx hao (cr_7l l hfl G L T E V M K hIT hIE hIM 2147483647 h0 (Or.inr (by decide))) (vx_cwSW 4 F.1.2.2.2.2 gL_refuses_L_act rfl rfl rfl hd_L_act ⟨Nat.le_of_ble_eq_true rfl, Nat.le_of_ble_eq_true rfl⟩) [] [] (zw_nil _) (zw_nil _).symm rfl rfl (Nat.le_of_ble_eq_true rfl) dL_refuses_303 ⟨Nat.le_of_ble_eq_true rfl, Nat.le_of_ble_eq_true rfl⟩ ?_
    show zW p l e rmL_refuses s m args below meth c 48 288 Q G.1 A 9 (zWL G L T E V M K) [(0, .ref (G.2.2 0 0)), (1, .int (T 4 0)), (2, .int (E 5 0)), (3, .int (L 6 0)), (4, .int 2147483647), (5, .int 2), (6, .int 2147483647), (7, .int 1), (8, .int 7)] 306 [.int (-72)]
    refine zi_bipush (pc := 306) (v := (-72)) F dL_refuses_306 rfl ?_
    refine zi_icmp_ne (pc := 308) (tgt := 315) F dL_refuses_308 (by decide) (fun h => absurd h (by decide)) (fun _ => ?_)
    refine zi_iconst (pc := 311) (v := 1) F dL_refuses_311 rfl ?_
    refine zi_goto (pc := 312) (tgt := 316) F dL_refuses_312 (by decide) ?_
    refine zi_istore (pc := 316) (lv' := [(0, .ref (G.2.2 0 0)), (1, .int (T 4 0)), (2, .int (E 5 0)), (3, .int (L 6 0)), (4, .int 2147483647), (5, .int 2), (6, .int 2147483647), (7, .int 1), (8, .int 7)]) F dL_refuses_316 (by decide) rfl ?_
    exact kk
set_option maxHeartbeats 4000000 in
set_option maxRecDepth 100000 in
theorem sg_rf_2_w7i {p : Program} {l : Launch} {e : Env} {s : State} {m : MethodId} {args : Array Value} {below : List Frame} {meth : Method} {c : Code} {Q : State → Prop} {A : Nat → Prop} {G : zG_t} {L T E V M K : zS_t} (hfl : l.stackTraces = false) (hIT : zIT T) (hIE : zIE E) (hIM : zIM M) (F : zF p m c cL_refuses 9 s args wsL_refuses RL G.1 (zty G) A) (hsx : zSx s) (hao : zAOA s) (kk : zW p l e rmL_refuses s m args below meth c 48 288 Q G.1 A 9 (zWL G L T E V M K) [(0, .ref (G.2.2 0 0)), (1, .int (T 4 0)), (2, .int (E 5 0)), (3, .int (L 6 0)), (4, .int 2147483647), (5, .int 2), (6, .int 2147483647), (7, .int 1), (8, .int 8)] 240 []) : zW p l e rmL_refuses s m args below meth c 48 288 Q G.1 A 9 (zWL G L T E V M K) [(0, .ref (G.2.2 0 0)), (1, .int (T 4 0)), (2, .int (E 5 0)), (3, .int (L 6 0)), (4, .int 2147483647), (5, .int 2), (6, .int 2147483647), (7, .int 1), (8, .int 7)] 318 [] := by
  have k_max : Int32.toInt 2147483647 = 2147483647 := by decide
  have hmaxT : T 4 0 ≤ 2147483647 := Int32.le_iff_toInt_le.mpr (by rw [k_max]; have h9 := hIT.2; omega)
  have hmaxE : E 5 0 ≤ 2147483647 := Int32.le_iff_toInt_le.mpr (by rw [k_max]; have h9 := hIE.1.2; omega)
  refine zi_iinc (pc := 318) (lv' := [(0, .ref (G.2.2 0 0)), (1, .int (T 4 0)), (2, .int (E 5 0)), (3, .int (L 6 0)), (4, .int 2147483647), (5, .int 2), (6, .int 2147483647), (7, .int 1), (8, .int 8)]) F dL_refuses_318 8 rfl (by decide) (by decide) rfl ?_
  refine zi_goto (pc := 321) (tgt := 240) F dL_refuses_321 (by decide) ?_
  exact kk
set_option maxHeartbeats 4000000 in
set_option maxRecDepth 100000 in
theorem sg_rf_2_w8 {p : Program} {l : Launch} {e : Env} {s : State} {m : MethodId} {args : Array Value} {below : List Frame} {meth : Method} {c : Code} {Q : State → Prop} {A : Nat → Prop} {G : zG_t} {L T E V M K : zS_t} (hfl : l.stackTraces = false) (hIT : zIT T) (hIE : zIE E) (hIM : zIM M) (F : zF p m c cL_refuses 9 s args wsL_refuses RL G.1 (zty G) A) (hsx : zSx s) (hao : zAOA s) (kk : zW p l e rmL_refuses s m args below meth c 50 300 Q G.1 A 9 (zWL G L T E V M K) [(0, .ref (G.2.2 0 0)), (1, .int (T 4 0)), (2, .int (E 5 0)), (3, .int (L 6 0)), (4, .int 2147483647), (5, .int 2), (6, .int 2147483647), (7, .int 1), (8, .int 8)] 318 []) : zW p l e rmL_refuses s m args below meth c 48 288 Q G.1 A 9 (zWL G L T E V M K) [(0, .ref (G.2.2 0 0)), (1, .int (T 4 0)), (2, .int (E 5 0)), (3, .int (L 6 0)), (4, .int 2147483647), (5, .int 2), (6, .int 2147483647), (7, .int 1), (8, .int 8)] 240 [] := by
  have k_max : Int32.toInt 2147483647 = 2147483647 := by decide
  have hmaxT : T 4 0 ≤ 2147483647 := Int32.le_iff_toInt_le.mpr (by rw [k_max]; have h9 := hIT.2; omega)
  have hmaxE : E 5 0 ≤ 2147483647 := Int32.le_iff_toInt_le.mpr (by rw [k_max]; have h9 := hIE.1.2; omega)
  refine zi_iload (pc := 240) F dL_refuses_240 8 rfl ?_
  refine zi_bipush (pc := 242) (v := 9) F dL_refuses_242 rfl ?_
  refine zi_icmp_ge (pc := 244) (tgt := 324) F dL_refuses_244 (by decide) (fun h => absurd h (by decide)) (fun _ => ?_)
  refine zi_iload (pc := 247) F dL_refuses_247 7 rfl ?_
  refine zi_if_eq (pc := 249) (tgt := 315) F dL_refuses_249 (by decide) (fun h => absurd h (by decide)) (fun _ => ?_)
  refine zi_aload_n (pc := 252) F dL_refuses_252 0 rfl ?_
  refine zi_iload (pc := 253) F dL_refuses_253 8 rfl ?_
  refine zi_iload (pc := 255) F dL_refuses_255 5 rfl ?_
  refine zi_iconst (pc := 257) (v := 1) F dL_refuses_257 rfl ?_
  refine zi_icmp_ne (pc := 258) (tgt := 265) F dL_refuses_258 (by decide) (fun _ => ?_) (fun h => absurd h (by decide))
  refine zi_iload (pc := 265) F dL_refuses_265 6 rfl ?_
  refine zi_iconst (pc := 267) (v := (-1)) F dL_refuses_267 rfl ?_
  refine zi_callQH (pc := 268) (rest := []) F hsx hao (cr_8 l hfl G L T E V M K hIT hIE hIM 2147483647 (-1) (Or.inr hmaxT)) (vx_cwSW 4 F.1.2.2.2.2 gL_refuses_L_act rfl rfl rfl hd_L_act ⟨Nat.le_of_ble_eq_true rfl, Nat.le_of_ble_eq_true rfl⟩) [] [] (zw_nil _) (zw_nil _).symm rfl rfl (Nat.le_of_ble_eq_true rfl) dL_refuses_268 ⟨Nat.le_of_ble_eq_true rfl, Nat.le_of_ble_eq_true rfl⟩ ?_
  show zW p l e rmL_refuses s m args below meth c 49 294 Q G.1 A 9 (zWL G L T E V M K) [(0, .ref (G.2.2 0 0)), (1, .int (T 4 0)), (2, .int (E 5 0)), (3, .int (L 6 0)), (4, .int 2147483647), (5, .int 2), (6, .int 2147483647), (7, .int 1), (8, .int 8)] 271 [.int (-71)]
  refine zi_bipush (pc := 271) (v := (-71)) F dL_refuses_271 rfl ?_
  refine zi_icmp_ne (pc := 273) (tgt := 315) F dL_refuses_273 (by decide) (fun h => absurd h (by decide)) (fun _ => ?_)
  refine zi_iload (pc := 276) F dL_refuses_276 8 rfl ?_
  refine zi_iconst (pc := 278) (v := 5) F dL_refuses_278 rfl ?_
  refine zi_icmp_eq (pc := 279) (tgt := 311) F dL_refuses_279 (by decide) (fun h => absurd h (by decide)) (fun _ => ?_)
  refine zi_iload_n (pc := 282) F dL_refuses_282 1 rfl ?_
  refine zi_if_eq (pc := 283) (tgt := 311) F dL_refuses_283 (by decide) (fun _ => ?_) (fun h0 => ?_)
  · skip
    refine zi_iconst (pc := 311) (v := 1) F dL_refuses_311 rfl ?_
    refine zi_goto (pc := 312) (tgt := 316) F dL_refuses_312 (by decide) ?_
    refine zi_istore (pc := 316) (lv' := [(0, .ref (G.2.2 0 0)), (1, .int (T 4 0)), (2, .int (E 5 0)), (3, .int (L 6 0)), (4, .int 2147483647), (5, .int 2), (6, .int 2147483647), (7, .int 1), (8, .int 8)]) F dL_refuses_316 (by decide) rfl ?_
    refine zi_widen (Nat.le_of_ble_eq_true rfl) (Nat.le_of_ble_eq_true rfl) kk
  · have h0 : ¬ T 4 0 ≤ 0 := fun h9 => by
      have t1 := zt_le h9
      have t2 := zt_ne h0
      have k_0 : Int32.toInt 0 = 0 := by decide
      obtain ⟨i1, i2⟩ := hIT
      omega
    refine zi_aload_n (pc := 286) F dL_refuses_286 0 rfl ?_
    refine zi_iload (pc := 287) F dL_refuses_287 8 rfl ?_
    refine zi_iconst (pc := 289) (v := 0) F dL_refuses_289 rfl ?_
    refine zi_iload (pc := 290) F dL_refuses_290 5 rfl ?_
    refine zi_iconst (pc := 292) (v := 1) F dL_refuses_292 rfl ?_
    refine zi_icmp_ne (pc := 293) (tgt := 301) F dL_refuses_293 (by decide) (fun _ => ?_) (fun h => absurd h (by decide))
    refine zi_iload (pc := 301) F dL_refuses_301 6 rfl ?_
    refine zi_callQH (pc := 303) (rest := []) F hsx hao (cr_8l l hfl G L T E V M K hIT hIE hIM 2147483647 h0 (Or.inr (by decide))) (vx_cwSW 4 F.1.2.2.2.2 gL_refuses_L_act rfl rfl rfl hd_L_act ⟨Nat.le_of_ble_eq_true rfl, Nat.le_of_ble_eq_true rfl⟩) [] [] (zw_nil _) (zw_nil _).symm rfl rfl (Nat.le_of_ble_eq_true rfl) dL_refuses_303 ⟨Nat.le_of_ble_eq_true rfl, Nat.le_of_ble_eq_true rfl⟩ ?_
    show zW p l e rmL_refuses s m args below meth c 50 300 Q G.1 A 9 (zWL G L T E V M K) [(0, .ref (G.2.2 0 0)), (1, .int (T 4 0)), (2, .int (E 5 0)), (3, .int (L 6 0)), (4, .int 2147483647), (5, .int 2), (6, .int 2147483647), (7, .int 1), (8, .int 8)] 306 [.int (-72)]
    refine zi_bipush (pc := 306) (v := (-72)) F dL_refuses_306 rfl ?_
    refine zi_icmp_ne (pc := 308) (tgt := 315) F dL_refuses_308 (by decide) (fun h => absurd h (by decide)) (fun _ => ?_)
    refine zi_iconst (pc := 311) (v := 1) F dL_refuses_311 rfl ?_
    refine zi_goto (pc := 312) (tgt := 316) F dL_refuses_312 (by decide) ?_
    refine zi_istore (pc := 316) (lv' := [(0, .ref (G.2.2 0 0)), (1, .int (T 4 0)), (2, .int (E 5 0)), (3, .int (L 6 0)), (4, .int 2147483647), (5, .int 2), (6, .int 2147483647), (7, .int 1), (8, .int 8)]) F dL_refuses_316 (by decide) rfl ?_
    exact kk
set_option maxHeartbeats 4000000 in
set_option maxRecDepth 100000 in
theorem sg_rf_2_w8i {p : Program} {l : Launch} {e : Env} {s : State} {m : MethodId} {args : Array Value} {below : List Frame} {meth : Method} {c : Code} {Q : State → Prop} {A : Nat → Prop} {G : zG_t} {L T E V M K : zS_t} (hfl : l.stackTraces = false) (hIT : zIT T) (hIE : zIE E) (hIM : zIM M) (F : zF p m c cL_refuses 9 s args wsL_refuses RL G.1 (zty G) A) (hsx : zSx s) (hao : zAOA s) (kk : zW p l e rmL_refuses s m args below meth c 50 300 Q G.1 A 9 (zWL G L T E V M K) [(0, .ref (G.2.2 0 0)), (1, .int (T 4 0)), (2, .int (E 5 0)), (3, .int (L 6 0)), (4, .int 2147483647), (5, .int 2), (6, .int 2147483647), (7, .int 1), (8, .int 9)] 240 []) : zW p l e rmL_refuses s m args below meth c 50 300 Q G.1 A 9 (zWL G L T E V M K) [(0, .ref (G.2.2 0 0)), (1, .int (T 4 0)), (2, .int (E 5 0)), (3, .int (L 6 0)), (4, .int 2147483647), (5, .int 2), (6, .int 2147483647), (7, .int 1), (8, .int 8)] 318 [] := by
  have k_max : Int32.toInt 2147483647 = 2147483647 := by decide
  have hmaxT : T 4 0 ≤ 2147483647 := Int32.le_iff_toInt_le.mpr (by rw [k_max]; have h9 := hIT.2; omega)
  have hmaxE : E 5 0 ≤ 2147483647 := Int32.le_iff_toInt_le.mpr (by rw [k_max]; have h9 := hIE.1.2; omega)
  refine zi_iinc (pc := 318) (lv' := [(0, .ref (G.2.2 0 0)), (1, .int (T 4 0)), (2, .int (E 5 0)), (3, .int (L 6 0)), (4, .int 2147483647), (5, .int 2), (6, .int 2147483647), (7, .int 1), (8, .int 9)]) F dL_refuses_318 8 rfl (by decide) (by decide) rfl ?_
  refine zi_goto (pc := 321) (tgt := 240) F dL_refuses_321 (by decide) ?_
  exact kk
set_option maxHeartbeats 4000000 in
set_option maxRecDepth 100000 in
theorem sg_rf_2_c {p : Program} {l : Launch} {e : Env} {s : State} {m : MethodId} {args : Array Value} {below : List Frame} {meth : Method} {c : Code} {Q : State → Prop} {A : Nat → Prop} {G : zG_t} {L T E V M K : zS_t} (hfl : l.stackTraces = false) (hIT : zIT T) (hIE : zIE E) (hIM : zIM M) (F : zF p m c cL_refuses 9 s args wsL_refuses RL G.1 (zty G) A) (hsx : zSx s) (hao : zAOA s) (kk : zW p l e rmL_refuses s m args below meth c 50 300 Q G.1 A 9 (zWL G L T E V M K) [(0, .ref (G.2.2 0 0)), (1, .int (T 4 0)), (2, .int (E 5 0)), (3, .int (L 6 0)), (4, .int 2147483647), (5, .int 2), (6, .int 2147483647), (7, .int 1), (8, .int 9)] 328 []) : zW p l e rmL_refuses s m args below meth c 50 300 Q G.1 A 9 (zWL G L T E V M K) [(0, .ref (G.2.2 0 0)), (1, .int (T 4 0)), (2, .int (E 5 0)), (3, .int (L 6 0)), (4, .int 2147483647), (5, .int 2), (6, .int 2147483647), (7, .int 1), (8, .int 9)] 240 [] := by
  have k_max : Int32.toInt 2147483647 = 2147483647 := by decide
  have hmaxT : T 4 0 ≤ 2147483647 := Int32.le_iff_toInt_le.mpr (by rw [k_max]; have h9 := hIT.2; omega)
  have hmaxE : E 5 0 ≤ 2147483647 := Int32.le_iff_toInt_le.mpr (by rw [k_max]; have h9 := hIE.1.2; omega)
  refine zi_iload (pc := 240) F dL_refuses_240 8 rfl ?_
  refine zi_bipush (pc := 242) (v := 9) F dL_refuses_242 rfl ?_
  refine zi_icmp_ge (pc := 244) (tgt := 324) F dL_refuses_244 (by decide) (fun _ => ?_) (fun h => absurd h (by decide))
  refine zi_bipush (pc := 324) (v := 9) F dL_refuses_324 rfl ?_
  refine zi_istore (pc := 326) (lv' := [(0, .ref (G.2.2 0 0)), (1, .int (T 4 0)), (2, .int (E 5 0)), (3, .int (L 6 0)), (4, .int 2147483647), (5, .int 2), (6, .int 2147483647), (7, .int 1), (8, .int 9)]) F dL_refuses_326 (by decide) rfl ?_
  exact kk
set_option maxHeartbeats 4000000 in
set_option maxRecDepth 100000 in
theorem sg_rf_2_w9 {p : Program} {l : Launch} {e : Env} {s : State} {m : MethodId} {args : Array Value} {below : List Frame} {meth : Method} {c : Code} {Q : State → Prop} {A : Nat → Prop} {G : zG_t} {L T E V M K : zS_t} (hfl : l.stackTraces = false) (hIT : zIT T) (hIE : zIE E) (hIM : zIM M) (F : zF p m c cL_refuses 9 s args wsL_refuses RL G.1 (zty G) A) (hsx : zSx s) (hao : zAOA s) (kk : zW p l e rmL_refuses s m args below meth c 51 306 Q G.1 A 9 (zWL G L T E V M K) [(0, .ref (G.2.2 0 0)), (1, .int (T 4 0)), (2, .int (E 5 0)), (3, .int (L 6 0)), (4, .int 2147483647), (5, .int 2), (6, .int 2147483647), (7, .int 1), (8, .int 9)] 371 []) : zW p l e rmL_refuses s m args below meth c 50 300 Q G.1 A 9 (zWL G L T E V M K) [(0, .ref (G.2.2 0 0)), (1, .int (T 4 0)), (2, .int (E 5 0)), (3, .int (L 6 0)), (4, .int 2147483647), (5, .int 2), (6, .int 2147483647), (7, .int 1), (8, .int 9)] 328 [] := by
  have k_max : Int32.toInt 2147483647 = 2147483647 := by decide
  have hmaxT : T 4 0 ≤ 2147483647 := Int32.le_iff_toInt_le.mpr (by rw [k_max]; have h9 := hIT.2; omega)
  have hmaxE : E 5 0 ≤ 2147483647 := Int32.le_iff_toInt_le.mpr (by rw [k_max]; have h9 := hIE.1.2; omega)
  refine zi_iload (pc := 328) F dL_refuses_328 8 rfl ?_
  refine zi_bipush (pc := 330) (v := 13) F dL_refuses_330 rfl ?_
  refine zi_icmp_ge (pc := 332) (tgt := 377) F dL_refuses_332 (by decide) (fun h => absurd h (by decide)) (fun _ => ?_)
  refine zi_iload (pc := 335) F dL_refuses_335 7 rfl ?_
  refine zi_if_eq (pc := 337) (tgt := 368) F dL_refuses_337 (by decide) (fun h => absurd h (by decide)) (fun _ => ?_)
  refine zi_aload_n (pc := 340) F dL_refuses_340 0 rfl ?_
  refine zi_iload (pc := 341) F dL_refuses_341 8 rfl ?_
  refine zi_iload (pc := 343) F dL_refuses_343 5 rfl ?_
  refine zi_iconst (pc := 345) (v := 1) F dL_refuses_345 rfl ?_
  refine zi_icmp_ne (pc := 346) (tgt := 353) F dL_refuses_346 (by decide) (fun _ => ?_) (fun h => absurd h (by decide))
  refine zi_iload (pc := 353) F dL_refuses_353 6 rfl ?_
  refine zi_iconst (pc := 355) (v := 0) F dL_refuses_355 rfl ?_
  refine zi_callQH (pc := 356) (rest := []) F hsx hao (cr_9 l hfl G L T E V M K hIT hIE hIM 2147483647 0 (Or.inr hmaxE)) (vx_cwSW 4 F.1.2.2.2.2 gL_refuses_L_act rfl rfl rfl hd_L_act ⟨Nat.le_of_ble_eq_true rfl, Nat.le_of_ble_eq_true rfl⟩) [] [] (zw_nil _) (zw_nil _).symm rfl rfl (Nat.le_of_ble_eq_true rfl) dL_refuses_356 ⟨Nat.le_of_ble_eq_true rfl, Nat.le_of_ble_eq_true rfl⟩ ?_
  show zW p l e rmL_refuses s m args below meth c 51 306 Q G.1 A 9 (zWL G L T E V M K) [(0, .ref (G.2.2 0 0)), (1, .int (T 4 0)), (2, .int (E 5 0)), (3, .int (L 6 0)), (4, .int 2147483647), (5, .int 2), (6, .int 2147483647), (7, .int 1), (8, .int 9)] 359 [.int (-71)]
  refine zi_bipush (pc := 359) (v := (-71)) F dL_refuses_359 rfl ?_
  refine zi_icmp_ne (pc := 361) (tgt := 368) F dL_refuses_361 (by decide) (fun h => absurd h (by decide)) (fun _ => ?_)
  refine zi_iconst (pc := 364) (v := 1) F dL_refuses_364 rfl ?_
  refine zi_goto (pc := 365) (tgt := 369) F dL_refuses_365 (by decide) ?_
  refine zi_istore (pc := 369) (lv' := [(0, .ref (G.2.2 0 0)), (1, .int (T 4 0)), (2, .int (E 5 0)), (3, .int (L 6 0)), (4, .int 2147483647), (5, .int 2), (6, .int 2147483647), (7, .int 1), (8, .int 9)]) F dL_refuses_369 (by decide) rfl ?_
  exact kk
set_option maxHeartbeats 4000000 in
set_option maxRecDepth 100000 in
theorem sg_rf_2_w9i {p : Program} {l : Launch} {e : Env} {s : State} {m : MethodId} {args : Array Value} {below : List Frame} {meth : Method} {c : Code} {Q : State → Prop} {A : Nat → Prop} {G : zG_t} {L T E V M K : zS_t} (hfl : l.stackTraces = false) (hIT : zIT T) (hIE : zIE E) (hIM : zIM M) (F : zF p m c cL_refuses 9 s args wsL_refuses RL G.1 (zty G) A) (hsx : zSx s) (hao : zAOA s) (kk : zW p l e rmL_refuses s m args below meth c 51 306 Q G.1 A 9 (zWL G L T E V M K) [(0, .ref (G.2.2 0 0)), (1, .int (T 4 0)), (2, .int (E 5 0)), (3, .int (L 6 0)), (4, .int 2147483647), (5, .int 2), (6, .int 2147483647), (7, .int 1), (8, .int 10)] 328 []) : zW p l e rmL_refuses s m args below meth c 51 306 Q G.1 A 9 (zWL G L T E V M K) [(0, .ref (G.2.2 0 0)), (1, .int (T 4 0)), (2, .int (E 5 0)), (3, .int (L 6 0)), (4, .int 2147483647), (5, .int 2), (6, .int 2147483647), (7, .int 1), (8, .int 9)] 371 [] := by
  have k_max : Int32.toInt 2147483647 = 2147483647 := by decide
  have hmaxT : T 4 0 ≤ 2147483647 := Int32.le_iff_toInt_le.mpr (by rw [k_max]; have h9 := hIT.2; omega)
  have hmaxE : E 5 0 ≤ 2147483647 := Int32.le_iff_toInt_le.mpr (by rw [k_max]; have h9 := hIE.1.2; omega)
  refine zi_iinc (pc := 371) (lv' := [(0, .ref (G.2.2 0 0)), (1, .int (T 4 0)), (2, .int (E 5 0)), (3, .int (L 6 0)), (4, .int 2147483647), (5, .int 2), (6, .int 2147483647), (7, .int 1), (8, .int 10)]) F dL_refuses_371 8 rfl (by decide) (by decide) rfl ?_
  refine zi_goto (pc := 374) (tgt := 328) F dL_refuses_374 (by decide) ?_
  exact kk
set_option maxHeartbeats 4000000 in
set_option maxRecDepth 100000 in
theorem sg_rf_2_w10 {p : Program} {l : Launch} {e : Env} {s : State} {m : MethodId} {args : Array Value} {below : List Frame} {meth : Method} {c : Code} {Q : State → Prop} {A : Nat → Prop} {G : zG_t} {L T E V M K : zS_t} (hfl : l.stackTraces = false) (hIT : zIT T) (hIE : zIE E) (hIM : zIM M) (F : zF p m c cL_refuses 9 s args wsL_refuses RL G.1 (zty G) A) (hsx : zSx s) (hao : zAOA s) (kk : zW p l e rmL_refuses s m args below meth c 52 312 Q G.1 A 9 (zWL G L T E V M K) [(0, .ref (G.2.2 0 0)), (1, .int (T 4 0)), (2, .int (E 5 0)), (3, .int (L 6 0)), (4, .int 2147483647), (5, .int 2), (6, .int 2147483647), (7, .int 1), (8, .int 10)] 371 []) : zW p l e rmL_refuses s m args below meth c 51 306 Q G.1 A 9 (zWL G L T E V M K) [(0, .ref (G.2.2 0 0)), (1, .int (T 4 0)), (2, .int (E 5 0)), (3, .int (L 6 0)), (4, .int 2147483647), (5, .int 2), (6, .int 2147483647), (7, .int 1), (8, .int 10)] 328 [] := by
  have k_max : Int32.toInt 2147483647 = 2147483647 := by decide
  have hmaxT : T 4 0 ≤ 2147483647 := Int32.le_iff_toInt_le.mpr (by rw [k_max]; have h9 := hIT.2; omega)
  have hmaxE : E 5 0 ≤ 2147483647 := Int32.le_iff_toInt_le.mpr (by rw [k_max]; have h9 := hIE.1.2; omega)
  refine zi_iload (pc := 328) F dL_refuses_328 8 rfl ?_
  refine zi_bipush (pc := 330) (v := 13) F dL_refuses_330 rfl ?_
  refine zi_icmp_ge (pc := 332) (tgt := 377) F dL_refuses_332 (by decide) (fun h => absurd h (by decide)) (fun _ => ?_)
  refine zi_iload (pc := 335) F dL_refuses_335 7 rfl ?_
  refine zi_if_eq (pc := 337) (tgt := 368) F dL_refuses_337 (by decide) (fun h => absurd h (by decide)) (fun _ => ?_)
  refine zi_aload_n (pc := 340) F dL_refuses_340 0 rfl ?_
  refine zi_iload (pc := 341) F dL_refuses_341 8 rfl ?_
  refine zi_iload (pc := 343) F dL_refuses_343 5 rfl ?_
  refine zi_iconst (pc := 345) (v := 1) F dL_refuses_345 rfl ?_
  refine zi_icmp_ne (pc := 346) (tgt := 353) F dL_refuses_346 (by decide) (fun _ => ?_) (fun h => absurd h (by decide))
  refine zi_iload (pc := 353) F dL_refuses_353 6 rfl ?_
  refine zi_iconst (pc := 355) (v := 0) F dL_refuses_355 rfl ?_
  refine zi_callQH (pc := 356) (rest := []) F hsx hao (cr_10 l hfl G L T E V M K hIT hIE hIM 2147483647 0 (Or.inr hmaxE)) (vx_cwSW 4 F.1.2.2.2.2 gL_refuses_L_act rfl rfl rfl hd_L_act ⟨Nat.le_of_ble_eq_true rfl, Nat.le_of_ble_eq_true rfl⟩) [] [] (zw_nil _) (zw_nil _).symm rfl rfl (Nat.le_of_ble_eq_true rfl) dL_refuses_356 ⟨Nat.le_of_ble_eq_true rfl, Nat.le_of_ble_eq_true rfl⟩ ?_
  show zW p l e rmL_refuses s m args below meth c 52 312 Q G.1 A 9 (zWL G L T E V M K) [(0, .ref (G.2.2 0 0)), (1, .int (T 4 0)), (2, .int (E 5 0)), (3, .int (L 6 0)), (4, .int 2147483647), (5, .int 2), (6, .int 2147483647), (7, .int 1), (8, .int 10)] 359 [.int (-71)]
  refine zi_bipush (pc := 359) (v := (-71)) F dL_refuses_359 rfl ?_
  refine zi_icmp_ne (pc := 361) (tgt := 368) F dL_refuses_361 (by decide) (fun h => absurd h (by decide)) (fun _ => ?_)
  refine zi_iconst (pc := 364) (v := 1) F dL_refuses_364 rfl ?_
  refine zi_goto (pc := 365) (tgt := 369) F dL_refuses_365 (by decide) ?_
  refine zi_istore (pc := 369) (lv' := [(0, .ref (G.2.2 0 0)), (1, .int (T 4 0)), (2, .int (E 5 0)), (3, .int (L 6 0)), (4, .int 2147483647), (5, .int 2), (6, .int 2147483647), (7, .int 1), (8, .int 10)]) F dL_refuses_369 (by decide) rfl ?_
  exact kk
set_option maxHeartbeats 4000000 in
set_option maxRecDepth 100000 in
theorem sg_rf_2_w10i {p : Program} {l : Launch} {e : Env} {s : State} {m : MethodId} {args : Array Value} {below : List Frame} {meth : Method} {c : Code} {Q : State → Prop} {A : Nat → Prop} {G : zG_t} {L T E V M K : zS_t} (hfl : l.stackTraces = false) (hIT : zIT T) (hIE : zIE E) (hIM : zIM M) (F : zF p m c cL_refuses 9 s args wsL_refuses RL G.1 (zty G) A) (hsx : zSx s) (hao : zAOA s) (kk : zW p l e rmL_refuses s m args below meth c 52 312 Q G.1 A 9 (zWL G L T E V M K) [(0, .ref (G.2.2 0 0)), (1, .int (T 4 0)), (2, .int (E 5 0)), (3, .int (L 6 0)), (4, .int 2147483647), (5, .int 2), (6, .int 2147483647), (7, .int 1), (8, .int 11)] 328 []) : zW p l e rmL_refuses s m args below meth c 52 312 Q G.1 A 9 (zWL G L T E V M K) [(0, .ref (G.2.2 0 0)), (1, .int (T 4 0)), (2, .int (E 5 0)), (3, .int (L 6 0)), (4, .int 2147483647), (5, .int 2), (6, .int 2147483647), (7, .int 1), (8, .int 10)] 371 [] := by
  have k_max : Int32.toInt 2147483647 = 2147483647 := by decide
  have hmaxT : T 4 0 ≤ 2147483647 := Int32.le_iff_toInt_le.mpr (by rw [k_max]; have h9 := hIT.2; omega)
  have hmaxE : E 5 0 ≤ 2147483647 := Int32.le_iff_toInt_le.mpr (by rw [k_max]; have h9 := hIE.1.2; omega)
  refine zi_iinc (pc := 371) (lv' := [(0, .ref (G.2.2 0 0)), (1, .int (T 4 0)), (2, .int (E 5 0)), (3, .int (L 6 0)), (4, .int 2147483647), (5, .int 2), (6, .int 2147483647), (7, .int 1), (8, .int 11)]) F dL_refuses_371 8 rfl (by decide) (by decide) rfl ?_
  refine zi_goto (pc := 374) (tgt := 328) F dL_refuses_374 (by decide) ?_
  exact kk
set_option maxHeartbeats 4000000 in
set_option maxRecDepth 100000 in
theorem sg_rf_2_w11 {p : Program} {l : Launch} {e : Env} {s : State} {m : MethodId} {args : Array Value} {below : List Frame} {meth : Method} {c : Code} {Q : State → Prop} {A : Nat → Prop} {G : zG_t} {L T E V M K : zS_t} (hfl : l.stackTraces = false) (hIT : zIT T) (hIE : zIE E) (hIM : zIM M) (F : zF p m c cL_refuses 9 s args wsL_refuses RL G.1 (zty G) A) (hsx : zSx s) (hao : zAOA s) (kk : zW p l e rmL_refuses s m args below meth c 53 318 Q G.1 A 9 (zWL G L T E V M K) [(0, .ref (G.2.2 0 0)), (1, .int (T 4 0)), (2, .int (E 5 0)), (3, .int (L 6 0)), (4, .int 2147483647), (5, .int 2), (6, .int 2147483647), (7, .int 1), (8, .int 11)] 371 []) : zW p l e rmL_refuses s m args below meth c 52 312 Q G.1 A 9 (zWL G L T E V M K) [(0, .ref (G.2.2 0 0)), (1, .int (T 4 0)), (2, .int (E 5 0)), (3, .int (L 6 0)), (4, .int 2147483647), (5, .int 2), (6, .int 2147483647), (7, .int 1), (8, .int 11)] 328 [] := by
  have k_max : Int32.toInt 2147483647 = 2147483647 := by decide
  have hmaxT : T 4 0 ≤ 2147483647 := Int32.le_iff_toInt_le.mpr (by rw [k_max]; have h9 := hIT.2; omega)
  have hmaxE : E 5 0 ≤ 2147483647 := Int32.le_iff_toInt_le.mpr (by rw [k_max]; have h9 := hIE.1.2; omega)
  refine zi_iload (pc := 328) F dL_refuses_328 8 rfl ?_
  refine zi_bipush (pc := 330) (v := 13) F dL_refuses_330 rfl ?_
  refine zi_icmp_ge (pc := 332) (tgt := 377) F dL_refuses_332 (by decide) (fun h => absurd h (by decide)) (fun _ => ?_)
  refine zi_iload (pc := 335) F dL_refuses_335 7 rfl ?_
  refine zi_if_eq (pc := 337) (tgt := 368) F dL_refuses_337 (by decide) (fun h => absurd h (by decide)) (fun _ => ?_)
  refine zi_aload_n (pc := 340) F dL_refuses_340 0 rfl ?_
  refine zi_iload (pc := 341) F dL_refuses_341 8 rfl ?_
  refine zi_iload (pc := 343) F dL_refuses_343 5 rfl ?_
  refine zi_iconst (pc := 345) (v := 1) F dL_refuses_345 rfl ?_
  refine zi_icmp_ne (pc := 346) (tgt := 353) F dL_refuses_346 (by decide) (fun _ => ?_) (fun h => absurd h (by decide))
  refine zi_iload (pc := 353) F dL_refuses_353 6 rfl ?_
  refine zi_iconst (pc := 355) (v := 0) F dL_refuses_355 rfl ?_
  refine zi_callQH (pc := 356) (rest := []) F hsx hao (cr_11 l hfl G L T E V M K hIT hIE hIM 2147483647 0 (Or.inr hmaxE)) (vx_cwSW 4 F.1.2.2.2.2 gL_refuses_L_act rfl rfl rfl hd_L_act ⟨Nat.le_of_ble_eq_true rfl, Nat.le_of_ble_eq_true rfl⟩) [] [] (zw_nil _) (zw_nil _).symm rfl rfl (Nat.le_of_ble_eq_true rfl) dL_refuses_356 ⟨Nat.le_of_ble_eq_true rfl, Nat.le_of_ble_eq_true rfl⟩ ?_
  show zW p l e rmL_refuses s m args below meth c 53 318 Q G.1 A 9 (zWL G L T E V M K) [(0, .ref (G.2.2 0 0)), (1, .int (T 4 0)), (2, .int (E 5 0)), (3, .int (L 6 0)), (4, .int 2147483647), (5, .int 2), (6, .int 2147483647), (7, .int 1), (8, .int 11)] 359 [.int (-71)]
  refine zi_bipush (pc := 359) (v := (-71)) F dL_refuses_359 rfl ?_
  refine zi_icmp_ne (pc := 361) (tgt := 368) F dL_refuses_361 (by decide) (fun h => absurd h (by decide)) (fun _ => ?_)
  refine zi_iconst (pc := 364) (v := 1) F dL_refuses_364 rfl ?_
  refine zi_goto (pc := 365) (tgt := 369) F dL_refuses_365 (by decide) ?_
  refine zi_istore (pc := 369) (lv' := [(0, .ref (G.2.2 0 0)), (1, .int (T 4 0)), (2, .int (E 5 0)), (3, .int (L 6 0)), (4, .int 2147483647), (5, .int 2), (6, .int 2147483647), (7, .int 1), (8, .int 11)]) F dL_refuses_369 (by decide) rfl ?_
  exact kk
set_option maxHeartbeats 4000000 in
set_option maxRecDepth 100000 in
theorem sg_rf_2_w11i {p : Program} {l : Launch} {e : Env} {s : State} {m : MethodId} {args : Array Value} {below : List Frame} {meth : Method} {c : Code} {Q : State → Prop} {A : Nat → Prop} {G : zG_t} {L T E V M K : zS_t} (hfl : l.stackTraces = false) (hIT : zIT T) (hIE : zIE E) (hIM : zIM M) (F : zF p m c cL_refuses 9 s args wsL_refuses RL G.1 (zty G) A) (hsx : zSx s) (hao : zAOA s) (kk : zW p l e rmL_refuses s m args below meth c 53 318 Q G.1 A 9 (zWL G L T E V M K) [(0, .ref (G.2.2 0 0)), (1, .int (T 4 0)), (2, .int (E 5 0)), (3, .int (L 6 0)), (4, .int 2147483647), (5, .int 2), (6, .int 2147483647), (7, .int 1), (8, .int 12)] 328 []) : zW p l e rmL_refuses s m args below meth c 53 318 Q G.1 A 9 (zWL G L T E V M K) [(0, .ref (G.2.2 0 0)), (1, .int (T 4 0)), (2, .int (E 5 0)), (3, .int (L 6 0)), (4, .int 2147483647), (5, .int 2), (6, .int 2147483647), (7, .int 1), (8, .int 11)] 371 [] := by
  have k_max : Int32.toInt 2147483647 = 2147483647 := by decide
  have hmaxT : T 4 0 ≤ 2147483647 := Int32.le_iff_toInt_le.mpr (by rw [k_max]; have h9 := hIT.2; omega)
  have hmaxE : E 5 0 ≤ 2147483647 := Int32.le_iff_toInt_le.mpr (by rw [k_max]; have h9 := hIE.1.2; omega)
  refine zi_iinc (pc := 371) (lv' := [(0, .ref (G.2.2 0 0)), (1, .int (T 4 0)), (2, .int (E 5 0)), (3, .int (L 6 0)), (4, .int 2147483647), (5, .int 2), (6, .int 2147483647), (7, .int 1), (8, .int 12)]) F dL_refuses_371 8 rfl (by decide) (by decide) rfl ?_
  refine zi_goto (pc := 374) (tgt := 328) F dL_refuses_374 (by decide) ?_
  exact kk
set_option maxHeartbeats 4000000 in
set_option maxRecDepth 100000 in
theorem sg_rf_2_w12 {p : Program} {l : Launch} {e : Env} {s : State} {m : MethodId} {args : Array Value} {below : List Frame} {meth : Method} {c : Code} {Q : State → Prop} {A : Nat → Prop} {G : zG_t} {L T E V M K : zS_t} (hfl : l.stackTraces = false) (hIT : zIT T) (hIE : zIE E) (hIM : zIM M) (F : zF p m c cL_refuses 9 s args wsL_refuses RL G.1 (zty G) A) (hsx : zSx s) (hao : zAOA s) (kk : zW p l e rmL_refuses s m args below meth c 54 324 Q G.1 A 9 (zWL G L T E V M K) [(0, .ref (G.2.2 0 0)), (1, .int (T 4 0)), (2, .int (E 5 0)), (3, .int (L 6 0)), (4, .int 2147483647), (5, .int 2), (6, .int 2147483647), (7, .int 1), (8, .int 12)] 371 []) : zW p l e rmL_refuses s m args below meth c 53 318 Q G.1 A 9 (zWL G L T E V M K) [(0, .ref (G.2.2 0 0)), (1, .int (T 4 0)), (2, .int (E 5 0)), (3, .int (L 6 0)), (4, .int 2147483647), (5, .int 2), (6, .int 2147483647), (7, .int 1), (8, .int 12)] 328 [] := by
  have k_max : Int32.toInt 2147483647 = 2147483647 := by decide
  have hmaxT : T 4 0 ≤ 2147483647 := Int32.le_iff_toInt_le.mpr (by rw [k_max]; have h9 := hIT.2; omega)
  have hmaxE : E 5 0 ≤ 2147483647 := Int32.le_iff_toInt_le.mpr (by rw [k_max]; have h9 := hIE.1.2; omega)
  refine zi_iload (pc := 328) F dL_refuses_328 8 rfl ?_
  refine zi_bipush (pc := 330) (v := 13) F dL_refuses_330 rfl ?_
  refine zi_icmp_ge (pc := 332) (tgt := 377) F dL_refuses_332 (by decide) (fun h => absurd h (by decide)) (fun _ => ?_)
  refine zi_iload (pc := 335) F dL_refuses_335 7 rfl ?_
  refine zi_if_eq (pc := 337) (tgt := 368) F dL_refuses_337 (by decide) (fun h => absurd h (by decide)) (fun _ => ?_)
  refine zi_aload_n (pc := 340) F dL_refuses_340 0 rfl ?_
  refine zi_iload (pc := 341) F dL_refuses_341 8 rfl ?_
  refine zi_iload (pc := 343) F dL_refuses_343 5 rfl ?_
  refine zi_iconst (pc := 345) (v := 1) F dL_refuses_345 rfl ?_
  refine zi_icmp_ne (pc := 346) (tgt := 353) F dL_refuses_346 (by decide) (fun _ => ?_) (fun h => absurd h (by decide))
  refine zi_iload (pc := 353) F dL_refuses_353 6 rfl ?_
  refine zi_iconst (pc := 355) (v := 0) F dL_refuses_355 rfl ?_
  refine zi_callQH (pc := 356) (rest := []) F hsx hao (cr_12 l hfl G L T E V M K hIT hIE hIM 2147483647 0 (Or.inr hmaxE)) (vx_cwSW 4 F.1.2.2.2.2 gL_refuses_L_act rfl rfl rfl hd_L_act ⟨Nat.le_of_ble_eq_true rfl, Nat.le_of_ble_eq_true rfl⟩) [] [] (zw_nil _) (zw_nil _).symm rfl rfl (Nat.le_of_ble_eq_true rfl) dL_refuses_356 ⟨Nat.le_of_ble_eq_true rfl, Nat.le_of_ble_eq_true rfl⟩ ?_
  show zW p l e rmL_refuses s m args below meth c 54 324 Q G.1 A 9 (zWL G L T E V M K) [(0, .ref (G.2.2 0 0)), (1, .int (T 4 0)), (2, .int (E 5 0)), (3, .int (L 6 0)), (4, .int 2147483647), (5, .int 2), (6, .int 2147483647), (7, .int 1), (8, .int 12)] 359 [.int (-71)]
  refine zi_bipush (pc := 359) (v := (-71)) F dL_refuses_359 rfl ?_
  refine zi_icmp_ne (pc := 361) (tgt := 368) F dL_refuses_361 (by decide) (fun h => absurd h (by decide)) (fun _ => ?_)
  refine zi_iconst (pc := 364) (v := 1) F dL_refuses_364 rfl ?_
  refine zi_goto (pc := 365) (tgt := 369) F dL_refuses_365 (by decide) ?_
  refine zi_istore (pc := 369) (lv' := [(0, .ref (G.2.2 0 0)), (1, .int (T 4 0)), (2, .int (E 5 0)), (3, .int (L 6 0)), (4, .int 2147483647), (5, .int 2), (6, .int 2147483647), (7, .int 1), (8, .int 12)]) F dL_refuses_369 (by decide) rfl ?_
  exact kk
set_option maxHeartbeats 4000000 in
set_option maxRecDepth 100000 in
theorem sg_rf_2_w12i {p : Program} {l : Launch} {e : Env} {s : State} {m : MethodId} {args : Array Value} {below : List Frame} {meth : Method} {c : Code} {Q : State → Prop} {A : Nat → Prop} {G : zG_t} {L T E V M K : zS_t} (hfl : l.stackTraces = false) (hIT : zIT T) (hIE : zIE E) (hIM : zIM M) (F : zF p m c cL_refuses 9 s args wsL_refuses RL G.1 (zty G) A) (hsx : zSx s) (hao : zAOA s) (kk : zW p l e rmL_refuses s m args below meth c 54 324 Q G.1 A 9 (zWL G L T E V M K) [(0, .ref (G.2.2 0 0)), (1, .int (T 4 0)), (2, .int (E 5 0)), (3, .int (L 6 0)), (4, .int 2147483647), (5, .int 2), (6, .int 2147483647), (7, .int 1), (8, .int 13)] 328 []) : zW p l e rmL_refuses s m args below meth c 54 324 Q G.1 A 9 (zWL G L T E V M K) [(0, .ref (G.2.2 0 0)), (1, .int (T 4 0)), (2, .int (E 5 0)), (3, .int (L 6 0)), (4, .int 2147483647), (5, .int 2), (6, .int 2147483647), (7, .int 1), (8, .int 12)] 371 [] := by
  have k_max : Int32.toInt 2147483647 = 2147483647 := by decide
  have hmaxT : T 4 0 ≤ 2147483647 := Int32.le_iff_toInt_le.mpr (by rw [k_max]; have h9 := hIT.2; omega)
  have hmaxE : E 5 0 ≤ 2147483647 := Int32.le_iff_toInt_le.mpr (by rw [k_max]; have h9 := hIE.1.2; omega)
  refine zi_iinc (pc := 371) (lv' := [(0, .ref (G.2.2 0 0)), (1, .int (T 4 0)), (2, .int (E 5 0)), (3, .int (L 6 0)), (4, .int 2147483647), (5, .int 2), (6, .int 2147483647), (7, .int 1), (8, .int 13)]) F dL_refuses_371 8 rfl (by decide) (by decide) rfl ?_
  refine zi_goto (pc := 374) (tgt := 328) F dL_refuses_374 (by decide) ?_
  exact kk
set_option maxHeartbeats 4000000 in
set_option maxRecDepth 100000 in
theorem sg_rf_2_d {p : Program} {l : Launch} {e : Env} {s : State} {m : MethodId} {args : Array Value} {below : List Frame} {meth : Method} {c : Code} {Q : State → Prop} {A : Nat → Prop} {G : zG_t} {L T E V M K : zS_t} (hfl : l.stackTraces = false) (hIT : zIT T) (hIE : zIE E) (hIM : zIM M) (F : zF p m c cL_refuses 9 s args wsL_refuses RL G.1 (zty G) A) (hsx : zSx s) (hao : zAOA s) (kk : zW p l e rmL_refuses s m args below meth c 54 324 Q G.1 A 9 (zWL G L T E V M K) [(0, .ref (G.2.2 0 0)), (1, .int (T 4 0)), (2, .int (E 5 0)), (3, .int (L 6 0)), (4, .int 2147483647), (5, .int 2), (6, .int 2147483647), (7, .int 1), (8, .int 13)] 384 []) : zW p l e rmL_refuses s m args below meth c 54 324 Q G.1 A 9 (zWL G L T E V M K) [(0, .ref (G.2.2 0 0)), (1, .int (T 4 0)), (2, .int (E 5 0)), (3, .int (L 6 0)), (4, .int 2147483647), (5, .int 2), (6, .int 2147483647), (7, .int 1), (8, .int 13)] 328 [] := by
  have k_max : Int32.toInt 2147483647 = 2147483647 := by decide
  have hmaxT : T 4 0 ≤ 2147483647 := Int32.le_iff_toInt_le.mpr (by rw [k_max]; have h9 := hIT.2; omega)
  have hmaxE : E 5 0 ≤ 2147483647 := Int32.le_iff_toInt_le.mpr (by rw [k_max]; have h9 := hIE.1.2; omega)
  refine zi_iload (pc := 328) F dL_refuses_328 8 rfl ?_
  refine zi_bipush (pc := 330) (v := 13) F dL_refuses_330 rfl ?_
  refine zi_icmp_ge (pc := 332) (tgt := 377) F dL_refuses_332 (by decide) (fun _ => ?_) (fun h => absurd h (by decide))
  refine zi_iload (pc := 377) F dL_refuses_377 7 rfl ?_
  refine zi_if_ne (pc := 379) (tgt := 384) F dL_refuses_379 (by decide) (fun _ => ?_) (fun h => absurd h (by decide))
  exact kk
set_option maxHeartbeats 4000000 in
set_option maxRecDepth 100000 in
theorem sg_rf_2_e {p : Program} {l : Launch} {e : Env} {s : State} {m : MethodId} {args : Array Value} {below : List Frame} {meth : Method} {c : Code} {Q : State → Prop} {A : Nat → Prop} {G : zG_t} {L T E V M K : zS_t} (hfl : l.stackTraces = false) (hIT : zIT T) (hIE : zIE E) (hIM : zIM M) (F : zF p m c cL_refuses 9 s args wsL_refuses RL G.1 (zty G) A) (hsx : zSx s) (hao : zAOA s) (kk : zW p l e rmL_refuses s m args below meth c 54 324 Q G.1 A 9 (zWL G L T E V M K) [(0, .ref (G.2.2 0 0)), (1, .int (T 4 0)), (2, .int (E 5 0)), (3, .int (L 6 0)), (4, .int 2147483647), (5, .int 3), (6, .int 2147483647), (7, .int 1), (8, .int 13)] 22 []) : zW p l e rmL_refuses s m args below meth c 54 324 Q G.1 A 9 (zWL G L T E V M K) [(0, .ref (G.2.2 0 0)), (1, .int (T 4 0)), (2, .int (E 5 0)), (3, .int (L 6 0)), (4, .int 2147483647), (5, .int 2), (6, .int 2147483647), (7, .int 1), (8, .int 13)] 384 [] := by
  have k_max : Int32.toInt 2147483647 = 2147483647 := by decide
  have hmaxT : T 4 0 ≤ 2147483647 := Int32.le_iff_toInt_le.mpr (by rw [k_max]; have h9 := hIT.2; omega)
  have hmaxE : E 5 0 ≤ 2147483647 := Int32.le_iff_toInt_le.mpr (by rw [k_max]; have h9 := hIE.1.2; omega)
  refine zi_iinc (pc := 384) (lv' := [(0, .ref (G.2.2 0 0)), (1, .int (T 4 0)), (2, .int (E 5 0)), (3, .int (L 6 0)), (4, .int 2147483647), (5, .int 3), (6, .int 2147483647), (7, .int 1), (8, .int 13)]) F dL_refuses_384 5 rfl (by decide) (by decide) rfl ?_
  refine zi_goto (pc := 387) (tgt := 22) F dL_refuses_387 (by decide) ?_
  exact kk
set_option maxHeartbeats 4000000 in
set_option maxRecDepth 100000 in
theorem sg_rf_3_b {p : Program} {l : Launch} {e : Env} {s : State} {m : MethodId} {args : Array Value} {below : List Frame} {meth : Method} {c : Code} {Q : State → Prop} {A : Nat → Prop} {G : zG_t} {L T E V M K : zS_t} (hfl : l.stackTraces = false) (hIT : zIT T) (hIE : zIE E) (hIM : zIM M) (F : zF p m c cL_refuses 9 s args wsL_refuses RL G.1 (zty G) A) (hsx : zSx s) (hao : zAOA s) (kk : zW p l e rmL_refuses s m args below meth c 61 366 Q G.1 A 9 (zWL G L T E V M K) [(0, .ref (G.2.2 0 0)), (1, .int (T 4 0)), (2, .int (E 5 0)), (3, .int (L 6 0)), (4, .int 2147483647), (5, .int 3), (6, .int (-2147483648)), (7, .int 1), (8, .int 5)] 240 []) : zW p l e rmL_refuses s m args below meth c 54 324 Q G.1 A 9 (zWL G L T E V M K) [(0, .ref (G.2.2 0 0)), (1, .int (T 4 0)), (2, .int (E 5 0)), (3, .int (L 6 0)), (4, .int 2147483647), (5, .int 3), (6, .int 2147483647), (7, .int 1), (8, .int 13)] 22 [] := by
  have k_max : Int32.toInt 2147483647 = 2147483647 := by decide
  have hmaxT : T 4 0 ≤ 2147483647 := Int32.le_iff_toInt_le.mpr (by rw [k_max]; have h9 := hIT.2; omega)
  have hmaxE : E 5 0 ≤ 2147483647 := Int32.le_iff_toInt_le.mpr (by rw [k_max]; have h9 := hIE.1.2; omega)
  refine zi_iload (pc := 22) F dL_refuses_22 5 rfl ?_
  refine zi_iconst (pc := 24) (v := 4) F dL_refuses_24 rfl ?_
  refine zi_icmp_ge (pc := 25) (tgt := 390) F dL_refuses_25 (by decide) (fun h => absurd h (by decide)) (fun _ => ?_)
  refine zi_iload (pc := 28) F dL_refuses_28 5 rfl ?_
  refine zi_if_ne (pc := 30) (tgt := 37) F dL_refuses_30 (by decide) (fun _ => ?_) (fun h => absurd h (by decide))
  refine zi_iload (pc := 37) F dL_refuses_37 5 rfl ?_
  refine zi_iconst (pc := 39) (v := 2) F dL_refuses_39 rfl ?_
  refine zi_icmp_ne (pc := 40) (tgt := 48) F dL_refuses_40 (by decide) (fun _ => ?_) (fun h => absurd h (by decide))
  refine zi_iload (pc := 48) F dL_refuses_48 4 rfl ?_
  refine zi_ineg (pc := 50) F dL_refuses_50 ?_
  refine zi_toplit (y := (-2147483647)) (by decide) ?_
  refine zi_iconst (pc := 51) (v := 1) F dL_refuses_51 rfl ?_
  refine zi_isub (pc := 52) F dL_refuses_52 ?_
  refine zi_toplit (y := (-2147483648)) (by decide) ?_
  refine zi_istore (pc := 53) (lv' := [(0, .ref (G.2.2 0 0)), (1, .int (T 4 0)), (2, .int (E 5 0)), (3, .int (L 6 0)), (4, .int 2147483647), (5, .int 3), (6, .int (-2147483648)), (7, .int 1), (8, .int 13)]) F dL_refuses_53 (by decide) rfl ?_
  refine zi_aload_n (pc := 55) F dL_refuses_55 0 rfl ?_
  refine zi_iconst (pc := 56) (v := 0) F dL_refuses_56 rfl ?_
  refine zi_iload (pc := 57) F dL_refuses_57 5 rfl ?_
  refine zi_iconst (pc := 59) (v := 1) F dL_refuses_59 rfl ?_
  refine zi_icmp_ne (pc := 60) (tgt := 68) F dL_refuses_60 (by decide) (fun _ => ?_) (fun h => absurd h (by decide))
  refine zi_iload (pc := 68) F dL_refuses_68 6 rfl ?_
  refine zi_iconst (pc := 70) (v := 0) F dL_refuses_70 rfl ?_
  refine zi_callQH (pc := 71) (rest := []) F hsx hao (cr_0 l hfl G L T E V M K hIT hIE hIM (-2147483648) 0 (Or.inl (by decide))) (vx_cwSW 4 F.1.2.2.2.2 gL_refuses_L_act rfl rfl rfl hd_L_act ⟨Nat.le_of_ble_eq_true rfl, Nat.le_of_ble_eq_true rfl⟩) [] [] (zw_nil _) (zw_nil _).symm rfl rfl (Nat.le_of_ble_eq_true rfl) dL_refuses_71 ⟨Nat.le_of_ble_eq_true rfl, Nat.le_of_ble_eq_true rfl⟩ ?_
  show zW p l e rmL_refuses s m args below meth c 55 330 Q G.1 A 9 (zWL G L T E V M K) [(0, .ref (G.2.2 0 0)), (1, .int (T 4 0)), (2, .int (E 5 0)), (3, .int (L 6 0)), (4, .int 2147483647), (5, .int 3), (6, .int (-2147483648)), (7, .int 1), (8, .int 13)] 74 [.int (-71)]
  refine zi_bipush (pc := 74) (v := (-71)) F dL_refuses_74 rfl ?_
  refine zi_icmp_ne (pc := 76) (tgt := 234) F dL_refuses_76 (by decide) (fun h => absurd h (by decide)) (fun _ => ?_)
  refine zi_aload_n (pc := 79) F dL_refuses_79 0 rfl ?_
  refine zi_iconst (pc := 80) (v := 1) F dL_refuses_80 rfl ?_
  refine zi_iload (pc := 81) F dL_refuses_81 5 rfl ?_
  refine zi_iconst (pc := 83) (v := 1) F dL_refuses_83 rfl ?_
  refine zi_icmp_ne (pc := 84) (tgt := 92) F dL_refuses_84 (by decide) (fun _ => ?_) (fun h => absurd h (by decide))
  refine zi_iload (pc := 92) F dL_refuses_92 6 rfl ?_
  refine zi_iconst (pc := 94) (v := 0) F dL_refuses_94 rfl ?_
  refine zi_callQH (pc := 95) (rest := []) F hsx hao (cr_1 l hfl G L T E V M K hIT hIE hIM (-2147483648) 0 (Or.inl (by decide))) (vx_cwSW 4 F.1.2.2.2.2 gL_refuses_L_act rfl rfl rfl hd_L_act ⟨Nat.le_of_ble_eq_true rfl, Nat.le_of_ble_eq_true rfl⟩) [] [] (zw_nil _) (zw_nil _).symm rfl rfl (Nat.le_of_ble_eq_true rfl) dL_refuses_95 ⟨Nat.le_of_ble_eq_true rfl, Nat.le_of_ble_eq_true rfl⟩ ?_
  show zW p l e rmL_refuses s m args below meth c 56 336 Q G.1 A 9 (zWL G L T E V M K) [(0, .ref (G.2.2 0 0)), (1, .int (T 4 0)), (2, .int (E 5 0)), (3, .int (L 6 0)), (4, .int 2147483647), (5, .int 3), (6, .int (-2147483648)), (7, .int 1), (8, .int 13)] 98 [.int (-71)]
  refine zi_bipush (pc := 98) (v := (-71)) F dL_refuses_98 rfl ?_
  refine zi_icmp_ne (pc := 100) (tgt := 234) F dL_refuses_100 (by decide) (fun h => absurd h (by decide)) (fun _ => ?_)
  refine zi_aload_n (pc := 103) F dL_refuses_103 0 rfl ?_
  refine zi_iconst (pc := 104) (v := 2) F dL_refuses_104 rfl ?_
  refine zi_iload (pc := 105) F dL_refuses_105 5 rfl ?_
  refine zi_if_ne (pc := 107) (tgt := 114) F dL_refuses_107 (by decide) (fun _ => ?_) (fun h => absurd h (by decide))
  refine zi_iload (pc := 114) F dL_refuses_114 5 rfl ?_
  refine zi_iconst (pc := 116) (v := 1) F dL_refuses_116 rfl ?_
  refine zi_icmp_ne (pc := 117) (tgt := 125) F dL_refuses_117 (by decide) (fun _ => ?_) (fun h => absurd h (by decide))
  refine zi_iload (pc := 125) F dL_refuses_125 6 rfl ?_
  refine zi_iconst (pc := 127) (v := 0) F dL_refuses_127 rfl ?_
  refine zi_callQH (pc := 128) (rest := []) F hsx hao (cr_2 l hfl G L T E V M K hIT hIE hIM (-2147483648) 0 (Or.inl (by decide))) (vx_cwSW 4 F.1.2.2.2.2 gL_refuses_L_act rfl rfl rfl hd_L_act ⟨Nat.le_of_ble_eq_true rfl, Nat.le_of_ble_eq_true rfl⟩) [] [] (zw_nil _) (zw_nil _).symm rfl rfl (Nat.le_of_ble_eq_true rfl) dL_refuses_128 ⟨Nat.le_of_ble_eq_true rfl, Nat.le_of_ble_eq_true rfl⟩ ?_
  show zW p l e rmL_refuses s m args below meth c 57 342 Q G.1 A 9 (zWL G L T E V M K) [(0, .ref (G.2.2 0 0)), (1, .int (T 4 0)), (2, .int (E 5 0)), (3, .int (L 6 0)), (4, .int 2147483647), (5, .int 3), (6, .int (-2147483648)), (7, .int 1), (8, .int 13)] 131 [.int (-72)]
  refine zi_bipush (pc := 131) (v := (-72)) F dL_refuses_131 rfl ?_
  refine zi_icmp_ne (pc := 133) (tgt := 234) F dL_refuses_133 (by decide) (fun h => absurd h (by decide)) (fun _ => ?_)
  refine zi_aload_n (pc := 136) F dL_refuses_136 0 rfl ?_
  refine zi_iconst (pc := 137) (v := 3) F dL_refuses_137 rfl ?_
  refine zi_iload (pc := 138) F dL_refuses_138 5 rfl ?_
  refine zi_iconst (pc := 140) (v := 1) F dL_refuses_140 rfl ?_
  refine zi_icmp_ne (pc := 141) (tgt := 148) F dL_refuses_141 (by decide) (fun _ => ?_) (fun h => absurd h (by decide))
  refine zi_iload (pc := 148) F dL_refuses_148 6 rfl ?_
  refine zi_iconst (pc := 150) (v := 0) F dL_refuses_150 rfl ?_
  refine zi_callQH (pc := 151) (rest := []) F hsx hao (cr_3 l hfl G L T E V M K hIT hIE hIM (-2147483648) 0 (Or.inl (by decide))) (vx_cwSW 4 F.1.2.2.2.2 gL_refuses_L_act rfl rfl rfl hd_L_act ⟨Nat.le_of_ble_eq_true rfl, Nat.le_of_ble_eq_true rfl⟩) [] [] (zw_nil _) (zw_nil _).symm rfl rfl (Nat.le_of_ble_eq_true rfl) dL_refuses_151 ⟨Nat.le_of_ble_eq_true rfl, Nat.le_of_ble_eq_true rfl⟩ ?_
  show zW p l e rmL_refuses s m args below meth c 58 348 Q G.1 A 9 (zWL G L T E V M K) [(0, .ref (G.2.2 0 0)), (1, .int (T 4 0)), (2, .int (E 5 0)), (3, .int (L 6 0)), (4, .int 2147483647), (5, .int 3), (6, .int (-2147483648)), (7, .int 1), (8, .int 13)] 154 [.int (-71)]
  refine zi_bipush (pc := 154) (v := (-71)) F dL_refuses_154 rfl ?_
  refine zi_icmp_ne (pc := 156) (tgt := 234) F dL_refuses_156 (by decide) (fun h => absurd h (by decide)) (fun _ => ?_)
  refine zi_aload_n (pc := 159) F dL_refuses_159 0 rfl ?_
  refine zi_iconst (pc := 160) (v := 4) F dL_refuses_160 rfl ?_
  refine zi_iload (pc := 161) F dL_refuses_161 5 rfl ?_
  refine zi_iconst (pc := 163) (v := 1) F dL_refuses_163 rfl ?_
  refine zi_icmp_ne (pc := 164) (tgt := 171) F dL_refuses_164 (by decide) (fun _ => ?_) (fun h => absurd h (by decide))
  refine zi_iload (pc := 171) F dL_refuses_171 6 rfl ?_
  refine zi_iconst (pc := 173) (v := 0) F dL_refuses_173 rfl ?_
  refine zi_callQH (pc := 174) (rest := []) F hsx hao (cr_4 l hfl G L T E V M K hIT hIE hIM (-2147483648) 0 (Or.inl (by decide))) (vx_cwSW 4 F.1.2.2.2.2 gL_refuses_L_act rfl rfl rfl hd_L_act ⟨Nat.le_of_ble_eq_true rfl, Nat.le_of_ble_eq_true rfl⟩) [] [] (zw_nil _) (zw_nil _).symm rfl rfl (Nat.le_of_ble_eq_true rfl) dL_refuses_174 ⟨Nat.le_of_ble_eq_true rfl, Nat.le_of_ble_eq_true rfl⟩ ?_
  show zW p l e rmL_refuses s m args below meth c 59 354 Q G.1 A 9 (zWL G L T E V M K) [(0, .ref (G.2.2 0 0)), (1, .int (T 4 0)), (2, .int (E 5 0)), (3, .int (L 6 0)), (4, .int 2147483647), (5, .int 3), (6, .int (-2147483648)), (7, .int 1), (8, .int 13)] 177 [.int (-71)]
  refine zi_bipush (pc := 177) (v := (-71)) F dL_refuses_177 rfl ?_
  refine zi_icmp_ne (pc := 179) (tgt := 234) F dL_refuses_179 (by decide) (fun h => absurd h (by decide)) (fun _ => ?_)
  refine zi_aload_n (pc := 182) F dL_refuses_182 0 rfl ?_
  refine zi_iconst (pc := 183) (v := 0) F dL_refuses_183 rfl ?_
  refine zi_bipush (pc := 184) (v := 12) F dL_refuses_184 rfl ?_
  refine zi_iload (pc := 186) F dL_refuses_186 5 rfl ?_
  refine zi_iconst (pc := 188) (v := 1) F dL_refuses_188 rfl ?_
  refine zi_icmp_ne (pc := 189) (tgt := 196) F dL_refuses_189 (by decide) (fun _ => ?_) (fun h => absurd h (by decide))
  refine zi_iload (pc := 196) F dL_refuses_196 6 rfl ?_
  refine zi_callQH (pc := 198) (rest := []) F hsx hao (cr_0s l hfl G L T E V M K hIT hIE hIM (-2147483648) (Or.inl (by decide))) (vx_cwSW 4 F.1.2.2.2.2 gL_refuses_L_act rfl rfl rfl hd_L_act ⟨Nat.le_of_ble_eq_true rfl, Nat.le_of_ble_eq_true rfl⟩) [] [] (zw_nil _) (zw_nil _).symm rfl rfl (Nat.le_of_ble_eq_true rfl) dL_refuses_198 ⟨Nat.le_of_ble_eq_true rfl, Nat.le_of_ble_eq_true rfl⟩ ?_
  show zW p l e rmL_refuses s m args below meth c 60 360 Q G.1 A 9 (zWL G L T E V M K) [(0, .ref (G.2.2 0 0)), (1, .int (T 4 0)), (2, .int (E 5 0)), (3, .int (L 6 0)), (4, .int 2147483647), (5, .int 3), (6, .int (-2147483648)), (7, .int 1), (8, .int 13)] 201 [.int (-73)]
  refine zi_bipush (pc := 201) (v := (-73)) F dL_refuses_201 rfl ?_
  refine zi_icmp_ne (pc := 203) (tgt := 234) F dL_refuses_203 (by decide) (fun h => absurd h (by decide)) (fun _ => ?_)
  refine zi_aload_n (pc := 206) F dL_refuses_206 0 rfl ?_
  refine zi_iconst (pc := 207) (v := 0) F dL_refuses_207 rfl ?_
  refine zi_bipush (pc := 208) (v := 13) F dL_refuses_208 rfl ?_
  refine zi_iload (pc := 210) F dL_refuses_210 5 rfl ?_
  refine zi_iconst (pc := 212) (v := 1) F dL_refuses_212 rfl ?_
  refine zi_icmp_ne (pc := 213) (tgt := 220) F dL_refuses_213 (by decide) (fun _ => ?_) (fun h => absurd h (by decide))
  refine zi_iload (pc := 220) F dL_refuses_220 6 rfl ?_
  refine zi_callQH (pc := 222) (rest := []) F hsx hao (cr_0d l hfl G L T E V M K hIT hIE hIM (-2147483648) (Or.inl (by decide))) (vx_cwSW 4 F.1.2.2.2.2 gL_refuses_L_act rfl rfl rfl hd_L_act ⟨Nat.le_of_ble_eq_true rfl, Nat.le_of_ble_eq_true rfl⟩) [] [] (zw_nil _) (zw_nil _).symm rfl rfl (Nat.le_of_ble_eq_true rfl) dL_refuses_222 ⟨Nat.le_of_ble_eq_true rfl, Nat.le_of_ble_eq_true rfl⟩ ?_
  show zW p l e rmL_refuses s m args below meth c 61 366 Q G.1 A 9 (zWL G L T E V M K) [(0, .ref (G.2.2 0 0)), (1, .int (T 4 0)), (2, .int (E 5 0)), (3, .int (L 6 0)), (4, .int 2147483647), (5, .int 3), (6, .int (-2147483648)), (7, .int 1), (8, .int 13)] 225 [.int (-73)]
  refine zi_bipush (pc := 225) (v := (-73)) F dL_refuses_225 rfl ?_
  refine zi_icmp_ne (pc := 227) (tgt := 234) F dL_refuses_227 (by decide) (fun h => absurd h (by decide)) (fun _ => ?_)
  refine zi_iconst (pc := 230) (v := 1) F dL_refuses_230 rfl ?_
  refine zi_goto (pc := 231) (tgt := 235) F dL_refuses_231 (by decide) ?_
  refine zi_istore (pc := 235) (lv' := [(0, .ref (G.2.2 0 0)), (1, .int (T 4 0)), (2, .int (E 5 0)), (3, .int (L 6 0)), (4, .int 2147483647), (5, .int 3), (6, .int (-2147483648)), (7, .int 1), (8, .int 13)]) F dL_refuses_235 (by decide) rfl ?_
  refine zi_iconst (pc := 237) (v := 5) F dL_refuses_237 rfl ?_
  refine zi_istore (pc := 238) (lv' := [(0, .ref (G.2.2 0 0)), (1, .int (T 4 0)), (2, .int (E 5 0)), (3, .int (L 6 0)), (4, .int 2147483647), (5, .int 3), (6, .int (-2147483648)), (7, .int 1), (8, .int 5)]) F dL_refuses_238 (by decide) rfl ?_
  exact kk
set_option maxHeartbeats 4000000 in
set_option maxRecDepth 100000 in
theorem sg_rf_3_w5 {p : Program} {l : Launch} {e : Env} {s : State} {m : MethodId} {args : Array Value} {below : List Frame} {meth : Method} {c : Code} {Q : State → Prop} {A : Nat → Prop} {G : zG_t} {L T E V M K : zS_t} (hfl : l.stackTraces = false) (hIT : zIT T) (hIE : zIE E) (hIM : zIM M) (F : zF p m c cL_refuses 9 s args wsL_refuses RL G.1 (zty G) A) (hsx : zSx s) (hao : zAOA s) (kk : zW p l e rmL_refuses s m args below meth c 62 372 Q G.1 A 9 (zWL G L T E V M K) [(0, .ref (G.2.2 0 0)), (1, .int (T 4 0)), (2, .int (E 5 0)), (3, .int (L 6 0)), (4, .int 2147483647), (5, .int 3), (6, .int (-2147483648)), (7, .int 1), (8, .int 5)] 318 []) : zW p l e rmL_refuses s m args below meth c 61 366 Q G.1 A 9 (zWL G L T E V M K) [(0, .ref (G.2.2 0 0)), (1, .int (T 4 0)), (2, .int (E 5 0)), (3, .int (L 6 0)), (4, .int 2147483647), (5, .int 3), (6, .int (-2147483648)), (7, .int 1), (8, .int 5)] 240 [] := by
  have k_max : Int32.toInt 2147483647 = 2147483647 := by decide
  have hmaxT : T 4 0 ≤ 2147483647 := Int32.le_iff_toInt_le.mpr (by rw [k_max]; have h9 := hIT.2; omega)
  have hmaxE : E 5 0 ≤ 2147483647 := Int32.le_iff_toInt_le.mpr (by rw [k_max]; have h9 := hIE.1.2; omega)
  refine zi_iload (pc := 240) F dL_refuses_240 8 rfl ?_
  refine zi_bipush (pc := 242) (v := 9) F dL_refuses_242 rfl ?_
  refine zi_icmp_ge (pc := 244) (tgt := 324) F dL_refuses_244 (by decide) (fun h => absurd h (by decide)) (fun _ => ?_)
  refine zi_iload (pc := 247) F dL_refuses_247 7 rfl ?_
  refine zi_if_eq (pc := 249) (tgt := 315) F dL_refuses_249 (by decide) (fun h => absurd h (by decide)) (fun _ => ?_)
  refine zi_aload_n (pc := 252) F dL_refuses_252 0 rfl ?_
  refine zi_iload (pc := 253) F dL_refuses_253 8 rfl ?_
  refine zi_iload (pc := 255) F dL_refuses_255 5 rfl ?_
  refine zi_iconst (pc := 257) (v := 1) F dL_refuses_257 rfl ?_
  refine zi_icmp_ne (pc := 258) (tgt := 265) F dL_refuses_258 (by decide) (fun _ => ?_) (fun h => absurd h (by decide))
  refine zi_iload (pc := 265) F dL_refuses_265 6 rfl ?_
  refine zi_iconst (pc := 267) (v := (-1)) F dL_refuses_267 rfl ?_
  refine zi_callQH (pc := 268) (rest := []) F hsx hao (cr_5 l hfl G L T E V M K hIT hIE hIM (-2147483648) (-1) (Or.inl (by decide))) (vx_cwSW 4 F.1.2.2.2.2 gL_refuses_L_act rfl rfl rfl hd_L_act ⟨Nat.le_of_ble_eq_true rfl, Nat.le_of_ble_eq_true rfl⟩) [] [] (zw_nil _) (zw_nil _).symm rfl rfl (Nat.le_of_ble_eq_true rfl) dL_refuses_268 ⟨Nat.le_of_ble_eq_true rfl, Nat.le_of_ble_eq_true rfl⟩ ?_
  show zW p l e rmL_refuses s m args below meth c 62 372 Q G.1 A 9 (zWL G L T E V M K) [(0, .ref (G.2.2 0 0)), (1, .int (T 4 0)), (2, .int (E 5 0)), (3, .int (L 6 0)), (4, .int 2147483647), (5, .int 3), (6, .int (-2147483648)), (7, .int 1), (8, .int 5)] 271 [.int (-71)]
  refine zi_bipush (pc := 271) (v := (-71)) F dL_refuses_271 rfl ?_
  refine zi_icmp_ne (pc := 273) (tgt := 315) F dL_refuses_273 (by decide) (fun h => absurd h (by decide)) (fun _ => ?_)
  refine zi_iload (pc := 276) F dL_refuses_276 8 rfl ?_
  refine zi_iconst (pc := 278) (v := 5) F dL_refuses_278 rfl ?_
  refine zi_icmp_eq (pc := 279) (tgt := 311) F dL_refuses_279 (by decide) (fun _ => ?_) (fun h => absurd h (by decide))
  refine zi_iconst (pc := 311) (v := 1) F dL_refuses_311 rfl ?_
  refine zi_goto (pc := 312) (tgt := 316) F dL_refuses_312 (by decide) ?_
  refine zi_istore (pc := 316) (lv' := [(0, .ref (G.2.2 0 0)), (1, .int (T 4 0)), (2, .int (E 5 0)), (3, .int (L 6 0)), (4, .int 2147483647), (5, .int 3), (6, .int (-2147483648)), (7, .int 1), (8, .int 5)]) F dL_refuses_316 (by decide) rfl ?_
  exact kk
set_option maxHeartbeats 4000000 in
set_option maxRecDepth 100000 in
theorem sg_rf_3_w5i {p : Program} {l : Launch} {e : Env} {s : State} {m : MethodId} {args : Array Value} {below : List Frame} {meth : Method} {c : Code} {Q : State → Prop} {A : Nat → Prop} {G : zG_t} {L T E V M K : zS_t} (hfl : l.stackTraces = false) (hIT : zIT T) (hIE : zIE E) (hIM : zIM M) (F : zF p m c cL_refuses 9 s args wsL_refuses RL G.1 (zty G) A) (hsx : zSx s) (hao : zAOA s) (kk : zW p l e rmL_refuses s m args below meth c 62 372 Q G.1 A 9 (zWL G L T E V M K) [(0, .ref (G.2.2 0 0)), (1, .int (T 4 0)), (2, .int (E 5 0)), (3, .int (L 6 0)), (4, .int 2147483647), (5, .int 3), (6, .int (-2147483648)), (7, .int 1), (8, .int 6)] 240 []) : zW p l e rmL_refuses s m args below meth c 62 372 Q G.1 A 9 (zWL G L T E V M K) [(0, .ref (G.2.2 0 0)), (1, .int (T 4 0)), (2, .int (E 5 0)), (3, .int (L 6 0)), (4, .int 2147483647), (5, .int 3), (6, .int (-2147483648)), (7, .int 1), (8, .int 5)] 318 [] := by
  have k_max : Int32.toInt 2147483647 = 2147483647 := by decide
  have hmaxT : T 4 0 ≤ 2147483647 := Int32.le_iff_toInt_le.mpr (by rw [k_max]; have h9 := hIT.2; omega)
  have hmaxE : E 5 0 ≤ 2147483647 := Int32.le_iff_toInt_le.mpr (by rw [k_max]; have h9 := hIE.1.2; omega)
  refine zi_iinc (pc := 318) (lv' := [(0, .ref (G.2.2 0 0)), (1, .int (T 4 0)), (2, .int (E 5 0)), (3, .int (L 6 0)), (4, .int 2147483647), (5, .int 3), (6, .int (-2147483648)), (7, .int 1), (8, .int 6)]) F dL_refuses_318 8 rfl (by decide) (by decide) rfl ?_
  refine zi_goto (pc := 321) (tgt := 240) F dL_refuses_321 (by decide) ?_
  exact kk
set_option maxHeartbeats 4000000 in
set_option maxRecDepth 100000 in
theorem sg_rf_3_w6 {p : Program} {l : Launch} {e : Env} {s : State} {m : MethodId} {args : Array Value} {below : List Frame} {meth : Method} {c : Code} {Q : State → Prop} {A : Nat → Prop} {G : zG_t} {L T E V M K : zS_t} (hfl : l.stackTraces = false) (hIT : zIT T) (hIE : zIE E) (hIM : zIM M) (F : zF p m c cL_refuses 9 s args wsL_refuses RL G.1 (zty G) A) (hsx : zSx s) (hao : zAOA s) (kk : zW p l e rmL_refuses s m args below meth c 64 384 Q G.1 A 9 (zWL G L T E V M K) [(0, .ref (G.2.2 0 0)), (1, .int (T 4 0)), (2, .int (E 5 0)), (3, .int (L 6 0)), (4, .int 2147483647), (5, .int 3), (6, .int (-2147483648)), (7, .int 1), (8, .int 6)] 318 []) : zW p l e rmL_refuses s m args below meth c 62 372 Q G.1 A 9 (zWL G L T E V M K) [(0, .ref (G.2.2 0 0)), (1, .int (T 4 0)), (2, .int (E 5 0)), (3, .int (L 6 0)), (4, .int 2147483647), (5, .int 3), (6, .int (-2147483648)), (7, .int 1), (8, .int 6)] 240 [] := by
  have k_max : Int32.toInt 2147483647 = 2147483647 := by decide
  have hmaxT : T 4 0 ≤ 2147483647 := Int32.le_iff_toInt_le.mpr (by rw [k_max]; have h9 := hIT.2; omega)
  have hmaxE : E 5 0 ≤ 2147483647 := Int32.le_iff_toInt_le.mpr (by rw [k_max]; have h9 := hIE.1.2; omega)
  refine zi_iload (pc := 240) F dL_refuses_240 8 rfl ?_
  refine zi_bipush (pc := 242) (v := 9) F dL_refuses_242 rfl ?_
  refine zi_icmp_ge (pc := 244) (tgt := 324) F dL_refuses_244 (by decide) (fun h => absurd h (by decide)) (fun _ => ?_)
  refine zi_iload (pc := 247) F dL_refuses_247 7 rfl ?_
  refine zi_if_eq (pc := 249) (tgt := 315) F dL_refuses_249 (by decide) (fun h => absurd h (by decide)) (fun _ => ?_)
  refine zi_aload_n (pc := 252) F dL_refuses_252 0 rfl ?_
  refine zi_iload (pc := 253) F dL_refuses_253 8 rfl ?_
  refine zi_iload (pc := 255) F dL_refuses_255 5 rfl ?_
  refine zi_iconst (pc := 257) (v := 1) F dL_refuses_257 rfl ?_
  refine zi_icmp_ne (pc := 258) (tgt := 265) F dL_refuses_258 (by decide) (fun _ => ?_) (fun h => absurd h (by decide))
  refine zi_iload (pc := 265) F dL_refuses_265 6 rfl ?_
  refine zi_iconst (pc := 267) (v := (-1)) F dL_refuses_267 rfl ?_
  refine zi_callQH (pc := 268) (rest := []) F hsx hao (cr_6 l hfl G L T E V M K hIT hIE hIM (-2147483648) (-1) (Or.inl (by decide))) (vx_cwSW 4 F.1.2.2.2.2 gL_refuses_L_act rfl rfl rfl hd_L_act ⟨Nat.le_of_ble_eq_true rfl, Nat.le_of_ble_eq_true rfl⟩) [] [] (zw_nil _) (zw_nil _).symm rfl rfl (Nat.le_of_ble_eq_true rfl) dL_refuses_268 ⟨Nat.le_of_ble_eq_true rfl, Nat.le_of_ble_eq_true rfl⟩ ?_
  show zW p l e rmL_refuses s m args below meth c 63 378 Q G.1 A 9 (zWL G L T E V M K) [(0, .ref (G.2.2 0 0)), (1, .int (T 4 0)), (2, .int (E 5 0)), (3, .int (L 6 0)), (4, .int 2147483647), (5, .int 3), (6, .int (-2147483648)), (7, .int 1), (8, .int 6)] 271 [.int (-71)]
  refine zi_bipush (pc := 271) (v := (-71)) F dL_refuses_271 rfl ?_
  refine zi_icmp_ne (pc := 273) (tgt := 315) F dL_refuses_273 (by decide) (fun h => absurd h (by decide)) (fun _ => ?_)
  refine zi_iload (pc := 276) F dL_refuses_276 8 rfl ?_
  refine zi_iconst (pc := 278) (v := 5) F dL_refuses_278 rfl ?_
  refine zi_icmp_eq (pc := 279) (tgt := 311) F dL_refuses_279 (by decide) (fun h => absurd h (by decide)) (fun _ => ?_)
  refine zi_iload_n (pc := 282) F dL_refuses_282 1 rfl ?_
  refine zi_if_eq (pc := 283) (tgt := 311) F dL_refuses_283 (by decide) (fun _ => ?_) (fun h0 => ?_)
  · skip
    refine zi_iconst (pc := 311) (v := 1) F dL_refuses_311 rfl ?_
    refine zi_goto (pc := 312) (tgt := 316) F dL_refuses_312 (by decide) ?_
    refine zi_istore (pc := 316) (lv' := [(0, .ref (G.2.2 0 0)), (1, .int (T 4 0)), (2, .int (E 5 0)), (3, .int (L 6 0)), (4, .int 2147483647), (5, .int 3), (6, .int (-2147483648)), (7, .int 1), (8, .int 6)]) F dL_refuses_316 (by decide) rfl ?_
    refine zi_widen (Nat.le_of_ble_eq_true rfl) (Nat.le_of_ble_eq_true rfl) kk
  · have h0 : ¬ T 4 0 ≤ 0 := fun h9 => by
      have t1 := zt_le h9
      have t2 := zt_ne h0
      have k_0 : Int32.toInt 0 = 0 := by decide
      obtain ⟨i1, i2⟩ := hIT
      omega
    refine zi_aload_n (pc := 286) F dL_refuses_286 0 rfl ?_
    refine zi_iload (pc := 287) F dL_refuses_287 8 rfl ?_
    refine zi_iconst (pc := 289) (v := 0) F dL_refuses_289 rfl ?_
    refine zi_iload (pc := 290) F dL_refuses_290 5 rfl ?_
    refine zi_iconst (pc := 292) (v := 1) F dL_refuses_292 rfl ?_
    refine zi_icmp_ne (pc := 293) (tgt := 301) F dL_refuses_293 (by decide) (fun _ => ?_) (fun h => absurd h (by decide))
    refine zi_iload (pc := 301) F dL_refuses_301 6 rfl ?_
    refine zi_callQH (pc := 303) (rest := []) F hsx hao (cr_6l l hfl G L T E V M K hIT hIE hIM (-2147483648) h0 (Or.inl (by decide))) (vx_cwSW 4 F.1.2.2.2.2 gL_refuses_L_act rfl rfl rfl hd_L_act ⟨Nat.le_of_ble_eq_true rfl, Nat.le_of_ble_eq_true rfl⟩) [] [] (zw_nil _) (zw_nil _).symm rfl rfl (Nat.le_of_ble_eq_true rfl) dL_refuses_303 ⟨Nat.le_of_ble_eq_true rfl, Nat.le_of_ble_eq_true rfl⟩ ?_
    show zW p l e rmL_refuses s m args below meth c 64 384 Q G.1 A 9 (zWL G L T E V M K) [(0, .ref (G.2.2 0 0)), (1, .int (T 4 0)), (2, .int (E 5 0)), (3, .int (L 6 0)), (4, .int 2147483647), (5, .int 3), (6, .int (-2147483648)), (7, .int 1), (8, .int 6)] 306 [.int (-72)]
    refine zi_bipush (pc := 306) (v := (-72)) F dL_refuses_306 rfl ?_
    refine zi_icmp_ne (pc := 308) (tgt := 315) F dL_refuses_308 (by decide) (fun h => absurd h (by decide)) (fun _ => ?_)
    refine zi_iconst (pc := 311) (v := 1) F dL_refuses_311 rfl ?_
    refine zi_goto (pc := 312) (tgt := 316) F dL_refuses_312 (by decide) ?_
    refine zi_istore (pc := 316) (lv' := [(0, .ref (G.2.2 0 0)), (1, .int (T 4 0)), (2, .int (E 5 0)), (3, .int (L 6 0)), (4, .int 2147483647), (5, .int 3), (6, .int (-2147483648)), (7, .int 1), (8, .int 6)]) F dL_refuses_316 (by decide) rfl ?_
    exact kk
set_option maxHeartbeats 4000000 in
set_option maxRecDepth 100000 in
theorem sg_rf_3_w6i {p : Program} {l : Launch} {e : Env} {s : State} {m : MethodId} {args : Array Value} {below : List Frame} {meth : Method} {c : Code} {Q : State → Prop} {A : Nat → Prop} {G : zG_t} {L T E V M K : zS_t} (hfl : l.stackTraces = false) (hIT : zIT T) (hIE : zIE E) (hIM : zIM M) (F : zF p m c cL_refuses 9 s args wsL_refuses RL G.1 (zty G) A) (hsx : zSx s) (hao : zAOA s) (kk : zW p l e rmL_refuses s m args below meth c 64 384 Q G.1 A 9 (zWL G L T E V M K) [(0, .ref (G.2.2 0 0)), (1, .int (T 4 0)), (2, .int (E 5 0)), (3, .int (L 6 0)), (4, .int 2147483647), (5, .int 3), (6, .int (-2147483648)), (7, .int 1), (8, .int 7)] 240 []) : zW p l e rmL_refuses s m args below meth c 64 384 Q G.1 A 9 (zWL G L T E V M K) [(0, .ref (G.2.2 0 0)), (1, .int (T 4 0)), (2, .int (E 5 0)), (3, .int (L 6 0)), (4, .int 2147483647), (5, .int 3), (6, .int (-2147483648)), (7, .int 1), (8, .int 6)] 318 [] := by
  have k_max : Int32.toInt 2147483647 = 2147483647 := by decide
  have hmaxT : T 4 0 ≤ 2147483647 := Int32.le_iff_toInt_le.mpr (by rw [k_max]; have h9 := hIT.2; omega)
  have hmaxE : E 5 0 ≤ 2147483647 := Int32.le_iff_toInt_le.mpr (by rw [k_max]; have h9 := hIE.1.2; omega)
  refine zi_iinc (pc := 318) (lv' := [(0, .ref (G.2.2 0 0)), (1, .int (T 4 0)), (2, .int (E 5 0)), (3, .int (L 6 0)), (4, .int 2147483647), (5, .int 3), (6, .int (-2147483648)), (7, .int 1), (8, .int 7)]) F dL_refuses_318 8 rfl (by decide) (by decide) rfl ?_
  refine zi_goto (pc := 321) (tgt := 240) F dL_refuses_321 (by decide) ?_
  exact kk
set_option maxHeartbeats 4000000 in
set_option maxRecDepth 100000 in
theorem sg_rf_3_w7 {p : Program} {l : Launch} {e : Env} {s : State} {m : MethodId} {args : Array Value} {below : List Frame} {meth : Method} {c : Code} {Q : State → Prop} {A : Nat → Prop} {G : zG_t} {L T E V M K : zS_t} (hfl : l.stackTraces = false) (hIT : zIT T) (hIE : zIE E) (hIM : zIM M) (F : zF p m c cL_refuses 9 s args wsL_refuses RL G.1 (zty G) A) (hsx : zSx s) (hao : zAOA s) (kk : zW p l e rmL_refuses s m args below meth c 66 396 Q G.1 A 9 (zWL G L T E V M K) [(0, .ref (G.2.2 0 0)), (1, .int (T 4 0)), (2, .int (E 5 0)), (3, .int (L 6 0)), (4, .int 2147483647), (5, .int 3), (6, .int (-2147483648)), (7, .int 1), (8, .int 7)] 318 []) : zW p l e rmL_refuses s m args below meth c 64 384 Q G.1 A 9 (zWL G L T E V M K) [(0, .ref (G.2.2 0 0)), (1, .int (T 4 0)), (2, .int (E 5 0)), (3, .int (L 6 0)), (4, .int 2147483647), (5, .int 3), (6, .int (-2147483648)), (7, .int 1), (8, .int 7)] 240 [] := by
  have k_max : Int32.toInt 2147483647 = 2147483647 := by decide
  have hmaxT : T 4 0 ≤ 2147483647 := Int32.le_iff_toInt_le.mpr (by rw [k_max]; have h9 := hIT.2; omega)
  have hmaxE : E 5 0 ≤ 2147483647 := Int32.le_iff_toInt_le.mpr (by rw [k_max]; have h9 := hIE.1.2; omega)
  refine zi_iload (pc := 240) F dL_refuses_240 8 rfl ?_
  refine zi_bipush (pc := 242) (v := 9) F dL_refuses_242 rfl ?_
  refine zi_icmp_ge (pc := 244) (tgt := 324) F dL_refuses_244 (by decide) (fun h => absurd h (by decide)) (fun _ => ?_)
  refine zi_iload (pc := 247) F dL_refuses_247 7 rfl ?_
  refine zi_if_eq (pc := 249) (tgt := 315) F dL_refuses_249 (by decide) (fun h => absurd h (by decide)) (fun _ => ?_)
  refine zi_aload_n (pc := 252) F dL_refuses_252 0 rfl ?_
  refine zi_iload (pc := 253) F dL_refuses_253 8 rfl ?_
  refine zi_iload (pc := 255) F dL_refuses_255 5 rfl ?_
  refine zi_iconst (pc := 257) (v := 1) F dL_refuses_257 rfl ?_
  refine zi_icmp_ne (pc := 258) (tgt := 265) F dL_refuses_258 (by decide) (fun _ => ?_) (fun h => absurd h (by decide))
  refine zi_iload (pc := 265) F dL_refuses_265 6 rfl ?_
  refine zi_iconst (pc := 267) (v := (-1)) F dL_refuses_267 rfl ?_
  refine zi_callQH (pc := 268) (rest := []) F hsx hao (cr_7 l hfl G L T E V M K hIT hIE hIM (-2147483648) (-1) (Or.inl (by decide))) (vx_cwSW 4 F.1.2.2.2.2 gL_refuses_L_act rfl rfl rfl hd_L_act ⟨Nat.le_of_ble_eq_true rfl, Nat.le_of_ble_eq_true rfl⟩) [] [] (zw_nil _) (zw_nil _).symm rfl rfl (Nat.le_of_ble_eq_true rfl) dL_refuses_268 ⟨Nat.le_of_ble_eq_true rfl, Nat.le_of_ble_eq_true rfl⟩ ?_
  show zW p l e rmL_refuses s m args below meth c 65 390 Q G.1 A 9 (zWL G L T E V M K) [(0, .ref (G.2.2 0 0)), (1, .int (T 4 0)), (2, .int (E 5 0)), (3, .int (L 6 0)), (4, .int 2147483647), (5, .int 3), (6, .int (-2147483648)), (7, .int 1), (8, .int 7)] 271 [.int (-71)]
  refine zi_bipush (pc := 271) (v := (-71)) F dL_refuses_271 rfl ?_
  refine zi_icmp_ne (pc := 273) (tgt := 315) F dL_refuses_273 (by decide) (fun h => absurd h (by decide)) (fun _ => ?_)
  refine zi_iload (pc := 276) F dL_refuses_276 8 rfl ?_
  refine zi_iconst (pc := 278) (v := 5) F dL_refuses_278 rfl ?_
  refine zi_icmp_eq (pc := 279) (tgt := 311) F dL_refuses_279 (by decide) (fun h => absurd h (by decide)) (fun _ => ?_)
  refine zi_iload_n (pc := 282) F dL_refuses_282 1 rfl ?_
  refine zi_if_eq (pc := 283) (tgt := 311) F dL_refuses_283 (by decide) (fun _ => ?_) (fun h0 => ?_)
  · skip
    refine zi_iconst (pc := 311) (v := 1) F dL_refuses_311 rfl ?_
    refine zi_goto (pc := 312) (tgt := 316) F dL_refuses_312 (by decide) ?_
    refine zi_istore (pc := 316) (lv' := [(0, .ref (G.2.2 0 0)), (1, .int (T 4 0)), (2, .int (E 5 0)), (3, .int (L 6 0)), (4, .int 2147483647), (5, .int 3), (6, .int (-2147483648)), (7, .int 1), (8, .int 7)]) F dL_refuses_316 (by decide) rfl ?_
    refine zi_widen (Nat.le_of_ble_eq_true rfl) (Nat.le_of_ble_eq_true rfl) kk
  · have h0 : ¬ T 4 0 ≤ 0 := fun h9 => by
      have t1 := zt_le h9
      have t2 := zt_ne h0
      have k_0 : Int32.toInt 0 = 0 := by decide
      obtain ⟨i1, i2⟩ := hIT
      omega
    refine zi_aload_n (pc := 286) F dL_refuses_286 0 rfl ?_
    refine zi_iload (pc := 287) F dL_refuses_287 8 rfl ?_
    refine zi_iconst (pc := 289) (v := 0) F dL_refuses_289 rfl ?_
    refine zi_iload (pc := 290) F dL_refuses_290 5 rfl ?_
    refine zi_iconst (pc := 292) (v := 1) F dL_refuses_292 rfl ?_
    refine zi_icmp_ne (pc := 293) (tgt := 301) F dL_refuses_293 (by decide) (fun _ => ?_) (fun h => absurd h (by decide))
    refine zi_iload (pc := 301) F dL_refuses_301 6 rfl ?_
    refine zi_callQH (pc := 303) (rest := []) F hsx hao (cr_7l l hfl G L T E V M K hIT hIE hIM (-2147483648) h0 (Or.inl (by decide))) (vx_cwSW 4 F.1.2.2.2.2 gL_refuses_L_act rfl rfl rfl hd_L_act ⟨Nat.le_of_ble_eq_true rfl, Nat.le_of_ble_eq_true rfl⟩) [] [] (zw_nil _) (zw_nil _).symm rfl rfl (Nat.le_of_ble_eq_true rfl) dL_refuses_303 ⟨Nat.le_of_ble_eq_true rfl, Nat.le_of_ble_eq_true rfl⟩ ?_
    show zW p l e rmL_refuses s m args below meth c 66 396 Q G.1 A 9 (zWL G L T E V M K) [(0, .ref (G.2.2 0 0)), (1, .int (T 4 0)), (2, .int (E 5 0)), (3, .int (L 6 0)), (4, .int 2147483647), (5, .int 3), (6, .int (-2147483648)), (7, .int 1), (8, .int 7)] 306 [.int (-72)]
    refine zi_bipush (pc := 306) (v := (-72)) F dL_refuses_306 rfl ?_
    refine zi_icmp_ne (pc := 308) (tgt := 315) F dL_refuses_308 (by decide) (fun h => absurd h (by decide)) (fun _ => ?_)
    refine zi_iconst (pc := 311) (v := 1) F dL_refuses_311 rfl ?_
    refine zi_goto (pc := 312) (tgt := 316) F dL_refuses_312 (by decide) ?_
    refine zi_istore (pc := 316) (lv' := [(0, .ref (G.2.2 0 0)), (1, .int (T 4 0)), (2, .int (E 5 0)), (3, .int (L 6 0)), (4, .int 2147483647), (5, .int 3), (6, .int (-2147483648)), (7, .int 1), (8, .int 7)]) F dL_refuses_316 (by decide) rfl ?_
    exact kk
set_option maxHeartbeats 4000000 in
set_option maxRecDepth 100000 in
theorem sg_rf_3_w7i {p : Program} {l : Launch} {e : Env} {s : State} {m : MethodId} {args : Array Value} {below : List Frame} {meth : Method} {c : Code} {Q : State → Prop} {A : Nat → Prop} {G : zG_t} {L T E V M K : zS_t} (hfl : l.stackTraces = false) (hIT : zIT T) (hIE : zIE E) (hIM : zIM M) (F : zF p m c cL_refuses 9 s args wsL_refuses RL G.1 (zty G) A) (hsx : zSx s) (hao : zAOA s) (kk : zW p l e rmL_refuses s m args below meth c 66 396 Q G.1 A 9 (zWL G L T E V M K) [(0, .ref (G.2.2 0 0)), (1, .int (T 4 0)), (2, .int (E 5 0)), (3, .int (L 6 0)), (4, .int 2147483647), (5, .int 3), (6, .int (-2147483648)), (7, .int 1), (8, .int 8)] 240 []) : zW p l e rmL_refuses s m args below meth c 66 396 Q G.1 A 9 (zWL G L T E V M K) [(0, .ref (G.2.2 0 0)), (1, .int (T 4 0)), (2, .int (E 5 0)), (3, .int (L 6 0)), (4, .int 2147483647), (5, .int 3), (6, .int (-2147483648)), (7, .int 1), (8, .int 7)] 318 [] := by
  have k_max : Int32.toInt 2147483647 = 2147483647 := by decide
  have hmaxT : T 4 0 ≤ 2147483647 := Int32.le_iff_toInt_le.mpr (by rw [k_max]; have h9 := hIT.2; omega)
  have hmaxE : E 5 0 ≤ 2147483647 := Int32.le_iff_toInt_le.mpr (by rw [k_max]; have h9 := hIE.1.2; omega)
  refine zi_iinc (pc := 318) (lv' := [(0, .ref (G.2.2 0 0)), (1, .int (T 4 0)), (2, .int (E 5 0)), (3, .int (L 6 0)), (4, .int 2147483647), (5, .int 3), (6, .int (-2147483648)), (7, .int 1), (8, .int 8)]) F dL_refuses_318 8 rfl (by decide) (by decide) rfl ?_
  refine zi_goto (pc := 321) (tgt := 240) F dL_refuses_321 (by decide) ?_
  exact kk
set_option maxHeartbeats 4000000 in
set_option maxRecDepth 100000 in
theorem sg_rf_3_w8 {p : Program} {l : Launch} {e : Env} {s : State} {m : MethodId} {args : Array Value} {below : List Frame} {meth : Method} {c : Code} {Q : State → Prop} {A : Nat → Prop} {G : zG_t} {L T E V M K : zS_t} (hfl : l.stackTraces = false) (hIT : zIT T) (hIE : zIE E) (hIM : zIM M) (F : zF p m c cL_refuses 9 s args wsL_refuses RL G.1 (zty G) A) (hsx : zSx s) (hao : zAOA s) (kk : zW p l e rmL_refuses s m args below meth c 68 408 Q G.1 A 9 (zWL G L T E V M K) [(0, .ref (G.2.2 0 0)), (1, .int (T 4 0)), (2, .int (E 5 0)), (3, .int (L 6 0)), (4, .int 2147483647), (5, .int 3), (6, .int (-2147483648)), (7, .int 1), (8, .int 8)] 318 []) : zW p l e rmL_refuses s m args below meth c 66 396 Q G.1 A 9 (zWL G L T E V M K) [(0, .ref (G.2.2 0 0)), (1, .int (T 4 0)), (2, .int (E 5 0)), (3, .int (L 6 0)), (4, .int 2147483647), (5, .int 3), (6, .int (-2147483648)), (7, .int 1), (8, .int 8)] 240 [] := by
  have k_max : Int32.toInt 2147483647 = 2147483647 := by decide
  have hmaxT : T 4 0 ≤ 2147483647 := Int32.le_iff_toInt_le.mpr (by rw [k_max]; have h9 := hIT.2; omega)
  have hmaxE : E 5 0 ≤ 2147483647 := Int32.le_iff_toInt_le.mpr (by rw [k_max]; have h9 := hIE.1.2; omega)
  refine zi_iload (pc := 240) F dL_refuses_240 8 rfl ?_
  refine zi_bipush (pc := 242) (v := 9) F dL_refuses_242 rfl ?_
  refine zi_icmp_ge (pc := 244) (tgt := 324) F dL_refuses_244 (by decide) (fun h => absurd h (by decide)) (fun _ => ?_)
  refine zi_iload (pc := 247) F dL_refuses_247 7 rfl ?_
  refine zi_if_eq (pc := 249) (tgt := 315) F dL_refuses_249 (by decide) (fun h => absurd h (by decide)) (fun _ => ?_)
  refine zi_aload_n (pc := 252) F dL_refuses_252 0 rfl ?_
  refine zi_iload (pc := 253) F dL_refuses_253 8 rfl ?_
  refine zi_iload (pc := 255) F dL_refuses_255 5 rfl ?_
  refine zi_iconst (pc := 257) (v := 1) F dL_refuses_257 rfl ?_
  refine zi_icmp_ne (pc := 258) (tgt := 265) F dL_refuses_258 (by decide) (fun _ => ?_) (fun h => absurd h (by decide))
  refine zi_iload (pc := 265) F dL_refuses_265 6 rfl ?_
  refine zi_iconst (pc := 267) (v := (-1)) F dL_refuses_267 rfl ?_
  refine zi_callQH (pc := 268) (rest := []) F hsx hao (cr_8 l hfl G L T E V M K hIT hIE hIM (-2147483648) (-1) (Or.inl (by decide))) (vx_cwSW 4 F.1.2.2.2.2 gL_refuses_L_act rfl rfl rfl hd_L_act ⟨Nat.le_of_ble_eq_true rfl, Nat.le_of_ble_eq_true rfl⟩) [] [] (zw_nil _) (zw_nil _).symm rfl rfl (Nat.le_of_ble_eq_true rfl) dL_refuses_268 ⟨Nat.le_of_ble_eq_true rfl, Nat.le_of_ble_eq_true rfl⟩ ?_
  show zW p l e rmL_refuses s m args below meth c 67 402 Q G.1 A 9 (zWL G L T E V M K) [(0, .ref (G.2.2 0 0)), (1, .int (T 4 0)), (2, .int (E 5 0)), (3, .int (L 6 0)), (4, .int 2147483647), (5, .int 3), (6, .int (-2147483648)), (7, .int 1), (8, .int 8)] 271 [.int (-71)]
  refine zi_bipush (pc := 271) (v := (-71)) F dL_refuses_271 rfl ?_
  refine zi_icmp_ne (pc := 273) (tgt := 315) F dL_refuses_273 (by decide) (fun h => absurd h (by decide)) (fun _ => ?_)
  refine zi_iload (pc := 276) F dL_refuses_276 8 rfl ?_
  refine zi_iconst (pc := 278) (v := 5) F dL_refuses_278 rfl ?_
  refine zi_icmp_eq (pc := 279) (tgt := 311) F dL_refuses_279 (by decide) (fun h => absurd h (by decide)) (fun _ => ?_)
  refine zi_iload_n (pc := 282) F dL_refuses_282 1 rfl ?_
  refine zi_if_eq (pc := 283) (tgt := 311) F dL_refuses_283 (by decide) (fun _ => ?_) (fun h0 => ?_)
  · skip
    refine zi_iconst (pc := 311) (v := 1) F dL_refuses_311 rfl ?_
    refine zi_goto (pc := 312) (tgt := 316) F dL_refuses_312 (by decide) ?_
    refine zi_istore (pc := 316) (lv' := [(0, .ref (G.2.2 0 0)), (1, .int (T 4 0)), (2, .int (E 5 0)), (3, .int (L 6 0)), (4, .int 2147483647), (5, .int 3), (6, .int (-2147483648)), (7, .int 1), (8, .int 8)]) F dL_refuses_316 (by decide) rfl ?_
    refine zi_widen (Nat.le_of_ble_eq_true rfl) (Nat.le_of_ble_eq_true rfl) kk
  · have h0 : ¬ T 4 0 ≤ 0 := fun h9 => by
      have t1 := zt_le h9
      have t2 := zt_ne h0
      have k_0 : Int32.toInt 0 = 0 := by decide
      obtain ⟨i1, i2⟩ := hIT
      omega
    refine zi_aload_n (pc := 286) F dL_refuses_286 0 rfl ?_
    refine zi_iload (pc := 287) F dL_refuses_287 8 rfl ?_
    refine zi_iconst (pc := 289) (v := 0) F dL_refuses_289 rfl ?_
    refine zi_iload (pc := 290) F dL_refuses_290 5 rfl ?_
    refine zi_iconst (pc := 292) (v := 1) F dL_refuses_292 rfl ?_
    refine zi_icmp_ne (pc := 293) (tgt := 301) F dL_refuses_293 (by decide) (fun _ => ?_) (fun h => absurd h (by decide))
    refine zi_iload (pc := 301) F dL_refuses_301 6 rfl ?_
    refine zi_callQH (pc := 303) (rest := []) F hsx hao (cr_8l l hfl G L T E V M K hIT hIE hIM (-2147483648) h0 (Or.inl (by decide))) (vx_cwSW 4 F.1.2.2.2.2 gL_refuses_L_act rfl rfl rfl hd_L_act ⟨Nat.le_of_ble_eq_true rfl, Nat.le_of_ble_eq_true rfl⟩) [] [] (zw_nil _) (zw_nil _).symm rfl rfl (Nat.le_of_ble_eq_true rfl) dL_refuses_303 ⟨Nat.le_of_ble_eq_true rfl, Nat.le_of_ble_eq_true rfl⟩ ?_
    show zW p l e rmL_refuses s m args below meth c 68 408 Q G.1 A 9 (zWL G L T E V M K) [(0, .ref (G.2.2 0 0)), (1, .int (T 4 0)), (2, .int (E 5 0)), (3, .int (L 6 0)), (4, .int 2147483647), (5, .int 3), (6, .int (-2147483648)), (7, .int 1), (8, .int 8)] 306 [.int (-72)]
    refine zi_bipush (pc := 306) (v := (-72)) F dL_refuses_306 rfl ?_
    refine zi_icmp_ne (pc := 308) (tgt := 315) F dL_refuses_308 (by decide) (fun h => absurd h (by decide)) (fun _ => ?_)
    refine zi_iconst (pc := 311) (v := 1) F dL_refuses_311 rfl ?_
    refine zi_goto (pc := 312) (tgt := 316) F dL_refuses_312 (by decide) ?_
    refine zi_istore (pc := 316) (lv' := [(0, .ref (G.2.2 0 0)), (1, .int (T 4 0)), (2, .int (E 5 0)), (3, .int (L 6 0)), (4, .int 2147483647), (5, .int 3), (6, .int (-2147483648)), (7, .int 1), (8, .int 8)]) F dL_refuses_316 (by decide) rfl ?_
    exact kk
set_option maxHeartbeats 4000000 in
set_option maxRecDepth 100000 in
theorem sg_rf_3_w8i {p : Program} {l : Launch} {e : Env} {s : State} {m : MethodId} {args : Array Value} {below : List Frame} {meth : Method} {c : Code} {Q : State → Prop} {A : Nat → Prop} {G : zG_t} {L T E V M K : zS_t} (hfl : l.stackTraces = false) (hIT : zIT T) (hIE : zIE E) (hIM : zIM M) (F : zF p m c cL_refuses 9 s args wsL_refuses RL G.1 (zty G) A) (hsx : zSx s) (hao : zAOA s) (kk : zW p l e rmL_refuses s m args below meth c 68 408 Q G.1 A 9 (zWL G L T E V M K) [(0, .ref (G.2.2 0 0)), (1, .int (T 4 0)), (2, .int (E 5 0)), (3, .int (L 6 0)), (4, .int 2147483647), (5, .int 3), (6, .int (-2147483648)), (7, .int 1), (8, .int 9)] 240 []) : zW p l e rmL_refuses s m args below meth c 68 408 Q G.1 A 9 (zWL G L T E V M K) [(0, .ref (G.2.2 0 0)), (1, .int (T 4 0)), (2, .int (E 5 0)), (3, .int (L 6 0)), (4, .int 2147483647), (5, .int 3), (6, .int (-2147483648)), (7, .int 1), (8, .int 8)] 318 [] := by
  have k_max : Int32.toInt 2147483647 = 2147483647 := by decide
  have hmaxT : T 4 0 ≤ 2147483647 := Int32.le_iff_toInt_le.mpr (by rw [k_max]; have h9 := hIT.2; omega)
  have hmaxE : E 5 0 ≤ 2147483647 := Int32.le_iff_toInt_le.mpr (by rw [k_max]; have h9 := hIE.1.2; omega)
  refine zi_iinc (pc := 318) (lv' := [(0, .ref (G.2.2 0 0)), (1, .int (T 4 0)), (2, .int (E 5 0)), (3, .int (L 6 0)), (4, .int 2147483647), (5, .int 3), (6, .int (-2147483648)), (7, .int 1), (8, .int 9)]) F dL_refuses_318 8 rfl (by decide) (by decide) rfl ?_
  refine zi_goto (pc := 321) (tgt := 240) F dL_refuses_321 (by decide) ?_
  exact kk
set_option maxHeartbeats 4000000 in
set_option maxRecDepth 100000 in
theorem sg_rf_3_c {p : Program} {l : Launch} {e : Env} {s : State} {m : MethodId} {args : Array Value} {below : List Frame} {meth : Method} {c : Code} {Q : State → Prop} {A : Nat → Prop} {G : zG_t} {L T E V M K : zS_t} (hfl : l.stackTraces = false) (hIT : zIT T) (hIE : zIE E) (hIM : zIM M) (F : zF p m c cL_refuses 9 s args wsL_refuses RL G.1 (zty G) A) (hsx : zSx s) (hao : zAOA s) (kk : zW p l e rmL_refuses s m args below meth c 68 408 Q G.1 A 9 (zWL G L T E V M K) [(0, .ref (G.2.2 0 0)), (1, .int (T 4 0)), (2, .int (E 5 0)), (3, .int (L 6 0)), (4, .int 2147483647), (5, .int 3), (6, .int (-2147483648)), (7, .int 1), (8, .int 9)] 328 []) : zW p l e rmL_refuses s m args below meth c 68 408 Q G.1 A 9 (zWL G L T E V M K) [(0, .ref (G.2.2 0 0)), (1, .int (T 4 0)), (2, .int (E 5 0)), (3, .int (L 6 0)), (4, .int 2147483647), (5, .int 3), (6, .int (-2147483648)), (7, .int 1), (8, .int 9)] 240 [] := by
  have k_max : Int32.toInt 2147483647 = 2147483647 := by decide
  have hmaxT : T 4 0 ≤ 2147483647 := Int32.le_iff_toInt_le.mpr (by rw [k_max]; have h9 := hIT.2; omega)
  have hmaxE : E 5 0 ≤ 2147483647 := Int32.le_iff_toInt_le.mpr (by rw [k_max]; have h9 := hIE.1.2; omega)
  refine zi_iload (pc := 240) F dL_refuses_240 8 rfl ?_
  refine zi_bipush (pc := 242) (v := 9) F dL_refuses_242 rfl ?_
  refine zi_icmp_ge (pc := 244) (tgt := 324) F dL_refuses_244 (by decide) (fun _ => ?_) (fun h => absurd h (by decide))
  refine zi_bipush (pc := 324) (v := 9) F dL_refuses_324 rfl ?_
  refine zi_istore (pc := 326) (lv' := [(0, .ref (G.2.2 0 0)), (1, .int (T 4 0)), (2, .int (E 5 0)), (3, .int (L 6 0)), (4, .int 2147483647), (5, .int 3), (6, .int (-2147483648)), (7, .int 1), (8, .int 9)]) F dL_refuses_326 (by decide) rfl ?_
  exact kk
set_option maxHeartbeats 4000000 in
set_option maxRecDepth 100000 in
theorem sg_rf_3_w9 {p : Program} {l : Launch} {e : Env} {s : State} {m : MethodId} {args : Array Value} {below : List Frame} {meth : Method} {c : Code} {Q : State → Prop} {A : Nat → Prop} {G : zG_t} {L T E V M K : zS_t} (hfl : l.stackTraces = false) (hIT : zIT T) (hIE : zIE E) (hIM : zIM M) (F : zF p m c cL_refuses 9 s args wsL_refuses RL G.1 (zty G) A) (hsx : zSx s) (hao : zAOA s) (kk : zW p l e rmL_refuses s m args below meth c 69 414 Q G.1 A 9 (zWL G L T E V M K) [(0, .ref (G.2.2 0 0)), (1, .int (T 4 0)), (2, .int (E 5 0)), (3, .int (L 6 0)), (4, .int 2147483647), (5, .int 3), (6, .int (-2147483648)), (7, .int 1), (8, .int 9)] 371 []) : zW p l e rmL_refuses s m args below meth c 68 408 Q G.1 A 9 (zWL G L T E V M K) [(0, .ref (G.2.2 0 0)), (1, .int (T 4 0)), (2, .int (E 5 0)), (3, .int (L 6 0)), (4, .int 2147483647), (5, .int 3), (6, .int (-2147483648)), (7, .int 1), (8, .int 9)] 328 [] := by
  have k_max : Int32.toInt 2147483647 = 2147483647 := by decide
  have hmaxT : T 4 0 ≤ 2147483647 := Int32.le_iff_toInt_le.mpr (by rw [k_max]; have h9 := hIT.2; omega)
  have hmaxE : E 5 0 ≤ 2147483647 := Int32.le_iff_toInt_le.mpr (by rw [k_max]; have h9 := hIE.1.2; omega)
  refine zi_iload (pc := 328) F dL_refuses_328 8 rfl ?_
  refine zi_bipush (pc := 330) (v := 13) F dL_refuses_330 rfl ?_
  refine zi_icmp_ge (pc := 332) (tgt := 377) F dL_refuses_332 (by decide) (fun h => absurd h (by decide)) (fun _ => ?_)
  refine zi_iload (pc := 335) F dL_refuses_335 7 rfl ?_
  refine zi_if_eq (pc := 337) (tgt := 368) F dL_refuses_337 (by decide) (fun h => absurd h (by decide)) (fun _ => ?_)
  refine zi_aload_n (pc := 340) F dL_refuses_340 0 rfl ?_
  refine zi_iload (pc := 341) F dL_refuses_341 8 rfl ?_
  refine zi_iload (pc := 343) F dL_refuses_343 5 rfl ?_
  refine zi_iconst (pc := 345) (v := 1) F dL_refuses_345 rfl ?_
  refine zi_icmp_ne (pc := 346) (tgt := 353) F dL_refuses_346 (by decide) (fun _ => ?_) (fun h => absurd h (by decide))
  refine zi_iload (pc := 353) F dL_refuses_353 6 rfl ?_
  refine zi_iconst (pc := 355) (v := 0) F dL_refuses_355 rfl ?_
  refine zi_callQH (pc := 356) (rest := []) F hsx hao (cr_9 l hfl G L T E V M K hIT hIE hIM (-2147483648) 0 (Or.inl (by decide))) (vx_cwSW 4 F.1.2.2.2.2 gL_refuses_L_act rfl rfl rfl hd_L_act ⟨Nat.le_of_ble_eq_true rfl, Nat.le_of_ble_eq_true rfl⟩) [] [] (zw_nil _) (zw_nil _).symm rfl rfl (Nat.le_of_ble_eq_true rfl) dL_refuses_356 ⟨Nat.le_of_ble_eq_true rfl, Nat.le_of_ble_eq_true rfl⟩ ?_
  show zW p l e rmL_refuses s m args below meth c 69 414 Q G.1 A 9 (zWL G L T E V M K) [(0, .ref (G.2.2 0 0)), (1, .int (T 4 0)), (2, .int (E 5 0)), (3, .int (L 6 0)), (4, .int 2147483647), (5, .int 3), (6, .int (-2147483648)), (7, .int 1), (8, .int 9)] 359 [.int (-71)]
  refine zi_bipush (pc := 359) (v := (-71)) F dL_refuses_359 rfl ?_
  refine zi_icmp_ne (pc := 361) (tgt := 368) F dL_refuses_361 (by decide) (fun h => absurd h (by decide)) (fun _ => ?_)
  refine zi_iconst (pc := 364) (v := 1) F dL_refuses_364 rfl ?_
  refine zi_goto (pc := 365) (tgt := 369) F dL_refuses_365 (by decide) ?_
  refine zi_istore (pc := 369) (lv' := [(0, .ref (G.2.2 0 0)), (1, .int (T 4 0)), (2, .int (E 5 0)), (3, .int (L 6 0)), (4, .int 2147483647), (5, .int 3), (6, .int (-2147483648)), (7, .int 1), (8, .int 9)]) F dL_refuses_369 (by decide) rfl ?_
  exact kk
set_option maxHeartbeats 4000000 in
set_option maxRecDepth 100000 in
theorem sg_rf_3_w9i {p : Program} {l : Launch} {e : Env} {s : State} {m : MethodId} {args : Array Value} {below : List Frame} {meth : Method} {c : Code} {Q : State → Prop} {A : Nat → Prop} {G : zG_t} {L T E V M K : zS_t} (hfl : l.stackTraces = false) (hIT : zIT T) (hIE : zIE E) (hIM : zIM M) (F : zF p m c cL_refuses 9 s args wsL_refuses RL G.1 (zty G) A) (hsx : zSx s) (hao : zAOA s) (kk : zW p l e rmL_refuses s m args below meth c 69 414 Q G.1 A 9 (zWL G L T E V M K) [(0, .ref (G.2.2 0 0)), (1, .int (T 4 0)), (2, .int (E 5 0)), (3, .int (L 6 0)), (4, .int 2147483647), (5, .int 3), (6, .int (-2147483648)), (7, .int 1), (8, .int 10)] 328 []) : zW p l e rmL_refuses s m args below meth c 69 414 Q G.1 A 9 (zWL G L T E V M K) [(0, .ref (G.2.2 0 0)), (1, .int (T 4 0)), (2, .int (E 5 0)), (3, .int (L 6 0)), (4, .int 2147483647), (5, .int 3), (6, .int (-2147483648)), (7, .int 1), (8, .int 9)] 371 [] := by
  have k_max : Int32.toInt 2147483647 = 2147483647 := by decide
  have hmaxT : T 4 0 ≤ 2147483647 := Int32.le_iff_toInt_le.mpr (by rw [k_max]; have h9 := hIT.2; omega)
  have hmaxE : E 5 0 ≤ 2147483647 := Int32.le_iff_toInt_le.mpr (by rw [k_max]; have h9 := hIE.1.2; omega)
  refine zi_iinc (pc := 371) (lv' := [(0, .ref (G.2.2 0 0)), (1, .int (T 4 0)), (2, .int (E 5 0)), (3, .int (L 6 0)), (4, .int 2147483647), (5, .int 3), (6, .int (-2147483648)), (7, .int 1), (8, .int 10)]) F dL_refuses_371 8 rfl (by decide) (by decide) rfl ?_
  refine zi_goto (pc := 374) (tgt := 328) F dL_refuses_374 (by decide) ?_
  exact kk
set_option maxHeartbeats 4000000 in
set_option maxRecDepth 100000 in
theorem sg_rf_3_w10 {p : Program} {l : Launch} {e : Env} {s : State} {m : MethodId} {args : Array Value} {below : List Frame} {meth : Method} {c : Code} {Q : State → Prop} {A : Nat → Prop} {G : zG_t} {L T E V M K : zS_t} (hfl : l.stackTraces = false) (hIT : zIT T) (hIE : zIE E) (hIM : zIM M) (F : zF p m c cL_refuses 9 s args wsL_refuses RL G.1 (zty G) A) (hsx : zSx s) (hao : zAOA s) (kk : zW p l e rmL_refuses s m args below meth c 70 420 Q G.1 A 9 (zWL G L T E V M K) [(0, .ref (G.2.2 0 0)), (1, .int (T 4 0)), (2, .int (E 5 0)), (3, .int (L 6 0)), (4, .int 2147483647), (5, .int 3), (6, .int (-2147483648)), (7, .int 1), (8, .int 10)] 371 []) : zW p l e rmL_refuses s m args below meth c 69 414 Q G.1 A 9 (zWL G L T E V M K) [(0, .ref (G.2.2 0 0)), (1, .int (T 4 0)), (2, .int (E 5 0)), (3, .int (L 6 0)), (4, .int 2147483647), (5, .int 3), (6, .int (-2147483648)), (7, .int 1), (8, .int 10)] 328 [] := by
  have k_max : Int32.toInt 2147483647 = 2147483647 := by decide
  have hmaxT : T 4 0 ≤ 2147483647 := Int32.le_iff_toInt_le.mpr (by rw [k_max]; have h9 := hIT.2; omega)
  have hmaxE : E 5 0 ≤ 2147483647 := Int32.le_iff_toInt_le.mpr (by rw [k_max]; have h9 := hIE.1.2; omega)
  refine zi_iload (pc := 328) F dL_refuses_328 8 rfl ?_
  refine zi_bipush (pc := 330) (v := 13) F dL_refuses_330 rfl ?_
  refine zi_icmp_ge (pc := 332) (tgt := 377) F dL_refuses_332 (by decide) (fun h => absurd h (by decide)) (fun _ => ?_)
  refine zi_iload (pc := 335) F dL_refuses_335 7 rfl ?_
  refine zi_if_eq (pc := 337) (tgt := 368) F dL_refuses_337 (by decide) (fun h => absurd h (by decide)) (fun _ => ?_)
  refine zi_aload_n (pc := 340) F dL_refuses_340 0 rfl ?_
  refine zi_iload (pc := 341) F dL_refuses_341 8 rfl ?_
  refine zi_iload (pc := 343) F dL_refuses_343 5 rfl ?_
  refine zi_iconst (pc := 345) (v := 1) F dL_refuses_345 rfl ?_
  refine zi_icmp_ne (pc := 346) (tgt := 353) F dL_refuses_346 (by decide) (fun _ => ?_) (fun h => absurd h (by decide))
  refine zi_iload (pc := 353) F dL_refuses_353 6 rfl ?_
  refine zi_iconst (pc := 355) (v := 0) F dL_refuses_355 rfl ?_
  refine zi_callQH (pc := 356) (rest := []) F hsx hao (cr_10 l hfl G L T E V M K hIT hIE hIM (-2147483648) 0 (Or.inl (by decide))) (vx_cwSW 4 F.1.2.2.2.2 gL_refuses_L_act rfl rfl rfl hd_L_act ⟨Nat.le_of_ble_eq_true rfl, Nat.le_of_ble_eq_true rfl⟩) [] [] (zw_nil _) (zw_nil _).symm rfl rfl (Nat.le_of_ble_eq_true rfl) dL_refuses_356 ⟨Nat.le_of_ble_eq_true rfl, Nat.le_of_ble_eq_true rfl⟩ ?_
  show zW p l e rmL_refuses s m args below meth c 70 420 Q G.1 A 9 (zWL G L T E V M K) [(0, .ref (G.2.2 0 0)), (1, .int (T 4 0)), (2, .int (E 5 0)), (3, .int (L 6 0)), (4, .int 2147483647), (5, .int 3), (6, .int (-2147483648)), (7, .int 1), (8, .int 10)] 359 [.int (-71)]
  refine zi_bipush (pc := 359) (v := (-71)) F dL_refuses_359 rfl ?_
  refine zi_icmp_ne (pc := 361) (tgt := 368) F dL_refuses_361 (by decide) (fun h => absurd h (by decide)) (fun _ => ?_)
  refine zi_iconst (pc := 364) (v := 1) F dL_refuses_364 rfl ?_
  refine zi_goto (pc := 365) (tgt := 369) F dL_refuses_365 (by decide) ?_
  refine zi_istore (pc := 369) (lv' := [(0, .ref (G.2.2 0 0)), (1, .int (T 4 0)), (2, .int (E 5 0)), (3, .int (L 6 0)), (4, .int 2147483647), (5, .int 3), (6, .int (-2147483648)), (7, .int 1), (8, .int 10)]) F dL_refuses_369 (by decide) rfl ?_
  exact kk
set_option maxHeartbeats 4000000 in
set_option maxRecDepth 100000 in
theorem sg_rf_3_w10i {p : Program} {l : Launch} {e : Env} {s : State} {m : MethodId} {args : Array Value} {below : List Frame} {meth : Method} {c : Code} {Q : State → Prop} {A : Nat → Prop} {G : zG_t} {L T E V M K : zS_t} (hfl : l.stackTraces = false) (hIT : zIT T) (hIE : zIE E) (hIM : zIM M) (F : zF p m c cL_refuses 9 s args wsL_refuses RL G.1 (zty G) A) (hsx : zSx s) (hao : zAOA s) (kk : zW p l e rmL_refuses s m args below meth c 70 420 Q G.1 A 9 (zWL G L T E V M K) [(0, .ref (G.2.2 0 0)), (1, .int (T 4 0)), (2, .int (E 5 0)), (3, .int (L 6 0)), (4, .int 2147483647), (5, .int 3), (6, .int (-2147483648)), (7, .int 1), (8, .int 11)] 328 []) : zW p l e rmL_refuses s m args below meth c 70 420 Q G.1 A 9 (zWL G L T E V M K) [(0, .ref (G.2.2 0 0)), (1, .int (T 4 0)), (2, .int (E 5 0)), (3, .int (L 6 0)), (4, .int 2147483647), (5, .int 3), (6, .int (-2147483648)), (7, .int 1), (8, .int 10)] 371 [] := by
  have k_max : Int32.toInt 2147483647 = 2147483647 := by decide
  have hmaxT : T 4 0 ≤ 2147483647 := Int32.le_iff_toInt_le.mpr (by rw [k_max]; have h9 := hIT.2; omega)
  have hmaxE : E 5 0 ≤ 2147483647 := Int32.le_iff_toInt_le.mpr (by rw [k_max]; have h9 := hIE.1.2; omega)
  refine zi_iinc (pc := 371) (lv' := [(0, .ref (G.2.2 0 0)), (1, .int (T 4 0)), (2, .int (E 5 0)), (3, .int (L 6 0)), (4, .int 2147483647), (5, .int 3), (6, .int (-2147483648)), (7, .int 1), (8, .int 11)]) F dL_refuses_371 8 rfl (by decide) (by decide) rfl ?_
  refine zi_goto (pc := 374) (tgt := 328) F dL_refuses_374 (by decide) ?_
  exact kk
set_option maxHeartbeats 4000000 in
set_option maxRecDepth 100000 in
theorem sg_rf_3_w11 {p : Program} {l : Launch} {e : Env} {s : State} {m : MethodId} {args : Array Value} {below : List Frame} {meth : Method} {c : Code} {Q : State → Prop} {A : Nat → Prop} {G : zG_t} {L T E V M K : zS_t} (hfl : l.stackTraces = false) (hIT : zIT T) (hIE : zIE E) (hIM : zIM M) (F : zF p m c cL_refuses 9 s args wsL_refuses RL G.1 (zty G) A) (hsx : zSx s) (hao : zAOA s) (kk : zW p l e rmL_refuses s m args below meth c 71 426 Q G.1 A 9 (zWL G L T E V M K) [(0, .ref (G.2.2 0 0)), (1, .int (T 4 0)), (2, .int (E 5 0)), (3, .int (L 6 0)), (4, .int 2147483647), (5, .int 3), (6, .int (-2147483648)), (7, .int 1), (8, .int 11)] 371 []) : zW p l e rmL_refuses s m args below meth c 70 420 Q G.1 A 9 (zWL G L T E V M K) [(0, .ref (G.2.2 0 0)), (1, .int (T 4 0)), (2, .int (E 5 0)), (3, .int (L 6 0)), (4, .int 2147483647), (5, .int 3), (6, .int (-2147483648)), (7, .int 1), (8, .int 11)] 328 [] := by
  have k_max : Int32.toInt 2147483647 = 2147483647 := by decide
  have hmaxT : T 4 0 ≤ 2147483647 := Int32.le_iff_toInt_le.mpr (by rw [k_max]; have h9 := hIT.2; omega)
  have hmaxE : E 5 0 ≤ 2147483647 := Int32.le_iff_toInt_le.mpr (by rw [k_max]; have h9 := hIE.1.2; omega)
  refine zi_iload (pc := 328) F dL_refuses_328 8 rfl ?_
  refine zi_bipush (pc := 330) (v := 13) F dL_refuses_330 rfl ?_
  refine zi_icmp_ge (pc := 332) (tgt := 377) F dL_refuses_332 (by decide) (fun h => absurd h (by decide)) (fun _ => ?_)
  refine zi_iload (pc := 335) F dL_refuses_335 7 rfl ?_
  refine zi_if_eq (pc := 337) (tgt := 368) F dL_refuses_337 (by decide) (fun h => absurd h (by decide)) (fun _ => ?_)
  refine zi_aload_n (pc := 340) F dL_refuses_340 0 rfl ?_
  refine zi_iload (pc := 341) F dL_refuses_341 8 rfl ?_
  refine zi_iload (pc := 343) F dL_refuses_343 5 rfl ?_
  refine zi_iconst (pc := 345) (v := 1) F dL_refuses_345 rfl ?_
  refine zi_icmp_ne (pc := 346) (tgt := 353) F dL_refuses_346 (by decide) (fun _ => ?_) (fun h => absurd h (by decide))
  refine zi_iload (pc := 353) F dL_refuses_353 6 rfl ?_
  refine zi_iconst (pc := 355) (v := 0) F dL_refuses_355 rfl ?_
  refine zi_callQH (pc := 356) (rest := []) F hsx hao (cr_11 l hfl G L T E V M K hIT hIE hIM (-2147483648) 0 (Or.inl (by decide))) (vx_cwSW 4 F.1.2.2.2.2 gL_refuses_L_act rfl rfl rfl hd_L_act ⟨Nat.le_of_ble_eq_true rfl, Nat.le_of_ble_eq_true rfl⟩) [] [] (zw_nil _) (zw_nil _).symm rfl rfl (Nat.le_of_ble_eq_true rfl) dL_refuses_356 ⟨Nat.le_of_ble_eq_true rfl, Nat.le_of_ble_eq_true rfl⟩ ?_
  show zW p l e rmL_refuses s m args below meth c 71 426 Q G.1 A 9 (zWL G L T E V M K) [(0, .ref (G.2.2 0 0)), (1, .int (T 4 0)), (2, .int (E 5 0)), (3, .int (L 6 0)), (4, .int 2147483647), (5, .int 3), (6, .int (-2147483648)), (7, .int 1), (8, .int 11)] 359 [.int (-71)]
  refine zi_bipush (pc := 359) (v := (-71)) F dL_refuses_359 rfl ?_
  refine zi_icmp_ne (pc := 361) (tgt := 368) F dL_refuses_361 (by decide) (fun h => absurd h (by decide)) (fun _ => ?_)
  refine zi_iconst (pc := 364) (v := 1) F dL_refuses_364 rfl ?_
  refine zi_goto (pc := 365) (tgt := 369) F dL_refuses_365 (by decide) ?_
  refine zi_istore (pc := 369) (lv' := [(0, .ref (G.2.2 0 0)), (1, .int (T 4 0)), (2, .int (E 5 0)), (3, .int (L 6 0)), (4, .int 2147483647), (5, .int 3), (6, .int (-2147483648)), (7, .int 1), (8, .int 11)]) F dL_refuses_369 (by decide) rfl ?_
  exact kk
set_option maxHeartbeats 4000000 in
set_option maxRecDepth 100000 in
theorem sg_rf_3_w11i {p : Program} {l : Launch} {e : Env} {s : State} {m : MethodId} {args : Array Value} {below : List Frame} {meth : Method} {c : Code} {Q : State → Prop} {A : Nat → Prop} {G : zG_t} {L T E V M K : zS_t} (hfl : l.stackTraces = false) (hIT : zIT T) (hIE : zIE E) (hIM : zIM M) (F : zF p m c cL_refuses 9 s args wsL_refuses RL G.1 (zty G) A) (hsx : zSx s) (hao : zAOA s) (kk : zW p l e rmL_refuses s m args below meth c 71 426 Q G.1 A 9 (zWL G L T E V M K) [(0, .ref (G.2.2 0 0)), (1, .int (T 4 0)), (2, .int (E 5 0)), (3, .int (L 6 0)), (4, .int 2147483647), (5, .int 3), (6, .int (-2147483648)), (7, .int 1), (8, .int 12)] 328 []) : zW p l e rmL_refuses s m args below meth c 71 426 Q G.1 A 9 (zWL G L T E V M K) [(0, .ref (G.2.2 0 0)), (1, .int (T 4 0)), (2, .int (E 5 0)), (3, .int (L 6 0)), (4, .int 2147483647), (5, .int 3), (6, .int (-2147483648)), (7, .int 1), (8, .int 11)] 371 [] := by
  have k_max : Int32.toInt 2147483647 = 2147483647 := by decide
  have hmaxT : T 4 0 ≤ 2147483647 := Int32.le_iff_toInt_le.mpr (by rw [k_max]; have h9 := hIT.2; omega)
  have hmaxE : E 5 0 ≤ 2147483647 := Int32.le_iff_toInt_le.mpr (by rw [k_max]; have h9 := hIE.1.2; omega)
  refine zi_iinc (pc := 371) (lv' := [(0, .ref (G.2.2 0 0)), (1, .int (T 4 0)), (2, .int (E 5 0)), (3, .int (L 6 0)), (4, .int 2147483647), (5, .int 3), (6, .int (-2147483648)), (7, .int 1), (8, .int 12)]) F dL_refuses_371 8 rfl (by decide) (by decide) rfl ?_
  refine zi_goto (pc := 374) (tgt := 328) F dL_refuses_374 (by decide) ?_
  exact kk
set_option maxHeartbeats 4000000 in
set_option maxRecDepth 100000 in
theorem sg_rf_3_w12 {p : Program} {l : Launch} {e : Env} {s : State} {m : MethodId} {args : Array Value} {below : List Frame} {meth : Method} {c : Code} {Q : State → Prop} {A : Nat → Prop} {G : zG_t} {L T E V M K : zS_t} (hfl : l.stackTraces = false) (hIT : zIT T) (hIE : zIE E) (hIM : zIM M) (F : zF p m c cL_refuses 9 s args wsL_refuses RL G.1 (zty G) A) (hsx : zSx s) (hao : zAOA s) (kk : zW p l e rmL_refuses s m args below meth c 72 432 Q G.1 A 9 (zWL G L T E V M K) [(0, .ref (G.2.2 0 0)), (1, .int (T 4 0)), (2, .int (E 5 0)), (3, .int (L 6 0)), (4, .int 2147483647), (5, .int 3), (6, .int (-2147483648)), (7, .int 1), (8, .int 12)] 371 []) : zW p l e rmL_refuses s m args below meth c 71 426 Q G.1 A 9 (zWL G L T E V M K) [(0, .ref (G.2.2 0 0)), (1, .int (T 4 0)), (2, .int (E 5 0)), (3, .int (L 6 0)), (4, .int 2147483647), (5, .int 3), (6, .int (-2147483648)), (7, .int 1), (8, .int 12)] 328 [] := by
  have k_max : Int32.toInt 2147483647 = 2147483647 := by decide
  have hmaxT : T 4 0 ≤ 2147483647 := Int32.le_iff_toInt_le.mpr (by rw [k_max]; have h9 := hIT.2; omega)
  have hmaxE : E 5 0 ≤ 2147483647 := Int32.le_iff_toInt_le.mpr (by rw [k_max]; have h9 := hIE.1.2; omega)
  refine zi_iload (pc := 328) F dL_refuses_328 8 rfl ?_
  refine zi_bipush (pc := 330) (v := 13) F dL_refuses_330 rfl ?_
  refine zi_icmp_ge (pc := 332) (tgt := 377) F dL_refuses_332 (by decide) (fun h => absurd h (by decide)) (fun _ => ?_)
  refine zi_iload (pc := 335) F dL_refuses_335 7 rfl ?_
  refine zi_if_eq (pc := 337) (tgt := 368) F dL_refuses_337 (by decide) (fun h => absurd h (by decide)) (fun _ => ?_)
  refine zi_aload_n (pc := 340) F dL_refuses_340 0 rfl ?_
  refine zi_iload (pc := 341) F dL_refuses_341 8 rfl ?_
  refine zi_iload (pc := 343) F dL_refuses_343 5 rfl ?_
  refine zi_iconst (pc := 345) (v := 1) F dL_refuses_345 rfl ?_
  refine zi_icmp_ne (pc := 346) (tgt := 353) F dL_refuses_346 (by decide) (fun _ => ?_) (fun h => absurd h (by decide))
  refine zi_iload (pc := 353) F dL_refuses_353 6 rfl ?_
  refine zi_iconst (pc := 355) (v := 0) F dL_refuses_355 rfl ?_
  refine zi_callQH (pc := 356) (rest := []) F hsx hao (cr_12 l hfl G L T E V M K hIT hIE hIM (-2147483648) 0 (Or.inl (by decide))) (vx_cwSW 4 F.1.2.2.2.2 gL_refuses_L_act rfl rfl rfl hd_L_act ⟨Nat.le_of_ble_eq_true rfl, Nat.le_of_ble_eq_true rfl⟩) [] [] (zw_nil _) (zw_nil _).symm rfl rfl (Nat.le_of_ble_eq_true rfl) dL_refuses_356 ⟨Nat.le_of_ble_eq_true rfl, Nat.le_of_ble_eq_true rfl⟩ ?_
  show zW p l e rmL_refuses s m args below meth c 72 432 Q G.1 A 9 (zWL G L T E V M K) [(0, .ref (G.2.2 0 0)), (1, .int (T 4 0)), (2, .int (E 5 0)), (3, .int (L 6 0)), (4, .int 2147483647), (5, .int 3), (6, .int (-2147483648)), (7, .int 1), (8, .int 12)] 359 [.int (-71)]
  refine zi_bipush (pc := 359) (v := (-71)) F dL_refuses_359 rfl ?_
  refine zi_icmp_ne (pc := 361) (tgt := 368) F dL_refuses_361 (by decide) (fun h => absurd h (by decide)) (fun _ => ?_)
  refine zi_iconst (pc := 364) (v := 1) F dL_refuses_364 rfl ?_
  refine zi_goto (pc := 365) (tgt := 369) F dL_refuses_365 (by decide) ?_
  refine zi_istore (pc := 369) (lv' := [(0, .ref (G.2.2 0 0)), (1, .int (T 4 0)), (2, .int (E 5 0)), (3, .int (L 6 0)), (4, .int 2147483647), (5, .int 3), (6, .int (-2147483648)), (7, .int 1), (8, .int 12)]) F dL_refuses_369 (by decide) rfl ?_
  exact kk
set_option maxHeartbeats 4000000 in
set_option maxRecDepth 100000 in
theorem sg_rf_3_w12i {p : Program} {l : Launch} {e : Env} {s : State} {m : MethodId} {args : Array Value} {below : List Frame} {meth : Method} {c : Code} {Q : State → Prop} {A : Nat → Prop} {G : zG_t} {L T E V M K : zS_t} (hfl : l.stackTraces = false) (hIT : zIT T) (hIE : zIE E) (hIM : zIM M) (F : zF p m c cL_refuses 9 s args wsL_refuses RL G.1 (zty G) A) (hsx : zSx s) (hao : zAOA s) (kk : zW p l e rmL_refuses s m args below meth c 72 432 Q G.1 A 9 (zWL G L T E V M K) [(0, .ref (G.2.2 0 0)), (1, .int (T 4 0)), (2, .int (E 5 0)), (3, .int (L 6 0)), (4, .int 2147483647), (5, .int 3), (6, .int (-2147483648)), (7, .int 1), (8, .int 13)] 328 []) : zW p l e rmL_refuses s m args below meth c 72 432 Q G.1 A 9 (zWL G L T E V M K) [(0, .ref (G.2.2 0 0)), (1, .int (T 4 0)), (2, .int (E 5 0)), (3, .int (L 6 0)), (4, .int 2147483647), (5, .int 3), (6, .int (-2147483648)), (7, .int 1), (8, .int 12)] 371 [] := by
  have k_max : Int32.toInt 2147483647 = 2147483647 := by decide
  have hmaxT : T 4 0 ≤ 2147483647 := Int32.le_iff_toInt_le.mpr (by rw [k_max]; have h9 := hIT.2; omega)
  have hmaxE : E 5 0 ≤ 2147483647 := Int32.le_iff_toInt_le.mpr (by rw [k_max]; have h9 := hIE.1.2; omega)
  refine zi_iinc (pc := 371) (lv' := [(0, .ref (G.2.2 0 0)), (1, .int (T 4 0)), (2, .int (E 5 0)), (3, .int (L 6 0)), (4, .int 2147483647), (5, .int 3), (6, .int (-2147483648)), (7, .int 1), (8, .int 13)]) F dL_refuses_371 8 rfl (by decide) (by decide) rfl ?_
  refine zi_goto (pc := 374) (tgt := 328) F dL_refuses_374 (by decide) ?_
  exact kk
set_option maxHeartbeats 4000000 in
set_option maxRecDepth 100000 in
theorem sg_rf_3_d {p : Program} {l : Launch} {e : Env} {s : State} {m : MethodId} {args : Array Value} {below : List Frame} {meth : Method} {c : Code} {Q : State → Prop} {A : Nat → Prop} {G : zG_t} {L T E V M K : zS_t} (hfl : l.stackTraces = false) (hIT : zIT T) (hIE : zIE E) (hIM : zIM M) (F : zF p m c cL_refuses 9 s args wsL_refuses RL G.1 (zty G) A) (hsx : zSx s) (hao : zAOA s) (kk : zW p l e rmL_refuses s m args below meth c 72 432 Q G.1 A 9 (zWL G L T E V M K) [(0, .ref (G.2.2 0 0)), (1, .int (T 4 0)), (2, .int (E 5 0)), (3, .int (L 6 0)), (4, .int 2147483647), (5, .int 3), (6, .int (-2147483648)), (7, .int 1), (8, .int 13)] 384 []) : zW p l e rmL_refuses s m args below meth c 72 432 Q G.1 A 9 (zWL G L T E V M K) [(0, .ref (G.2.2 0 0)), (1, .int (T 4 0)), (2, .int (E 5 0)), (3, .int (L 6 0)), (4, .int 2147483647), (5, .int 3), (6, .int (-2147483648)), (7, .int 1), (8, .int 13)] 328 [] := by
  have k_max : Int32.toInt 2147483647 = 2147483647 := by decide
  have hmaxT : T 4 0 ≤ 2147483647 := Int32.le_iff_toInt_le.mpr (by rw [k_max]; have h9 := hIT.2; omega)
  have hmaxE : E 5 0 ≤ 2147483647 := Int32.le_iff_toInt_le.mpr (by rw [k_max]; have h9 := hIE.1.2; omega)
  refine zi_iload (pc := 328) F dL_refuses_328 8 rfl ?_
  refine zi_bipush (pc := 330) (v := 13) F dL_refuses_330 rfl ?_
  refine zi_icmp_ge (pc := 332) (tgt := 377) F dL_refuses_332 (by decide) (fun _ => ?_) (fun h => absurd h (by decide))
  refine zi_iload (pc := 377) F dL_refuses_377 7 rfl ?_
  refine zi_if_ne (pc := 379) (tgt := 384) F dL_refuses_379 (by decide) (fun _ => ?_) (fun h => absurd h (by decide))
  exact kk
set_option maxHeartbeats 4000000 in
set_option maxRecDepth 100000 in
theorem sg_rf_3_e {p : Program} {l : Launch} {e : Env} {s : State} {m : MethodId} {args : Array Value} {below : List Frame} {meth : Method} {c : Code} {Q : State → Prop} {A : Nat → Prop} {G : zG_t} {L T E V M K : zS_t} (hfl : l.stackTraces = false) (hIT : zIT T) (hIE : zIE E) (hIM : zIM M) (F : zF p m c cL_refuses 9 s args wsL_refuses RL G.1 (zty G) A) (hsx : zSx s) (hao : zAOA s) (kk : zW p l e rmL_refuses s m args below meth c 72 432 Q G.1 A 9 (zWL G L T E V M K) [(0, .ref (G.2.2 0 0)), (1, .int (T 4 0)), (2, .int (E 5 0)), (3, .int (L 6 0)), (4, .int 2147483647), (5, .int 4), (6, .int (-2147483648)), (7, .int 1), (8, .int 13)] 22 []) : zW p l e rmL_refuses s m args below meth c 72 432 Q G.1 A 9 (zWL G L T E V M K) [(0, .ref (G.2.2 0 0)), (1, .int (T 4 0)), (2, .int (E 5 0)), (3, .int (L 6 0)), (4, .int 2147483647), (5, .int 3), (6, .int (-2147483648)), (7, .int 1), (8, .int 13)] 384 [] := by
  have k_max : Int32.toInt 2147483647 = 2147483647 := by decide
  have hmaxT : T 4 0 ≤ 2147483647 := Int32.le_iff_toInt_le.mpr (by rw [k_max]; have h9 := hIT.2; omega)
  have hmaxE : E 5 0 ≤ 2147483647 := Int32.le_iff_toInt_le.mpr (by rw [k_max]; have h9 := hIE.1.2; omega)
  refine zi_iinc (pc := 384) (lv' := [(0, .ref (G.2.2 0 0)), (1, .int (T 4 0)), (2, .int (E 5 0)), (3, .int (L 6 0)), (4, .int 2147483647), (5, .int 4), (6, .int (-2147483648)), (7, .int 1), (8, .int 13)]) F dL_refuses_384 5 rfl (by decide) (by decide) rfl ?_
  refine zi_goto (pc := 387) (tgt := 22) F dL_refuses_387 (by decide) ?_
  exact kk
set_option maxHeartbeats 4000000 in
set_option maxRecDepth 100000 in
theorem sg_rf_z {p : Program} {l : Launch} {e : Env} {s : State} {m : MethodId} {args : Array Value} {below : List Frame} {meth : Method} {c : Code} {Q : State → Prop} {A : Nat → Prop} {G : zG_t} {L T E V M K : zS_t} (hfl : l.stackTraces = false) (hIT : zIT T) (hIE : zIE E) (hIM : zIM M) (F : zF p m c cL_refuses 9 s args wsL_refuses RL G.1 (zty G) A) (hsx : zSx s) (hao : zAOA s) (kk : zW p l e rmL_refuses s m args below meth c 72 432 Q G.1 A 9 (zWL G L T E V M K) [(0, .ref (G.2.2 0 0)), (1, .int (T 4 0)), (2, .int (E 5 0)), (3, .int (L 6 0)), (4, .int 2147483647), (5, .int 4), (6, .int (-2147483648)), (7, .int 1), (8, .int 13)] 419 [.int 1]) : zW p l e rmL_refuses s m args below meth c 72 432 Q G.1 A 9 (zWL G L T E V M K) [(0, .ref (G.2.2 0 0)), (1, .int (T 4 0)), (2, .int (E 5 0)), (3, .int (L 6 0)), (4, .int 2147483647), (5, .int 4), (6, .int (-2147483648)), (7, .int 1), (8, .int 13)] 22 [] := by
  have k_max : Int32.toInt 2147483647 = 2147483647 := by decide
  have hmaxT : T 4 0 ≤ 2147483647 := Int32.le_iff_toInt_le.mpr (by rw [k_max]; have h9 := hIT.2; omega)
  have hmaxE : E 5 0 ≤ 2147483647 := Int32.le_iff_toInt_le.mpr (by rw [k_max]; have h9 := hIE.1.2; omega)
  refine zi_iload (pc := 22) F dL_refuses_22 5 rfl ?_
  refine zi_iconst (pc := 24) (v := 4) F dL_refuses_24 rfl ?_
  refine zi_icmp_ge (pc := 25) (tgt := 390) F dL_refuses_25 (by decide) (fun _ => ?_) (fun h => absurd h (by decide))
  refine zi_aload_n (pc := 390) F dL_refuses_390 0 rfl ?_
  refine zi_callVI (pc := 391) (rest := []) (ws' := zWL G L T E V M K) F (c_X4_things l G L T E V M K) (cwV 0 F.1.2.2.2.2 gL_refuses_X4_things rfl rfl rfl hd_X4_things ⟨Nat.le_of_ble_eq_true rfl, Nat.le_of_ble_eq_true rfl⟩) 0 rfl rfl [] [] (zw_nil _) (zw_nil _).symm rfl rfl (Nat.le_of_ble_eq_true rfl) dL_refuses_391 ⟨Nat.le_of_ble_eq_true rfl, Nat.le_of_ble_eq_true rfl⟩ ?_
  show zW p l e rmL_refuses s m args below meth c 72 432 Q G.1 A 9 (zWL G L T E V M K) [(0, .ref (G.2.2 0 0)), (1, .int (T 4 0)), (2, .int (E 5 0)), (3, .int (L 6 0)), (4, .int 2147483647), (5, .int 4), (6, .int (-2147483648)), (7, .int 1), (8, .int 13)] 394 [.int (T 4 0)]
  refine zi_iload_n (pc := 394) F dL_refuses_394 1 rfl ?_
  refine zi_icmp_ne (pc := 395) (tgt := 418) F dL_refuses_395 (by decide) (fun h => absurd rfl h) (fun _ => ?_)
  refine zi_aload_n (pc := 398) F dL_refuses_398 0 rfl ?_
  refine zi_callVI (pc := 399) (rest := []) (ws' := zWL G L T E V M K) F (c_X4_stack l G L T E V M K) (cwV 0 F.1.2.2.2.2 gL_refuses_X4_stack rfl rfl rfl hd_X4_stack ⟨Nat.le_of_ble_eq_true rfl, Nat.le_of_ble_eq_true rfl⟩) 0 rfl rfl [] [] (zw_nil _) (zw_nil _).symm rfl rfl (Nat.le_of_ble_eq_true rfl) dL_refuses_399 ⟨Nat.le_of_ble_eq_true rfl, Nat.le_of_ble_eq_true rfl⟩ ?_
  show zW p l e rmL_refuses s m args below meth c 72 432 Q G.1 A 9 (zWL G L T E V M K) [(0, .ref (G.2.2 0 0)), (1, .int (T 4 0)), (2, .int (E 5 0)), (3, .int (L 6 0)), (4, .int 2147483647), (5, .int 4), (6, .int (-2147483648)), (7, .int 1), (8, .int 13)] 402 [.int (E 5 0)]
  refine zi_iload_n (pc := 402) F dL_refuses_402 2 rfl ?_
  refine zi_icmp_ne (pc := 403) (tgt := 418) F dL_refuses_403 (by decide) (fun h => absurd rfl h) (fun _ => ?_)
  refine zi_aload_n (pc := 406) F dL_refuses_406 0 rfl ?_
  refine zi_callVI (pc := 407) (rest := []) (ws' := zWL G L T E V M K) F (c_X4_acting l G L T E V M K) (cwV 0 F.1.2.2.2.2 gL_refuses_X4_acting rfl rfl rfl hd_X4_acting ⟨Nat.le_of_ble_eq_true rfl, Nat.le_of_ble_eq_true rfl⟩) 0 rfl rfl [] [] (zw_nil _) (zw_nil _).symm rfl rfl (Nat.le_of_ble_eq_true rfl) dL_refuses_407 ⟨Nat.le_of_ble_eq_true rfl, Nat.le_of_ble_eq_true rfl⟩ ?_
  show zW p l e rmL_refuses s m args below meth c 72 432 Q G.1 A 9 (zWL G L T E V M K) [(0, .ref (G.2.2 0 0)), (1, .int (T 4 0)), (2, .int (E 5 0)), (3, .int (L 6 0)), (4, .int 2147483647), (5, .int 4), (6, .int (-2147483648)), (7, .int 1), (8, .int 13)] 410 [.int (L 6 0)]
  refine zi_iload_n (pc := 410) F dL_refuses_410 3 rfl ?_
  refine zi_icmp_ne (pc := 411) (tgt := 418) F dL_refuses_411 (by decide) (fun h => absurd rfl h) (fun _ => ?_)
  refine zi_iconst (pc := 414) (v := 1) F dL_refuses_414 rfl ?_
  refine zi_goto (pc := 415) (tgt := 419) F dL_refuses_415 (by decide) ?_
  exact kk
set_option maxHeartbeats 4000000 in
set_option maxRecDepth 100000 in
theorem c_L_refuses (l : Launch) (hfl : l.stackTraces = false) (G : zG_t) (L T E V M K : zS_t) (hIT : zIT T) (hIE : zIE E) (hIM : zIM M) : zNI l G.1 (zty G) yL_refuses wsL_refuses rmL_refuses [.ref (G.2.2 0 0)] (zWL G L T E V M K) 1 (zWL G L T E V M K) := by
  refine zn_Z (cc := cL_refuses) (maxL := 9) (by decide) rfl (Nat.le_of_ble_eq_true rfl) ?_
  intro p e s m args below meth c Q A F hsx hao hret
  refine sg_rf_a hfl hIT hIE hIM F hsx hao ?_
  refine sg_rf_0_b hfl hIT hIE hIM F hsx hao ?_
  refine sg_rf_0_w5 hfl hIT hIE hIM F hsx hao ?_
  refine sg_rf_0_w5i hfl hIT hIE hIM F hsx hao ?_
  refine sg_rf_0_w6 hfl hIT hIE hIM F hsx hao ?_
  refine sg_rf_0_w6i hfl hIT hIE hIM F hsx hao ?_
  refine sg_rf_0_w7 hfl hIT hIE hIM F hsx hao ?_
  refine sg_rf_0_w7i hfl hIT hIE hIM F hsx hao ?_
  refine sg_rf_0_w8 hfl hIT hIE hIM F hsx hao ?_
  refine sg_rf_0_w8i hfl hIT hIE hIM F hsx hao ?_
  refine sg_rf_0_c hfl hIT hIE hIM F hsx hao ?_
  refine sg_rf_0_w9 hfl hIT hIE hIM F hsx hao ?_
  refine sg_rf_0_w9i hfl hIT hIE hIM F hsx hao ?_
  refine sg_rf_0_w10 hfl hIT hIE hIM F hsx hao ?_
  refine sg_rf_0_w10i hfl hIT hIE hIM F hsx hao ?_
  refine sg_rf_0_w11 hfl hIT hIE hIM F hsx hao ?_
  refine sg_rf_0_w11i hfl hIT hIE hIM F hsx hao ?_
  refine sg_rf_0_w12 hfl hIT hIE hIM F hsx hao ?_
  refine sg_rf_0_w12i hfl hIT hIE hIM F hsx hao ?_
  refine sg_rf_0_d hfl hIT hIE hIM F hsx hao ?_
  refine sg_rf_0_e hfl hIT hIE hIM F hsx hao ?_
  refine sg_rf_1_b hfl hIT hIE hIM F hsx hao ?_
  refine sg_rf_1_w5 hfl hIT hIE hIM F hsx hao ?_
  refine sg_rf_1_w5i hfl hIT hIE hIM F hsx hao ?_
  refine sg_rf_1_w6 hfl hIT hIE hIM F hsx hao ?_
  refine sg_rf_1_w6i hfl hIT hIE hIM F hsx hao ?_
  refine sg_rf_1_w7 hfl hIT hIE hIM F hsx hao ?_
  refine sg_rf_1_w7i hfl hIT hIE hIM F hsx hao ?_
  refine sg_rf_1_w8 hfl hIT hIE hIM F hsx hao ?_
  refine sg_rf_1_w8i hfl hIT hIE hIM F hsx hao ?_
  refine sg_rf_1_c hfl hIT hIE hIM F hsx hao ?_
  refine sg_rf_1_w9 hfl hIT hIE hIM F hsx hao ?_
  refine sg_rf_1_w9i hfl hIT hIE hIM F hsx hao ?_
  refine sg_rf_1_w10 hfl hIT hIE hIM F hsx hao ?_
  refine sg_rf_1_w10i hfl hIT hIE hIM F hsx hao ?_
  refine sg_rf_1_w11 hfl hIT hIE hIM F hsx hao ?_
  refine sg_rf_1_w11i hfl hIT hIE hIM F hsx hao ?_
  refine sg_rf_1_w12 hfl hIT hIE hIM F hsx hao ?_
  refine sg_rf_1_w12i hfl hIT hIE hIM F hsx hao ?_
  refine sg_rf_1_d hfl hIT hIE hIM F hsx hao ?_
  refine sg_rf_1_e hfl hIT hIE hIM F hsx hao ?_
  refine sg_rf_2_b hfl hIT hIE hIM F hsx hao ?_
  refine sg_rf_2_w5 hfl hIT hIE hIM F hsx hao ?_
  refine sg_rf_2_w5i hfl hIT hIE hIM F hsx hao ?_
  refine sg_rf_2_w6 hfl hIT hIE hIM F hsx hao ?_
  refine sg_rf_2_w6i hfl hIT hIE hIM F hsx hao ?_
  refine sg_rf_2_w7 hfl hIT hIE hIM F hsx hao ?_
  refine sg_rf_2_w7i hfl hIT hIE hIM F hsx hao ?_
  refine sg_rf_2_w8 hfl hIT hIE hIM F hsx hao ?_
  refine sg_rf_2_w8i hfl hIT hIE hIM F hsx hao ?_
  refine sg_rf_2_c hfl hIT hIE hIM F hsx hao ?_
  refine sg_rf_2_w9 hfl hIT hIE hIM F hsx hao ?_
  refine sg_rf_2_w9i hfl hIT hIE hIM F hsx hao ?_
  refine sg_rf_2_w10 hfl hIT hIE hIM F hsx hao ?_
  refine sg_rf_2_w10i hfl hIT hIE hIM F hsx hao ?_
  refine sg_rf_2_w11 hfl hIT hIE hIM F hsx hao ?_
  refine sg_rf_2_w11i hfl hIT hIE hIM F hsx hao ?_
  refine sg_rf_2_w12 hfl hIT hIE hIM F hsx hao ?_
  refine sg_rf_2_w12i hfl hIT hIE hIM F hsx hao ?_
  refine sg_rf_2_d hfl hIT hIE hIM F hsx hao ?_
  refine sg_rf_2_e hfl hIT hIE hIM F hsx hao ?_
  refine sg_rf_3_b hfl hIT hIE hIM F hsx hao ?_
  refine sg_rf_3_w5 hfl hIT hIE hIM F hsx hao ?_
  refine sg_rf_3_w5i hfl hIT hIE hIM F hsx hao ?_
  refine sg_rf_3_w6 hfl hIT hIE hIM F hsx hao ?_
  refine sg_rf_3_w6i hfl hIT hIE hIM F hsx hao ?_
  refine sg_rf_3_w7 hfl hIT hIE hIM F hsx hao ?_
  refine sg_rf_3_w7i hfl hIT hIE hIM F hsx hao ?_
  refine sg_rf_3_w8 hfl hIT hIE hIM F hsx hao ?_
  refine sg_rf_3_w8i hfl hIT hIE hIM F hsx hao ?_
  refine sg_rf_3_c hfl hIT hIE hIM F hsx hao ?_
  refine sg_rf_3_w9 hfl hIT hIE hIM F hsx hao ?_
  refine sg_rf_3_w9i hfl hIT hIE hIM F hsx hao ?_
  refine sg_rf_3_w10 hfl hIT hIE hIM F hsx hao ?_
  refine sg_rf_3_w10i hfl hIT hIE hIM F hsx hao ?_
  refine sg_rf_3_w11 hfl hIT hIE hIM F hsx hao ?_
  refine sg_rf_3_w11i hfl hIT hIE hIM F hsx hao ?_
  refine sg_rf_3_w12 hfl hIT hIE hIM F hsx hao ?_
  refine sg_rf_3_w12i hfl hIT hIE hIM F hsx hao ?_
  refine sg_rf_3_d hfl hIT hIE hIM F hsx hao ?_
  refine sg_rf_3_e hfl hIT hIE hIM F hsx hao ?_
  refine sg_rf_z hfl hIT hIE hIM F hsx hao ?_
  exact hret _ _ _ _ (Nat.le_of_ble_eq_true rfl) (Nat.le_of_ble_eq_true rfl) dL_refuses_419 (znb (Or.inr rfl))
