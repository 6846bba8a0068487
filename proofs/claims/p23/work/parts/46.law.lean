/-! the law: the games by hand, then a drawn one -/
set_option maxHeartbeats 4000000 in
set_option maxRecDepth 100000 in
theorem sl_a {p : Program} {l : Launch} {e : Env} {s : State} {m : MethodId} {args : Array Value} {below : List Frame} {meth : Method} {c : Code} {Q : State → Prop} {A : Nat → Prop} {G : zG_t} {b Ln : Nat} {xs : Nat → Int32} (hfl : l.stackTraces = false) (F : zF p m c cL_law 6 s args wsL_law RL G.1 (zty G) A) (hsx : zSx s) (hao : zAOA s) (hX : va_X b Ln xs s s.heap) (hbl : b < s.heap.size) (hbA : ¬ A b) (hLn : Ln ≤ 260) {k : Int32} {L T E V M K : zS_t} {cells slots : Nat} (hk0 : 0 ≤ k.toInt) (hk1 : k.toInt < 40) (kk : ∀ x : Int32, 0 ≤ x.toInt → zW p l e room_1 s m args below meth c cells slots Q G.1 A 6 (zWL G L T E V M K) [(0, .ref b), (1, .ref (G.2.2 0 0)), (2, .int k), (3, .int x)] 63 []) : zW p l e room_1 s m args below meth c cells slots Q G.1 A 6 (zWL G L T E V M K) [(0, .ref b), (1, .ref (G.2.2 0 0)), (2, .int k)] 36 [] := by
  have k_40 : Int32.toInt 40 = 40 := by decide
  have k_5 : Int32.toInt 5 = 5 := by decide
  have k_0 : Int32.toInt 0 = 0 := by decide
  have hln : (Int32.ofNat Ln).toInt = Ln := Int32.toInt_ofNat_of_lt (by omega)
  refine zi_iload_n (pc := 36) F dL_law_36 2 rfl ?_
  refine zi_bipush (pc := 37) (v := 40) F dL_law_37 rfl ?_
  refine zi_icmp_ge (pc := 39) (tgt := 166) F dL_law_39 (by decide) (fun h => ?_) (fun _ => ?_)
  · have t := zt_le h; exact absurd t (by omega)
  refine zi_aload_n (pc := 42) F dL_law_42 0 rfl ?_
  refine zi_slen (pc := 43) F hX hbl hbA dL_law_43 ?_
  refine zi_if_ne (pc := 44) (tgt := 53) F dL_law_44 (by decide) (fun h => ?_) (fun h => ?_)
  · have hL0 : 0 < Ln := by
      have t := zt_ne h
      omega
    have hpos : 0 < (Int32.ofNat Ln).toInt := by omega
    have hi := zt_rem (a := k) (b := Int32.ofNat Ln) (c := Ln) hln (by omega) hk0
    refine zi_aload_n (pc := 53) F dL_law_53 0 rfl ?_
    refine zi_iload_n (pc := 54) F dL_law_54 2 rfl ?_
    refine zi_aload_n (pc := 55) F dL_law_55 0 rfl ?_
    refine zi_slen (pc := 56) F hX hbl hbA dL_law_56 ?_
    refine zi_irem (pc := 57) F dL_law_57 h ?_
    refine zi_sld (pc := 58) F hX hbl hbA (zin (by rw [hi]; exact Int.emod_nonneg _ (by omega)) (by rw [hi]; exact Int.emod_lt_of_pos _ (by omega))) rfl dL_law_58 ?_
    refine zi_bipush (pc := 59) (v := 11) F dL_law_59 rfl ?_
    refine zi_iushr (pc := 61) F dL_law_61 rfl ?_
    refine zi_istore_n (pc := 62) (lv' := [(0, .ref b), (1, .ref (G.2.2 0 0)), (2, .int k), (3, .int (((xs (k - k / Int32.ofNat Ln * Int32.ofNat Ln).toNatClampNeg).toUInt32 >>> (Int32.toUInt32 11 &&& Int32.toUInt32 31)).toInt32))]) F dL_law_62 (by decide) rfl ?_
    exact kk _ (zui _)
  · refine zi_iconst (pc := 47) (v := 5) F dL_law_47 rfl ?_
    refine zi_iload_n (pc := 48) F dL_law_48 2 rfl ?_
    refine zi_imul (pc := 49) F dL_law_49 ?_
    refine zi_goto (pc := 50) (tgt := 62) F dL_law_50 (by decide) ?_
    have t := zt_mulc (a := 5) (b := k) (c := 5) k_5 (by omega) (by omega)
    refine zi_istore_n (pc := 62) (lv' := [(0, .ref b), (1, .ref (G.2.2 0 0)), (2, .int k), (3, .int (5 * k))]) F dL_law_62 (by decide) rfl ?_
    exact kk _ (by omega)
set_option maxHeartbeats 4000000 in
set_option maxRecDepth 100000 in
theorem sl_b {p : Program} {l : Launch} {e : Env} {s : State} {m : MethodId} {args : Array Value} {below : List Frame} {meth : Method} {c : Code} {Q : State → Prop} {A : Nat → Prop} {G : zG_t} {b Ln : Nat} {xs : Nat → Int32} (hfl : l.stackTraces = false) (F : zF p m c cL_law 6 s args wsL_law RL G.1 (zty G) A) (hsx : zSx s) (hao : zAOA s) {k x : Int32} {L T E V M K : zS_t} {cells slots : Nat} (hx0 : 0 ≤ x.toInt) (hIT : zIT T) (hIE : zIE E) (hIM : zIM M) (hc : cells + 100 ≤ 661750) (hs : slots + 600 ≤ 7115933) (kk : ∀ (due had : Int32) (L1 E1 M1 : zS_t), zIE E1 → zIM M1 → zW p l e room_1 s m args below meth c (cells + 1 + rmL_act.cells) (slots + 6 + rmL_act.slots) Q G.1 A 6 (zWL G L1 T E1 V M1 K) [(0, .ref b), (1, .ref (G.2.2 0 0)), (2, .int k), (3, .int x), (4, .int due), (5, .int had)] 119 []) : zW p l e room_1 s m args below meth c cells slots Q G.1 A 6 (zWL G L T E V M K) [(0, .ref b), (1, .ref (G.2.2 0 0)), (2, .int k), (3, .int x)] 63 [] := by
  have k_14 : Int32.toInt 14 = 14 := by decide
  have k_0 : Int32.toInt 0 = 0 := by decide
  have hm := zt_rem (a := x) (b := 14) (c := 14) k_14 (by omega) hx0
  have hc0 : ¬ (x - x / 14 * 14) < 0 := fun h9 => by
    have t := zt_lt h9
    omega
  have hc1 : (x - x / 14 * 14) < 14 := Int32.lt_iff_toInt_lt.mpr (by omega)
  refine zi_aload_n (pc := 63) F dL_law_63 1 rfl ?_
  refine zi_iload_n (pc := 64) F dL_law_64 3 rfl ?_
  refine zi_bipush (pc := 65) (v := 14) F dL_law_65 rfl ?_
  refine zi_irem (pc := 67) F dL_law_67 (by decide) ?_
  refine zi_iload_n (pc := 68) F dL_law_68 3 rfl ?_
  refine zi_bipush (pc := 69) (v := 14) F dL_law_69 rfl ?_
  refine zi_idiv (pc := 71) F dL_law_71 (by decide) ?_
  refine zi_bipush (pc := 72) (v := 9) F dL_law_72 rfl ?_
  refine zi_irem (pc := 74) F dL_law_74 (by decide) ?_
  refine zi_callXI (pc := 75) (rest := []) (ws' := zWL G L T E V M K) F hsx (c_X4_obstacle l hfl G (x - x / 14 * 14) (x / 14 - x / 14 / 9 * 9) L T E V M K hIE) (cwV 2 F.1.2.2.2.2 gL_law_X4_obstacle rfl rfl rfl hd_X4_obstacle ⟨Nat.le_of_ble_eq_true rfl, Nat.le_of_ble_eq_true rfl⟩) 0 rfl rfl [] [] (zw_nil _) (zw_nil _).symm rfl rfl (Nat.le_of_ble_eq_true rfl) dL_law_75 ⟨by show _ ≤ 661750; omega, by show _ ≤ 7115933; omega⟩ (fun En h9 => ?_) (fun h9 => ?_)
  · rw [zob_ok hc0 hc1] at h9; cases h9
  refine zi_toplit (y := (mX4_findObstacle (x - x / 14 * 14) (x / 14 - x / 14 / 9 * 9) L T E)) (by rw [zob_ok hc0 hc1]) ?_
  refine zi_istore (pc := 78) (lv' := [(0, .ref b), (1, .ref (G.2.2 0 0)), (2, .int k), (3, .int x), (4, .int (mX4_findObstacle (x - x / 14 * 14) (x / 14 - x / 14 / 9 * 9) L T E))]) F dL_law_78 (by decide) rfl ?_
  refine zi_aload_n (pc := 80) F dL_law_80 1 rfl ?_
  refine zi_callVI (pc := 81) (rest := []) (ws' := zWL G L T E V M K) F (c_X4_stack l G L T E V M K) (cwV 0 F.1.2.2.2.2 gL_law_X4_stack rfl rfl rfl hd_X4_stack ⟨Nat.le_of_ble_eq_true rfl, Nat.le_of_ble_eq_true rfl⟩) 0 rfl rfl [] [] (zw_nil _) (zw_nil _).symm rfl rfl (Nat.le_of_ble_eq_true rfl) dL_law_81 ⟨by show _ ≤ 661750; omega, by show _ ≤ 7115933; omega⟩ ?_
  refine zi_istore (pc := 84) (lv' := [(0, .ref b), (1, .ref (G.2.2 0 0)), (2, .int k), (3, .int x), (4, .int (mX4_findObstacle (x - x / 14 * 14) (x / 14 - x / 14 / 9 * 9) L T E)), (5, .int (E 5 0))]) F dL_law_84 (by decide) rfl ?_
  refine zi_aload_n (pc := 86) F dL_law_86 1 rfl ?_
  refine zi_iconst (pc := 87) (v := 0) F dL_law_87 rfl ?_
  refine zi_iload_n (pc := 88) F dL_law_88 3 rfl ?_
  refine zi_bipush (pc := 89) (v := 14) F dL_law_89 rfl ?_
  refine zi_irem (pc := 91) F dL_law_91 (by decide) ?_
  refine zi_iload_n (pc := 92) F dL_law_92 3 rfl ?_
  refine zi_bipush (pc := 93) (v := 14) F dL_law_93 rfl ?_
  refine zi_idiv (pc := 95) F dL_law_95 (by decide) ?_
  refine zi_bipush (pc := 96) (v := 9) F dL_law_96 rfl ?_
  refine zi_irem (pc := 98) F dL_law_98 (by decide) ?_
  by_cases hd : (mX4_findObstacle (x - x / 14 * 14) (x / 14 - x / 14 / 9 * 9) L T E) = 0
  · obtain ⟨ex, er⟩ := zpl_ok (M := M) hc0 hc1 hd
    obtain ⟨hI1, hI2, -⟩ := pp_X4_play (x - x / 14 * 14) (x / 14 - x / 14 / 9 * 9) L T E M hIT hIE hIM
    refine zi_callQH (pc := 99) (rest := []) (ws' := zWL G ((mX4_play (x - x / 14 * 14) (x / 14 - x / 14 / 9 * 9) L T E M).2.2.1) T ((mX4_play (x - x / 14 * 14) (x / 14 - x / 14 / 9 * 9) L T E M).2.2.2.1) V ((mX4_play (x - x / 14 * 14) (x / 14 - x / 14 / 9 * 9) L T E M).2.2.2.2) K) F hsx hao (c_L_act_0 l hfl G (x - x / 14 * 14) (x / 14 - x / 14 / 9 * 9) L T E V M K hIT hIE hIM) (vx_cwSW 4 F.1.2.2.2.2 gL_law_L_act rfl rfl rfl hd_L_act ⟨Nat.le_of_ble_eq_true rfl, Nat.le_of_ble_eq_true rfl⟩) [] [] (zw_nil _) (zw_nil _).symm rfl rfl (Nat.le_of_ble_eq_true rfl) dL_law_99 ⟨by show cells + 1 + 1 ≤ 661750; omega, by show slots + 6 + 6 ≤ 7115933; omega⟩ ?_
    refine zi_toplit (y := (E 5 0) + 1) (by rw [ex, er]; first | done | exact zac_n _) ?_
    refine zi_iload (pc := 102) F dL_law_102 4 rfl ?_
    refine zi_if_ne (pc := 104) (tgt := 114) F dL_law_104 (by decide) (fun h => absurd hd h) (fun _ => ?_)
    refine zi_iload (pc := 107) F dL_law_107 5 rfl ?_
    refine zi_iconst (pc := 109) (v := 1) F dL_law_109 rfl ?_
    refine zi_iadd (pc := 110) F dL_law_110 ?_
    refine zi_goto (pc := 111) (tgt := 116) F dL_law_111 (by decide) ?_
    refine zi_icmp_ne (pc := 116) (tgt := 158) F dL_law_116 (by decide) (fun h => absurd rfl h) (fun _ => ?_)
    exact kk _ _ _ _ _ hI1 hI2
  · refine zi_callQH (pc := 99) (rest := []) (ws' := zWL G L T E V M K) F hsx hao (cr_0o l hfl G L T E V M K hIT hIE hIM (x - x / 14 * 14) (x / 14 - x / 14 / 9 * 9) hc0 hc1 hd) (vx_cwSW 4 F.1.2.2.2.2 gL_law_L_act rfl rfl rfl hd_L_act ⟨Nat.le_of_ble_eq_true rfl, Nat.le_of_ble_eq_true rfl⟩) [] [] (zw_nil _) (zw_nil _).symm rfl rfl (Nat.le_of_ble_eq_true rfl) dL_law_99 ⟨by show cells + 1 + 1 ≤ 661750; omega, by show slots + 6 + 6 ≤ 7115933; omega⟩ ?_
    refine zi_iload (pc := 102) F dL_law_102 4 rfl ?_
    refine zi_if_ne (pc := 104) (tgt := 114) F dL_law_104 (by decide) (fun _ => ?_) (fun h => absurd h hd)
    refine zi_bipush (pc := 114) (v := (-73)) F dL_law_114 rfl ?_
    refine zi_icmp_ne (pc := 116) (tgt := 158) F dL_law_116 (by decide) (fun h => absurd rfl h) (fun _ => ?_)
    exact kk _ _ _ _ _ hIE hIM
set_option maxHeartbeats 4000000 in
set_option maxRecDepth 100000 in
theorem sl_c {p : Program} {l : Launch} {e : Env} {s : State} {m : MethodId} {args : Array Value} {below : List Frame} {meth : Method} {c : Code} {Q : State → Prop} {A : Nat → Prop} {G : zG_t} {b Ln : Nat} {xs : Nat → Int32} (hfl : l.stackTraces = false) (F : zF p m c cL_law 6 s args wsL_law RL G.1 (zty G) A) (hsx : zSx s) (hao : zAOA s) {k x due had : Int32} {L T E V M K : zS_t} {cells slots : Nat} (hIT : zIT T) (hIE : zIE E) (hIM : zIM M) (hc : cells + 100 ≤ 661750) (hs : slots + 600 ≤ 7115933) (kk : ∀ (L T E V M K : zS_t), zIT T → zIE E → zIM M → zW p l e room_1 s m args below meth c cells slots Q G.1 A 6 (zWL G L T E V M K) [(0, .ref b), (1, .ref (G.2.2 0 0)), (2, .int k), (3, .int x), (4, .int due), (5, .int had)] 133 []) : zW p l e room_1 s m args below meth c cells slots Q G.1 A 6 (zWL G L T E V M K) [(0, .ref b), (1, .ref (G.2.2 0 0)), (2, .int k), (3, .int x), (4, .int due), (5, .int had)] 119 [] := by
  refine zi_iload_n (pc := 119) F dL_law_119 2 rfl ?_
  refine zi_iconst (pc := 120) (v := 4) F dL_law_120 rfl ?_
  refine zi_irem (pc := 121) F dL_law_121 (by decide) ?_
  refine zi_iconst (pc := 122) (v := 3) F dL_law_122 rfl ?_
  refine zi_icmp_ne (pc := 123) (tgt := 133) F dL_law_123 (by decide) (fun _ => ?_) (fun _ => ?_)
  · exact kk _ _ _ _ _ _ hIT hIE hIM
  obtain ⟨hI1, hI2, hI3⟩ := pp_X4_pass L T E V M K hIT hIE hIM
  refine zi_aload_n (pc := 126) F dL_law_126 1 rfl ?_
  refine zi_callVI (pc := 127) (rest := []) (ws' := zWL G ((mX4_pass L T E V M K).2.1) ((mX4_pass L T E V M K).2.2.1) ((mX4_pass L T E V M K).2.2.2.1) ((mX4_pass L T E V M K).2.2.2.2.1) ((mX4_pass L T E V M K).2.2.2.2.2.1) ((mX4_pass L T E V M K).2.2.2.2.2.2)) F (c_X4_pass l G L T E V M K hIT hIE hIM) (cwV 0 F.1.2.2.2.2 gL_law_X4_pass rfl rfl rfl hd_X4_pass ⟨Nat.le_of_ble_eq_true rfl, Nat.le_of_ble_eq_true rfl⟩) 0 rfl rfl [] [] (zw_nil _) (zw_nil _).symm rfl rfl (Nat.le_of_ble_eq_true rfl) dL_law_127 ⟨by show _ ≤ 661750; omega, by show _ ≤ 7115933; omega⟩ ?_
  refine zi_if_lt (pc := 130) (tgt := 158) F dL_law_130 (by decide) (fun h => absurd h zps_ok) (fun _ => ?_)
  exact kk _ _ _ _ _ _ hI1 hI2 hI3
set_option maxHeartbeats 4000000 in
set_option maxRecDepth 100000 in
theorem sl_d {p : Program} {l : Launch} {e : Env} {s : State} {m : MethodId} {args : Array Value} {below : List Frame} {meth : Method} {c : Code} {Q : State → Prop} {A : Nat → Prop} {G : zG_t} {b Ln : Nat} {xs : Nat → Int32} (hfl : l.stackTraces = false) (F : zF p m c cL_law 6 s args wsL_law RL G.1 (zty G) A) (hsx : zSx s) (hao : zAOA s) {k x due had : Int32} {L T E V M K : zS_t} {cells slots : Nat} (hIT : zIT T) (hIE : zIE E) (hIM : zIM M) (hc : cells + 100 ≤ 661750) (hs : slots + 600 ≤ 7115933) (kk : ∀ (L T E V M K : zS_t), zIT T → zIE E → zIM M → zW p l e room_1 s m args below meth c (cells + 1) (slots + 6) Q G.1 A 6 (zWL G L T E V M K) [(0, .ref b), (1, .ref (G.2.2 0 0)), (2, .int k), (3, .int x), (4, .int due), (5, .int had)] 151 []) : zW p l e room_1 s m args below meth c cells slots Q G.1 A 6 (zWL G L T E V M K) [(0, .ref b), (1, .ref (G.2.2 0 0)), (2, .int k), (3, .int x), (4, .int due), (5, .int had)] 133 [] := by
  refine zi_iload_n (pc := 133) F dL_law_133 2 rfl ?_
  refine zi_bipush (pc := 134) (v := 9) F dL_law_134 rfl ?_
  refine zi_irem (pc := 136) F dL_law_136 (by decide) ?_
  refine zi_bipush (pc := 137) (v := 8) F dL_law_137 rfl ?_
  refine zi_icmp_ne (pc := 139) (tgt := 151) F dL_law_139 (by decide) (fun _ => ?_) (fun _ => ?_)
  · exact zi_widen (by omega) (by omega) (kk _ _ _ _ _ _ hIT hIE hIM)
  obtain ⟨hI1, hI2, hI3, -⟩ := pp_X4_settle 60 L T E V M K hIT hIE hIM
  obtain ⟨ex, er⟩ := zst_ok (L := L) (T := T) (E := E) (V := V) (M := M) (K := K)
  refine zi_aload_n (pc := 142) F dL_law_142 1 rfl ?_
  refine zi_bipush (pc := 143) (v := 60) F dL_law_143 rfl ?_
  refine zi_callXI (pc := 145) (rest := []) (ws' := zWL G ((mX4_settle 60 L T E V M K).2.2.1) ((mX4_settle 60 L T E V M K).2.2.2.1) ((mX4_settle 60 L T E V M K).2.2.2.2.1) ((mX4_settle 60 L T E V M K).2.2.2.2.2.1) ((mX4_settle 60 L T E V M K).2.2.2.2.2.2.1) ((mX4_settle 60 L T E V M K).2.2.2.2.2.2.2)) F hsx (c_X4_settle l hfl G 60 L T E V M K hIT hIE hIM) (cwV 1 F.1.2.2.2.2 gL_law_X4_settle rfl rfl rfl hd_X4_settle ⟨Nat.le_of_ble_eq_true rfl, Nat.le_of_ble_eq_true rfl⟩) 0 rfl rfl [] [] (zw_nil _) (zw_nil _).symm rfl rfl (Nat.le_of_ble_eq_true rfl) dL_law_145 ⟨by show _ ≤ 661750; omega, by show _ ≤ 7115933; omega⟩ (fun En h9 => ?_) (fun h9 => ?_)
  · rw [ex] at h9; cases h9
  refine zi_if_lt (pc := 148) (tgt := 158) F dL_law_148 (by decide) (fun h => absurd h er) (fun _ => ?_)
  exact kk _ _ _ _ _ _ hI1 hI2 hI3
set_option maxHeartbeats 4000000 in
set_option maxRecDepth 100000 in
theorem sl_e {p : Program} {l : Launch} {e : Env} {s : State} {m : MethodId} {args : Array Value} {below : List Frame} {meth : Method} {c : Code} {Q : State → Prop} {A : Nat → Prop} {G : zG_t} {b Ln : Nat} {xs : Nat → Int32} (hfl : l.stackTraces = false) (F : zF p m c cL_law 6 s args wsL_law RL G.1 (zty G) A) (hsx : zSx s) (hao : zAOA s) {k x due had : Int32} {L T E V M K : zS_t} {cells slots : Nat} (hIT : zIT T) (hIE : zIE E) (hIM : zIM M) (hc : cells + 100 ≤ 661750) (hs : slots + 600 ≤ 7115933) (kk : zW p l e room_1 s m args below meth c (cells + rmL_refuses.cells) (slots + rmL_refuses.slots) Q G.1 A 6 (zWL G L T E V M K) [(0, .ref b), (1, .ref (G.2.2 0 0)), (2, .int (k + 1))] 36 []) : zW p l e room_1 s m args below meth c cells slots Q G.1 A 6 (zWL G L T E V M K) [(0, .ref b), (1, .ref (G.2.2 0 0)), (2, .int k), (3, .int x), (4, .int due), (5, .int had)] 151 [] := by
  refine zi_aload_n (pc := 151) F dL_law_151 1 rfl ?_
  refine zi_callQI (pc := 152) (rest := []) (ws' := zWL G L T E V M K) F hsx hao (c_L_refuses l hfl G L T E V M K hIT hIE hIM) (va_cwS 1 F.1.2.2.2.2 gL_law_L_refuses rfl rfl rfl hd_L_refuses ⟨Nat.le_of_ble_eq_true rfl, Nat.le_of_ble_eq_true rfl⟩) [] [] (zw_nil _) (zw_nil _).symm rfl rfl (Nat.le_of_ble_eq_true rfl) dL_law_152 ⟨by show cells + 72 ≤ 661750; omega, by show slots + 432 ≤ 7115933; omega⟩ ?_
  refine zi_if_ne (pc := 155) (tgt := 160) F dL_law_155 (by decide) (fun _ => ?_) (fun h => absurd h (by decide))
  refine zi_iinc (pc := 160) (v := k + 1) (lv' := [(0, .ref b), (1, .ref (G.2.2 0 0)), (2, .int (k + 1)), (3, .int x), (4, .int due), (5, .int had)]) F dL_law_160 2 rfl rfl (by decide) rfl ?_
  refine zi_goto (pc := 163) (tgt := 36) F dL_law_163 (by decide) ?_
  exact zi_sub [0, 1, 2] rfl kk
set_option maxHeartbeats 4000000 in
set_option maxRecDepth 100000 in
theorem sl_loop {p : Program} {l : Launch} {e : Env} {s : State} {m : MethodId} {args : Array Value} {below : List Frame} {meth : Method} {c : Code} {Q : State → Prop} {A : Nat → Prop} {G : zG_t} {b Ln : Nat} {xs : Nat → Int32} (hfl : l.stackTraces = false) (F : zF p m c cL_law 6 s args wsL_law RL G.1 (zty G) A) (hsx : zSx s) (hao : zAOA s) (hX : va_X b Ln xs s s.heap) (hbl : b < s.heap.size) (hbA : ¬ A b) (hLn : Ln ≤ 260) (hret : ∀ (ws : va_W) (lv : List (Nat × Value)) (cells slots : Nat), cells ≤ 661750 → slots ≤ 7115933 → zW p l e room_1 s m args below meth c cells slots Q G.1 A 6 ws lv 167 [.int 1]) :
    ∀ (n : Nat) (k : Int32) (L T E V M K : zS_t) (cells slots : Nat), k.toInt + n = 40 → 0 ≤ k.toInt → zIT T → zIE E → zIM M → cells + 80 * n ≤ 10000 → slots + 500 * n ≤ 100000 → zW p l e room_1 s m args below meth c cells slots Q G.1 A 6 (zWL G L T E V M K) [(0, .ref b), (1, .ref (G.2.2 0 0)), (2, .int k)] 36 [] := by
  intro n
  induction n with
  | zero =>
    intro k L T E V M K cells slots hk hk0 hIT hIE hIM hc hs
    have k_40 : Int32.toInt 40 = 40 := by decide
    refine zi_iload_n (pc := 36) F dL_law_36 2 rfl ?_
    refine zi_bipush (pc := 37) (v := 40) F dL_law_37 rfl ?_
    refine zi_icmp_ge (pc := 39) (tgt := 166) F dL_law_39 (by decide) (fun _ => ?_) (fun h => ?_)
    · refine zi_iconst (pc := 166) (v := 1) F dL_law_166 rfl ?_
      exact hret _ _ _ _ (by omega) (by omega)
    · have t := zt_nle h
      exact absurd t (by omega)
  | succ n ih =>
    intro k L T E V M K cells slots hk hk0 hIT hIE hIM hc hs
    have k_1 : Int32.toInt 1 = 1 := by decide
    have t1 := zt_add (a := k) (b := 1) (by omega) (by omega)
    refine sl_a hfl F hsx hao hX hbl hbA hLn hk0 (by omega) (fun x hx0 => ?_)
    refine sl_b (Ln := Ln) (xs := xs) hfl F hsx hao hx0 hIT hIE hIM (by omega) (by omega) (fun due had L1 E1 M1 hIE1 hIM1 => ?_)
    refine sl_c (Ln := Ln) (xs := xs) hfl F hsx hao hIT hIE1 hIM1 (by show cells + 1 + 1 + 100 ≤ 661750; omega) (by show slots + 6 + 6 + 600 ≤ 7115933; omega) (fun L2 T2 E2 V2 M2 K2 hIT2 hIE2 hIM2 => ?_)
    refine sl_d (Ln := Ln) (xs := xs) hfl F hsx hao hIT2 hIE2 hIM2 (by show cells + 1 + 1 + 100 ≤ 661750; omega) (by show slots + 6 + 6 + 600 ≤ 7115933; omega) (fun L3 T3 E3 V3 M3 K3 hIT3 hIE3 hIM3 => ?_)
    refine sl_e (Ln := Ln) (xs := xs) hfl F hsx hao hIT3 hIE3 hIM3 (by show cells + 1 + 1 + 1 + 100 ≤ 661750; omega) (by show slots + 6 + 6 + 6 + 600 ≤ 7115933; omega) ?_
    exact ih _ _ _ _ _ _ _ _ _ (by omega) (by omega) hIT3 hIE3 hIM3 (by show cells + 1 + 1 + 1 + 72 + 80 * n ≤ 10000; omega) (by show slots + 6 + 6 + 6 + 432 + 500 * n ≤ 100000; omega)
