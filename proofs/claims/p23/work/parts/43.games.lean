set_option maxHeartbeats 4000000 in
set_option maxRecDepth 100000 in
theorem c_L_turns (l : Launch) (hfl : l.stackTraces = false) (G : zG_t) : zNI l G.1 (zty G) yL_turns wsL_turns rmL_turns [] [] 1 [] := by
  refine zn_Z (cc := cL_turns) (maxL := 1) (by decide) rfl (Nat.le_of_ble_eq_true rfl) ?_
  intro p e s m args below meth c Q A F hsx hao hret
  show zW p l e rmL_turns s m args below meth c 0 0 Q G.1 A 1 [] [] 0 []
  refine zi_new (pc := 0) (ci := 4) (N := 11) (C := RX4) (T := TX4) F hw_L_turns tyX4 tyX4_ok (List.mem_of_getElem? (i := 1) rfl) (List.mem_of_getElem? (i := 2) rfl) (List.mem_of_getElem? (i := 3) rfl) rfl [.null, .null, .null, .null, .null, .int 0, .int 0, .int 0, .int 0, .int 0, .int 0] (by decide +kernel) (Nat.le_of_ble_eq_true rfl) (Nat.le_of_ble_eq_true rfl) dL_turns_0 (fun q1 => ?_)
  refine zi_ws (w9 := [(q1, .inr (4, [.null, .null, .null, .null, .null, .int 0, .int 0, .int 0, .int 0, .int 0, .int 0]))]) rfl ?_
  refine zi_dup (pc := 3) F dL_turns_3 rfl ?_
  refine zi_callD (pc := 4) (Wc := [(q1, .inr (4, [.null, .null, .null, .null, .null, .int 0, .int 0, .int 0, .int 0, .int 0, .int 0]))]) F hao (c_X4_init l G q1) (cwI 0 (F.1.2.2.2.2) gL_turns_X4_init rfl rfl rfl (F.1.2.2.2.2 _ (List.mem_of_getElem? (i := 3) rfl)) (F.1.2.2.2.2 _ (List.mem_of_getElem? (i := 4) rfl)) (F.1.2.2.2.2 _ (List.mem_of_getElem? (i := 5) rfl)) rfl hd_X4_init ⟨Nat.le_of_ble_eq_true rfl, Nat.le_of_ble_eq_true rfl⟩) [] [] rfl (Nat.le_of_ble_eq_true rfl) dL_turns_4 ⟨Nat.le_of_ble_eq_true rfl, Nat.le_of_ble_eq_true rfl⟩ (fun u1 => ?_)
  refine zi_ws (w9 := zWL (zad G (zat0 u1 q1)) zL0 zZ zZ zZ zZ zZ) (by rw [List.append_nil]; rfl) ?_
  refine zi_norm (zfirst (zad G (zat0 u1 q1))) ?_
  refine zi_astore_n (pc := 7) (lv' := [(0, .ref q1)]) F dL_turns_7 (by decide) rfl ?_
  refine sg_turns_0 (G := zad G (zat0 u1 q1)) hfl F hsx hao ?_
  refine sg_turns_1 (G := zad G (zat0 u1 q1)) hfl F hsx hao ?_
  refine sg_turns_2 (G := zad G (zat0 u1 q1)) hfl F hsx hao ?_
  refine sg_turns_3 (G := zad G (zat0 u1 q1)) hfl F hsx hao ?_
  refine sg_turns_4 (G := zad G (zat0 u1 q1)) hfl F hsx hao ?_
  refine sg_turns_5 (G := zad G (zat0 u1 q1)) hfl F hsx hao ?_
  refine sg_turns_6 (G := zad G (zat0 u1 q1)) hfl F hsx hao ?_
  refine zi_none ?_
  exact hret _ _ _ _ (Nat.le_of_ble_eq_true rfl) (Nat.le_of_ble_eq_true rfl) dL_turns_607 (znb (Or.inr rfl))
set_option maxHeartbeats 4000000 in
set_option maxRecDepth 100000 in
theorem c_L_layers (l : Launch) (hfl : l.stackTraces = false) (G : zG_t) : zNI l G.1 (zty G) yL_layers wsL_layers rmL_layers [] [] 1 [] := by
  refine zn_Z (cc := cL_layers) (maxL := 1) (by decide) rfl (Nat.le_of_ble_eq_true rfl) ?_
  intro p e s m args below meth c Q A F hsx hao hret
  show zW p l e rmL_layers s m args below meth c 0 0 Q G.1 A 1 [] [] 0 []
  refine zi_new (pc := 0) (ci := 4) (N := 11) (C := RX4) (T := TX4) F hw_L_layers tyX4 tyX4_ok (List.mem_of_getElem? (i := 1) rfl) (List.mem_of_getElem? (i := 2) rfl) (List.mem_of_getElem? (i := 3) rfl) rfl [.null, .null, .null, .null, .null, .int 0, .int 0, .int 0, .int 0, .int 0, .int 0] (by decide +kernel) (Nat.le_of_ble_eq_true rfl) (Nat.le_of_ble_eq_true rfl) dL_layers_0 (fun q1 => ?_)
  refine zi_ws (w9 := [(q1, .inr (4, [.null, .null, .null, .null, .null, .int 0, .int 0, .int 0, .int 0, .int 0, .int 0]))]) rfl ?_
  refine zi_dup (pc := 3) F dL_layers_3 rfl ?_
  refine zi_callD (pc := 4) (Wc := [(q1, .inr (4, [.null, .null, .null, .null, .null, .int 0, .int 0, .int 0, .int 0, .int 0, .int 0]))]) F hao (c_X4_init l G q1) (cwI 0 (F.1.2.2.2.2) gL_layers_X4_init rfl rfl rfl (F.1.2.2.2.2 _ (List.mem_of_getElem? (i := 3) rfl)) (F.1.2.2.2.2 _ (List.mem_of_getElem? (i := 4) rfl)) (F.1.2.2.2.2 _ (List.mem_of_getElem? (i := 5) rfl)) rfl hd_X4_init ⟨Nat.le_of_ble_eq_true rfl, Nat.le_of_ble_eq_true rfl⟩) [] [] rfl (Nat.le_of_ble_eq_true rfl) dL_layers_4 ⟨Nat.le_of_ble_eq_true rfl, Nat.le_of_ble_eq_true rfl⟩ (fun u1 => ?_)
  refine zi_ws (w9 := zWL (zad G (zat0 u1 q1)) zL0 zZ zZ zZ zZ zZ) (by rw [List.append_nil]; rfl) ?_
  refine zi_norm (zfirst (zad G (zat0 u1 q1))) ?_
  refine zi_astore_n (pc := 7) (lv' := [(0, .ref q1)]) F dL_layers_7 (by decide) rfl ?_
  refine sg_layers_0 (G := zad G (zat0 u1 q1)) hfl F hsx hao ?_
  refine sg_layers_1 (G := zad G (zat0 u1 q1)) hfl F hsx hao ?_
  refine sg_layers_2 (G := zad G (zat0 u1 q1)) hfl F hsx hao ?_
  refine sg_layers_3 (G := zad G (zat0 u1 q1)) hfl F hsx hao ?_
  refine sg_layers_4 (G := zad G (zat0 u1 q1)) hfl F hsx hao ?_
  refine sg_layers_5 (G := zad G (zat0 u1 q1)) hfl F hsx hao ?_
  refine sg_layers_6 (G := zad G (zat0 u1 q1)) hfl F hsx hao ?_
  refine zi_none ?_
  exact hret _ _ _ _ (Nat.le_of_ble_eq_true rfl) (Nat.le_of_ble_eq_true rfl) dL_layers_632 (znb (Or.inr rfl))
set_option maxHeartbeats 4000000 in
set_option maxRecDepth 100000 in
theorem c_L_stacks (l : Launch) (hfl : l.stackTraces = false) (G : zG_t) : zNI l G.1 (zty G) yL_stacks wsL_stacks rmL_stacks [] [] 1 [] := by
  refine zn_Z (cc := cL_stacks) (maxL := 2) (by decide) rfl (Nat.le_of_ble_eq_true rfl) ?_
  intro p e s m args below meth c Q A F hsx hao hret
  show zW p l e rmL_stacks s m args below meth c 0 0 Q G.1 A 2 [] [] 0 []
  refine zi_new (pc := 0) (ci := 4) (N := 11) (C := RX4) (T := TX4) F hw_L_stacks tyX4 tyX4_ok (List.mem_of_getElem? (i := 1) rfl) (List.mem_of_getElem? (i := 2) rfl) (List.mem_of_getElem? (i := 3) rfl) rfl [.null, .null, .null, .null, .null, .int 0, .int 0, .int 0, .int 0, .int 0, .int 0] (by decide +kernel) (Nat.le_of_ble_eq_true rfl) (Nat.le_of_ble_eq_true rfl) dL_stacks_0 (fun q1 => ?_)
  refine zi_ws (w9 := [(q1, .inr (4, [.null, .null, .null, .null, .null, .int 0, .int 0, .int 0, .int 0, .int 0, .int 0]))]) rfl ?_
  refine zi_dup (pc := 3) F dL_stacks_3 rfl ?_
  refine zi_callD (pc := 4) (Wc := [(q1, .inr (4, [.null, .null, .null, .null, .null, .int 0, .int 0, .int 0, .int 0, .int 0, .int 0]))]) F hao (c_X4_init l G q1) (cwI 0 (F.1.2.2.2.2) gL_stacks_X4_init rfl rfl rfl (F.1.2.2.2.2 _ (List.mem_of_getElem? (i := 3) rfl)) (F.1.2.2.2.2 _ (List.mem_of_getElem? (i := 4) rfl)) (F.1.2.2.2.2 _ (List.mem_of_getElem? (i := 5) rfl)) rfl hd_X4_init ⟨Nat.le_of_ble_eq_true rfl, Nat.le_of_ble_eq_true rfl⟩) [] [] rfl (Nat.le_of_ble_eq_true rfl) dL_stacks_4 ⟨Nat.le_of_ble_eq_true rfl, Nat.le_of_ble_eq_true rfl⟩ (fun u1 => ?_)
  refine zi_ws (w9 := zWL (zad G (zat0 u1 q1)) zL0 zZ zZ zZ zZ zZ) (by rw [List.append_nil]; rfl) ?_
  refine zi_norm (zfirst (zad G (zat0 u1 q1))) ?_
  refine zi_astore_n (pc := 7) (lv' := [(0, .ref q1)]) F dL_stacks_7 (by decide) rfl ?_
  refine sg_stacks_0 (G := zad G (zat0 u1 q1)) hfl F hsx hao ?_
  refine sg_stacks_1 (G := zad G (zat0 u1 q1)) hfl F hsx hao ?_
  refine sg_stacks_2 (G := zad G (zat0 u1 q1)) hfl F hsx hao ?_
  refine sg_stacks_3 (G := zad G (zat0 u1 q1)) hfl F hsx hao ?_
  refine sg_stacks_4 (G := zad G (zat0 u1 q1)) hfl F hsx hao ?_
  refine sg_stacks_5 (G := zad G (zat0 u1 q1)) hfl F hsx hao ?_
  refine zi_none ?_
  refine zi_sub [] rfl ?_
  refine zi_new (pc := 312) (ci := 4) (N := 11) (C := RX4) (T := TX4) F hw_L_stacks tyX4 tyX4_ok (List.mem_of_getElem? (i := 1) rfl) (List.mem_of_getElem? (i := 2) rfl) (List.mem_of_getElem? (i := 3) rfl) rfl [.null, .null, .null, .null, .null, .int 0, .int 0, .int 0, .int 0, .int 0, .int 0] (by decide +kernel) (Nat.le_of_ble_eq_true rfl) (Nat.le_of_ble_eq_true rfl) dL_stacks_312 (fun q2 => ?_)
  refine zi_ws (w9 := [(q2, .inr (4, [.null, .null, .null, .null, .null, .int 0, .int 0, .int 0, .int 0, .int 0, .int 0]))]) rfl ?_
  refine zi_dup (pc := 315) F dL_stacks_315 rfl ?_
  refine zi_callD (pc := 316) (Wc := [(q2, .inr (4, [.null, .null, .null, .null, .null, .int 0, .int 0, .int 0, .int 0, .int 0, .int 0]))]) F hao (c_X4_init l G q2) (cwI 0 (F.1.2.2.2.2) gL_stacks_X4_init rfl rfl rfl (F.1.2.2.2.2 _ (List.mem_of_getElem? (i := 3) rfl)) (F.1.2.2.2.2 _ (List.mem_of_getElem? (i := 4) rfl)) (F.1.2.2.2.2 _ (List.mem_of_getElem? (i := 5) rfl)) rfl hd_X4_init ⟨Nat.le_of_ble_eq_true rfl, Nat.le_of_ble_eq_true rfl⟩) [] [] rfl (Nat.le_of_ble_eq_true rfl) dL_stacks_316 ⟨Nat.le_of_ble_eq_true rfl, Nat.le_of_ble_eq_true rfl⟩ (fun u2 => ?_)
  refine zi_ws (w9 := zWL (zad G (zat0 u2 q2)) zL0 zZ zZ zZ zZ zZ) (by rw [List.append_nil]; rfl) ?_
  refine zi_norm (zfirst (zad G (zat0 u2 q2))) ?_
  refine zi_astore_n (pc := 319) (lv' := [(1, .ref q2)]) F dL_stacks_319 (by decide) rfl ?_
  refine sg_stacks_6 (G := zad G (zat0 u2 q2)) hfl F hsx hao ?_
  refine sg_stacks_7 (G := zad G (zat0 u2 q2)) hfl F hsx hao ?_
  refine sg_stacks_8 (G := zad G (zat0 u2 q2)) hfl F hsx hao ?_
  refine zi_none ?_
  exact hret _ _ _ _ (Nat.le_of_ble_eq_true rfl) (Nat.le_of_ble_eq_true rfl) dL_stacks_584 (znb (Or.inr rfl))
set_option maxHeartbeats 4000000 in
set_option maxRecDepth 100000 in
theorem c_L_loops (l : Launch) (hfl : l.stackTraces = false) (G : zG_t) : zNI l G.1 (zty G) yL_loops wsL_loops rmL_loops [] [] 1 [] := by
  refine zn_Z (cc := cL_loops) (maxL := 2) (by decide) rfl (Nat.le_of_ble_eq_true rfl) ?_
  intro p e s m args below meth c Q A F hsx hao hret
  show zW p l e rmL_loops s m args below meth c 0 0 Q G.1 A 2 [] [] 0 []
  refine zi_new (pc := 0) (ci := 4) (N := 11) (C := RX4) (T := TX4) F hw_L_loops tyX4 tyX4_ok (List.mem_of_getElem? (i := 1) rfl) (List.mem_of_getElem? (i := 2) rfl) (List.mem_of_getElem? (i := 3) rfl) rfl [.null, .null, .null, .null, .null, .int 0, .int 0, .int 0, .int 0, .int 0, .int 0] (by decide +kernel) (Nat.le_of_ble_eq_true rfl) (Nat.le_of_ble_eq_true rfl) dL_loops_0 (fun q1 => ?_)
  refine zi_ws (w9 := [(q1, .inr (4, [.null, .null, .null, .null, .null, .int 0, .int 0, .int 0, .int 0, .int 0, .int 0]))]) rfl ?_
  refine zi_dup (pc := 3) F dL_loops_3 rfl ?_
  refine zi_callD (pc := 4) (Wc := [(q1, .inr (4, [.null, .null, .null, .null, .null, .int 0, .int 0, .int 0, .int 0, .int 0, .int 0]))]) F hao (c_X4_init l G q1) (cwI 0 (F.1.2.2.2.2) gL_loops_X4_init rfl rfl rfl (F.1.2.2.2.2 _ (List.mem_of_getElem? (i := 3) rfl)) (F.1.2.2.2.2 _ (List.mem_of_getElem? (i := 4) rfl)) (F.1.2.2.2.2 _ (List.mem_of_getElem? (i := 5) rfl)) rfl hd_X4_init ⟨Nat.le_of_ble_eq_true rfl, Nat.le_of_ble_eq_true rfl⟩) [] [] rfl (Nat.le_of_ble_eq_true rfl) dL_loops_4 ⟨Nat.le_of_ble_eq_true rfl, Nat.le_of_ble_eq_true rfl⟩ (fun u1 => ?_)
  refine zi_ws (w9 := zWL (zad G (zat0 u1 q1)) zL0 zZ zZ zZ zZ zZ) (by rw [List.append_nil]; rfl) ?_
  refine zi_norm (zfirst (zad G (zat0 u1 q1))) ?_
  refine zi_astore_n (pc := 7) (lv' := [(0, .ref q1)]) F dL_loops_7 (by decide) rfl ?_
  refine sg_loops_0 (G := zad G (zat0 u1 q1)) hfl F hsx hao ?_
  refine sg_loops_1 (G := zad G (zat0 u1 q1)) hfl F hsx hao ?_
  refine sg_loops_2 (G := zad G (zat0 u1 q1)) hfl F hsx hao ?_
  refine sg_loops_3 (G := zad G (zat0 u1 q1)) hfl F hsx hao ?_
  refine sg_loops_4 (G := zad G (zat0 u1 q1)) hfl F hsx hao ?_
  refine sg_loops_5 (G := zad G (zat0 u1 q1)) hfl F hsx hao ?_
  refine sg_loops_6 (G := zad G (zat0 u1 q1)) hfl F hsx hao ?_
  refine sg_loops_7 (G := zad G (zat0 u1 q1)) hfl F hsx hao ?_
  refine zi_none ?_
  exact hret _ _ _ _ (Nat.le_of_ble_eq_true rfl) (Nat.le_of_ble_eq_true rfl) dL_loops_326 (znb (Or.inr rfl))
