def zat (u : zU_t) (a : Nat) : zU_t
  | 5 => u 5
  | o => fun i => match i with
    | 0 => a
    | i + 1 => u o (i + 1)
def zpur : Nat → Int32 := upd (upd (upd (fun _ => 0) (0 : Int32).toNatClampNeg 6) (1 : Int32).toNatClampNeg 6) (2 : Int32).toNatClampNeg 6
def zL0 : zS_t
  | 0 => zpur
  | _ => fun _ => 0
def zR0 : zS_t
  | 5 => zpur
  | _ => fun _ => 0
/-! X2_init -/
theorem hw_X2_init : ∀ w ∈ wsX20, w ∈ wsX2_init := fun w h => List.mem_cons_of_mem _ (List.mem_append_right _ (h))
abbrev rmX2_init : Room := { frames := 1, cells := 4, slots := 40, locals := 12 }
theorem hd_X2_init : yX2_init.cls ≠ "java/lang/invoke/MethodHandle" ∧ yX2_init.cls ≠ "java/lang/invoke/VarHandle" ∧ (parseMethodDescriptor yX2_init.desc).map (fun d => d.parameters.length) = some 0 := by decide +kernel
set_option maxHeartbeats 4000000 in
set_option maxRecDepth 100000 in
theorem c_X2_init (l : Launch) (G : zG_t) (a : Nat) : zCN l G.1 (zty G) yX2_init wsX2_init rmX2_init a [(a, .inr (2, [.null, .null, .null, .null, .int 0]))] (fun u => zWT (zad G (zat u a)) zZ) := by
  refine zb_N (cc := cX2_init) (maxL := 1) (by decide) rfl rfl (Nat.le_of_ble_eq_true rfl) ?_
  intro p e s m args below meth c Q A F hao hmn hret
  show zW p l e rmX2_init s m args below meth c 0 0 Q G.1 A 1 [(a, .inr (2, [.null, .null, .null, .null, .int 0]))] [(0, .ref a)] 0 []
  refine zi_aload_n (pc := 0) F dX2_init_0 0 rfl ?_
  refine zi_objI (pc := 1) F (List.mem_of_getElem? (i := 1) rfl) (List.mem_of_getElem? (i := 2) rfl) (List.mem_of_getElem? (i := 3) rfl) dX2_init_1 (Nat.le_of_ble_eq_true rfl) (Nat.le_of_ble_eq_true rfl) ?_
  refine zi_aload_n (pc := 4) F dX2_init_4 0 rfl ?_
  refine zi_bipush (pc := 5) (v := 10) F dX2_init_5 rfl ?_
  refine zi_newa (pc := 7) (ty := .int) (a0 := (10, .inl (fun _ => 0))) F 0 rfl (fun _ h1 h2 => zra_i h1 h2) (List.mem_of_getElem? (i := 4) rfl) rfl (fun _ => rfl) (by decide) rfl (by decide) dX2_init_7 (Nat.le_of_ble_eq_true rfl) (Nat.le_of_ble_eq_true rfl) (fun q1 => ?_)
  refine zi_ws (w9 := [(a, .inr (2, [.null, .null, .null, .null, .int 0])), (q1, .inl (G.2.1 0, 10, .inl (fun _ => 0)))]) rfl ?_
  refine zi_putF (pc := 9) (C := RX2) (T := TX2) (N := 5) (ty := .array .int) (ws' := [(a, .inr (2, [.ref q1, .null, .null, .null, .int 0])), (q1, .inl (G.2.1 0, 10, .inl (fun _ => 0)))]) F hmn hw_X2_init tyX2 tyX2_ok nmX2 0 rfl rfl 0 (by decide) (List.mem_of_getElem? (i := 5) rfl) rfl rfl rfl rfl rfl rfl (Nat.le_of_ble_eq_true rfl) rfl dX2_init_9 ?_
  refine zi_aload_n (pc := 12) F dX2_init_12 0 rfl ?_
  refine zi_bipush (pc := 13) (v := 10) F dX2_init_13 rfl ?_
  refine zi_newa (pc := 15) (ty := .int) (a0 := (10, .inl (fun _ => 0))) F 0 rfl (fun _ h1 h2 => zra_i h1 h2) (List.mem_of_getElem? (i := 4) rfl) rfl (fun _ => rfl) (by decide) rfl (by decide) dX2_init_15 (Nat.le_of_ble_eq_true rfl) (Nat.le_of_ble_eq_true rfl) (fun q2 => ?_)
  refine zi_ws (w9 := [(a, .inr (2, [.ref q1, .null, .null, .null, .int 0])), (q1, .inl (G.2.1 0, 10, .inl (fun _ => 0))), (q2, .inl (G.2.1 0, 10, .inl (fun _ => 0)))]) rfl ?_
  refine zi_putF (pc := 17) (C := RX2) (T := TX2) (N := 5) (ty := .array .int) (ws' := [(a, .inr (2, [.ref q1, .ref q2, .null, .null, .int 0])), (q1, .inl (G.2.1 0, 10, .inl (fun _ => 0))), (q2, .inl (G.2.1 0, 10, .inl (fun _ => 0)))]) F hmn hw_X2_init tyX2 tyX2_ok nmX2 0 rfl rfl 1 (by decide) (List.mem_of_getElem? (i := 6) rfl) rfl rfl rfl rfl rfl rfl (Nat.le_of_ble_eq_true rfl) rfl dX2_init_17 ?_
  refine zi_aload_n (pc := 20) F dX2_init_20 0 rfl ?_
  refine zi_bipush (pc := 21) (v := 10) F dX2_init_21 rfl ?_
  refine zi_newa (pc := 23) (ty := .int) (a0 := (10, .inl (fun _ => 0))) F 0 rfl (fun _ h1 h2 => zra_i h1 h2) (List.mem_of_getElem? (i := 4) rfl) rfl (fun _ => rfl) (by decide) rfl (by decide) dX2_init_23 (Nat.le_of_ble_eq_true rfl) (Nat.le_of_ble_eq_true rfl) (fun q3 => ?_)
  refine zi_ws (w9 := [(a, .inr (2, [.ref q1, .ref q2, .null, .null, .int 0])), (q1, .inl (G.2.1 0, 10, .inl (fun _ => 0))), (q2, .inl (G.2.1 0, 10, .inl (fun _ => 0))), (q3, .inl (G.2.1 0, 10, .inl (fun _ => 0)))]) rfl ?_
  refine zi_putF (pc := 25) (C := RX2) (T := TX2) (N := 5) (ty := .array .int) (ws' := [(a, .inr (2, [.ref q1, .ref q2, .ref q3, .null, .int 0])), (q1, .inl (G.2.1 0, 10, .inl (fun _ => 0))), (q2, .inl (G.2.1 0, 10, .inl (fun _ => 0))), (q3, .inl (G.2.1 0, 10, .inl (fun _ => 0)))]) F hmn hw_X2_init tyX2 tyX2_ok nmX2 0 rfl rfl 2 (by decide) (List.mem_of_getElem? (i := 7) rfl) rfl rfl rfl rfl rfl rfl (Nat.le_of_ble_eq_true rfl) rfl dX2_init_25 ?_
  refine zi_aload_n (pc := 28) F dX2_init_28 0 rfl ?_
  refine zi_bipush (pc := 29) (v := 10) F dX2_init_29 rfl ?_
  refine zi_newa (pc := 31) (ty := .int) (a0 := (10, .inl (fun _ => 0))) F 0 rfl (fun _ h1 h2 => zra_i h1 h2) (List.mem_of_getElem? (i := 4) rfl) rfl (fun _ => rfl) (by decide) rfl (by decide) dX2_init_31 (Nat.le_of_ble_eq_true rfl) (Nat.le_of_ble_eq_true rfl) (fun q4 => ?_)
  refine zi_ws (w9 := [(a, .inr (2, [.ref q1, .ref q2, .ref q3, .null, .int 0])), (q1, .inl (G.2.1 0, 10, .inl (fun _ => 0))), (q2, .inl (G.2.1 0, 10, .inl (fun _ => 0))), (q3, .inl (G.2.1 0, 10, .inl (fun _ => 0))), (q4, .inl (G.2.1 0, 10, .inl (fun _ => 0)))]) rfl ?_
  refine zi_putF (pc := 33) (C := RX2) (T := TX2) (N := 5) (ty := .array .int) (ws' := [(a, .inr (2, [.ref q1, .ref q2, .ref q3, .ref q4, .int 0])), (q1, .inl (G.2.1 0, 10, .inl (fun _ => 0))), (q2, .inl (G.2.1 0, 10, .inl (fun _ => 0))), (q3, .inl (G.2.1 0, 10, .inl (fun _ => 0))), (q4, .inl (G.2.1 0, 10, .inl (fun _ => 0)))]) F hmn hw_X2_init tyX2 tyX2_ok nmX2 0 rfl rfl 3 (by decide) (List.mem_of_getElem? (i := 8) rfl) rfl rfl rfl rfl rfl rfl (Nat.le_of_ble_eq_true rfl) rfl dX2_init_33 ?_
  exact hret (fun _ i => [a, q1, q2, q3, q4].getD i 0) 36 _ _ _ _ rfl rfl dX2_init_36 (List.Perm.refl _)
/-! X0_init -/
theorem hw_X0_init : ∀ w ∈ wsX00, w ∈ wsX0_init := fun w h => List.mem_cons_of_mem _ (List.mem_append_right _ (h))
abbrev rmX0_init : Room := { frames := 1, cells := 5, slots := 60, locals := 12 }
theorem hd_X0_init : yX0_init.cls ≠ "java/lang/invoke/MethodHandle" ∧ yX0_init.cls ≠ "java/lang/invoke/VarHandle" ∧ (parseMethodDescriptor yX0_init.desc).map (fun d => d.parameters.length) = some 0 := by decide +kernel
set_option maxHeartbeats 4000000 in
set_option maxRecDepth 100000 in
theorem c_X0_init (l : Launch) (G : zG_t) (a : Nat) : zCN l G.1 (zty G) yX0_init wsX0_init rmX0_init a [(a, .inr (0, [.null, .null, .null, .null, .null, .int 0]))] (fun u => zWE (zad G (zat u a)) zZ) := by
  refine zb_N (cc := cX0_init) (maxL := 1) (by decide) rfl rfl (Nat.le_of_ble_eq_true rfl) ?_
  intro p e s m args below meth c Q A F hao hmn hret
  show zW p l e rmX0_init s m args below meth c 0 0 Q G.1 A 1 [(a, .inr (0, [.null, .null, .null, .null, .null, .int 0]))] [(0, .ref a)] 0 []
  refine zi_aload_n (pc := 0) F dX0_init_0 0 rfl ?_
  refine zi_objI (pc := 1) F (List.mem_of_getElem? (i := 1) rfl) (List.mem_of_getElem? (i := 2) rfl) (List.mem_of_getElem? (i := 3) rfl) dX0_init_1 (Nat.le_of_ble_eq_true rfl) (Nat.le_of_ble_eq_true rfl) ?_
  refine zi_aload_n (pc := 4) F dX0_init_4 0 rfl ?_
  refine zi_bipush (pc := 5) (v := 12) F dX0_init_5 rfl ?_
  refine zi_newa (pc := 7) (ty := .int) (a0 := (12, .inl (fun _ => 0))) F 0 rfl (fun _ h1 h2 => zra_i h1 h2) (List.mem_of_getElem? (i := 4) rfl) rfl (fun _ => rfl) (by decide) rfl (by decide) dX0_init_7 (Nat.le_of_ble_eq_true rfl) (Nat.le_of_ble_eq_true rfl) (fun q1 => ?_)
  refine zi_ws (w9 := [(a, .inr (0, [.null, .null, .null, .null, .null, .int 0])), (q1, .inl (G.2.1 0, 12, .inl (fun _ => 0)))]) rfl ?_
  refine zi_putF (pc := 9) (C := RX0) (T := TX0) (N := 6) (ty := .array .int) (ws' := [(a, .inr (0, [.ref q1, .null, .null, .null, .null, .int 0])), (q1, .inl (G.2.1 0, 12, .inl (fun _ => 0)))]) F hmn hw_X0_init tyX0 tyX0_ok nmX0 0 rfl rfl 0 (by decide) (List.mem_of_getElem? (i := 5) rfl) rfl rfl rfl rfl rfl rfl (Nat.le_of_ble_eq_true rfl) rfl dX0_init_9 ?_
  refine zi_aload_n (pc := 12) F dX0_init_12 0 rfl ?_
  refine zi_bipush (pc := 13) (v := 12) F dX0_init_13 rfl ?_
  refine zi_newa (pc := 15) (ty := .boolean) (a0 := (12, .inl (fun _ => 0))) F 1 rfl (fun _ h1 h2 => zra_z h1 h2) (List.mem_of_getElem? (i := 6) rfl) rfl (fun _ => rfl) (by decide) rfl (by decide) dX0_init_15 (Nat.le_of_ble_eq_true rfl) (Nat.le_of_ble_eq_true rfl) (fun q2 => ?_)
  refine zi_ws (w9 := [(a, .inr (0, [.ref q1, .null, .null, .null, .null, .int 0])), (q1, .inl (G.2.1 0, 12, .inl (fun _ => 0))), (q2, .inl (G.2.1 1, 12, .inl (fun _ => 0)))]) rfl ?_
  refine zi_putF (pc := 17) (C := RX0) (T := TX0) (N := 6) (ty := .array .boolean) (ws' := [(a, .inr (0, [.ref q1, .ref q2, .null, .null, .null, .int 0])), (q1, .inl (G.2.1 0, 12, .inl (fun _ => 0))), (q2, .inl (G.2.1 1, 12, .inl (fun _ => 0)))]) F hmn hw_X0_init tyX0 tyX0_ok nmX0 0 rfl rfl 1 (by decide) (List.mem_of_getElem? (i := 7) rfl) rfl rfl rfl rfl rfl rfl (Nat.le_of_ble_eq_true rfl) rfl dX0_init_17 ?_
  refine zi_aload_n (pc := 20) F dX0_init_20 0 rfl ?_
  refine zi_bipush (pc := 21) (v := 12) F dX0_init_21 rfl ?_
  refine zi_newa (pc := 23) (ty := .int) (a0 := (12, .inl (fun _ => 0))) F 0 rfl (fun _ h1 h2 => zra_i h1 h2) (List.mem_of_getElem? (i := 4) rfl) rfl (fun _ => rfl) (by decide) rfl (by decide) dX0_init_23 (Nat.le_of_ble_eq_true rfl) (Nat.le_of_ble_eq_true rfl) (fun q3 => ?_)
  refine zi_ws (w9 := [(a, .inr (0, [.ref q1, .ref q2, .null, .null, .null, .int 0])), (q1, .inl (G.2.1 0, 12, .inl (fun _ => 0))), (q2, .inl (G.2.1 1, 12, .inl (fun _ => 0))), (q3, .inl (G.2.1 0, 12, .inl (fun _ => 0)))]) rfl ?_
  refine zi_putF (pc := 25) (C := RX0) (T := TX0) (N := 6) (ty := .array .int) (ws' := [(a, .inr (0, [.ref q1, .ref q2, .ref q3, .null, .null, .int 0])), (q1, .inl (G.2.1 0, 12, .inl (fun _ => 0))), (q2, .inl (G.2.1 1, 12, .inl (fun _ => 0))), (q3, .inl (G.2.1 0, 12, .inl (fun _ => 0)))]) F hmn hw_X0_init tyX0 tyX0_ok nmX0 0 rfl rfl 2 (by decide) (List.mem_of_getElem? (i := 8) rfl) rfl rfl rfl rfl rfl rfl (Nat.le_of_ble_eq_true rfl) rfl dX0_init_25 ?_
  refine zi_aload_n (pc := 28) F dX0_init_28 0 rfl ?_
  refine zi_bipush (pc := 29) (v := 12) F dX0_init_29 rfl ?_
  refine zi_newa (pc := 31) (ty := .int) (a0 := (12, .inl (fun _ => 0))) F 0 rfl (fun _ h1 h2 => zra_i h1 h2) (List.mem_of_getElem? (i := 4) rfl) rfl (fun _ => rfl) (by decide) rfl (by decide) dX0_init_31 (Nat.le_of_ble_eq_true rfl) (Nat.le_of_ble_eq_true rfl) (fun q4 => ?_)
  refine zi_ws (w9 := [(a, .inr (0, [.ref q1, .ref q2, .ref q3, .null, .null, .int 0])), (q1, .inl (G.2.1 0, 12, .inl (fun _ => 0))), (q2, .inl (G.2.1 1, 12, .inl (fun _ => 0))), (q3, .inl (G.2.1 0, 12, .inl (fun _ => 0))), (q4, .inl (G.2.1 0, 12, .inl (fun _ => 0)))]) rfl ?_
  refine zi_putF (pc := 33) (C := RX0) (T := TX0) (N := 6) (ty := .array .int) (ws' := [(a, .inr (0, [.ref q1, .ref q2, .ref q3, .ref q4, .null, .int 0])), (q1, .inl (G.2.1 0, 12, .inl (fun _ => 0))), (q2, .inl (G.2.1 1, 12, .inl (fun _ => 0))), (q3, .inl (G.2.1 0, 12, .inl (fun _ => 0))), (q4, .inl (G.2.1 0, 12, .inl (fun _ => 0)))]) F hmn hw_X0_init tyX0 tyX0_ok nmX0 0 rfl rfl 3 (by decide) (List.mem_of_getElem? (i := 9) rfl) rfl rfl rfl rfl rfl rfl (Nat.le_of_ble_eq_true rfl) rfl dX0_init_33 ?_
  refine zi_aload_n (pc := 36) F dX0_init_36 0 rfl ?_
  refine zi_bipush (pc := 37) (v := 12) F dX0_init_37 rfl ?_
  refine zi_newa (pc := 39) (ty := .int) (a0 := (12, .inl (fun _ => 0))) F 0 rfl (fun _ h1 h2 => zra_i h1 h2) (List.mem_of_getElem? (i := 4) rfl) rfl (fun _ => rfl) (by decide) rfl (by decide) dX0_init_39 (Nat.le_of_ble_eq_true rfl) (Nat.le_of_ble_eq_true rfl) (fun q5 => ?_)
  refine zi_ws (w9 := [(a, .inr (0, [.ref q1, .ref q2, .ref q3, .ref q4, .null, .int 0])), (q1, .inl (G.2.1 0, 12, .inl (fun _ => 0))), (q2, .inl (G.2.1 1, 12, .inl (fun _ => 0))), (q3, .inl (G.2.1 0, 12, .inl (fun _ => 0))), (q4, .inl (G.2.1 0, 12, .inl (fun _ => 0))), (q5, .inl (G.2.1 0, 12, .inl (fun _ => 0)))]) rfl ?_
  refine zi_putF (pc := 41) (C := RX0) (T := TX0) (N := 6) (ty := .array .int) (ws' := [(a, .inr (0, [.ref q1, .ref q2, .ref q3, .ref q4, .ref q5, .int 0])), (q1, .inl (G.2.1 0, 12, .inl (fun _ => 0))), (q2, .inl (G.2.1 1, 12, .inl (fun _ => 0))), (q3, .inl (G.2.1 0, 12, .inl (fun _ => 0))), (q4, .inl (G.2.1 0, 12, .inl (fun _ => 0))), (q5, .inl (G.2.1 0, 12, .inl (fun _ => 0)))]) F hmn hw_X0_init tyX0 tyX0_ok nmX0 0 rfl rfl 4 (by decide) (List.mem_of_getElem? (i := 10) rfl) rfl rfl rfl rfl rfl rfl (Nat.le_of_ble_eq_true rfl) rfl dX0_init_41 ?_
  exact hret (fun _ i => [a, q1, q2, q3, q4, q5].getD i 0) 44 _ _ _ _ rfl rfl dX0_init_44 (List.Perm.refl _)
/-! X3_init -/
theorem hw_X3_init : ∀ w ∈ wsX30, w ∈ wsX3_init := fun w h => List.mem_cons_of_mem _ (List.mem_append_right _ (h))
abbrev rmX3_init : Room := { frames := 1, cells := 5, slots := 50, locals := 12 }
theorem hd_X3_init : yX3_init.cls ≠ "java/lang/invoke/MethodHandle" ∧ yX3_init.cls ≠ "java/lang/invoke/VarHandle" ∧ (parseMethodDescriptor yX3_init.desc).map (fun d => d.parameters.length) = some 0 := by decide +kernel
set_option maxHeartbeats 4000000 in
set_option maxRecDepth 100000 in
theorem c_X3_init (l : Launch) (G : zG_t) (a : Nat) : zCN l G.1 (zty G) yX3_init wsX3_init rmX3_init a [(a, .inr (3, [.null, .null, .null, .null, .null]))] (fun u => zWV (zad G (zat u a)) zZ) := by
  refine zb_N (cc := cX3_init) (maxL := 1) (by decide) rfl rfl (Nat.le_of_ble_eq_true rfl) ?_
  intro p e s m args below meth c Q A F hao hmn hret
  show zW p l e rmX3_init s m args below meth c 0 0 Q G.1 A 1 [(a, .inr (3, [.null, .null, .null, .null, .null]))] [(0, .ref a)] 0 []
  refine zi_aload_n (pc := 0) F dX3_init_0 0 rfl ?_
  refine zi_objI (pc := 1) F (List.mem_of_getElem? (i := 1) rfl) (List.mem_of_getElem? (i := 2) rfl) (List.mem_of_getElem? (i := 3) rfl) dX3_init_1 (Nat.le_of_ble_eq_true rfl) (Nat.le_of_ble_eq_true rfl) ?_
  refine zi_aload_n (pc := 4) F dX3_init_4 0 rfl ?_
  refine zi_bipush (pc := 5) (v := 10) F dX3_init_5 rfl ?_
  refine zi_newa (pc := 7) (ty := .int) (a0 := (10, .inl (fun _ => 0))) F 0 rfl (fun _ h1 h2 => zra_i h1 h2) (List.mem_of_getElem? (i := 4) rfl) rfl (fun _ => rfl) (by decide) rfl (by decide) dX3_init_7 (Nat.le_of_ble_eq_true rfl) (Nat.le_of_ble_eq_true rfl) (fun q1 => ?_)
  refine zi_ws (w9 := [(a, .inr (3, [.null, .null, .null, .null, .null])), (q1, .inl (G.2.1 0, 10, .inl (fun _ => 0)))]) rfl ?_
  refine zi_putF (pc := 9) (C := RX3) (T := TX3) (N := 5) (ty := .array .int) (ws' := [(a, .inr (3, [.ref q1, .null, .null, .null, .null])), (q1, .inl (G.2.1 0, 10, .inl (fun _ => 0)))]) F hmn hw_X3_init tyX3 tyX3_ok nmX3 0 rfl rfl 0 (by decide) (List.mem_of_getElem? (i := 5) rfl) rfl rfl rfl rfl rfl rfl (Nat.le_of_ble_eq_true rfl) rfl dX3_init_9 ?_
  refine zi_aload_n (pc := 12) F dX3_init_12 0 rfl ?_
  refine zi_bipush (pc := 13) (v := 10) F dX3_init_13 rfl ?_
  refine zi_newa (pc := 15) (ty := .int) (a0 := (10, .inl (fun _ => 0))) F 0 rfl (fun _ h1 h2 => zra_i h1 h2) (List.mem_of_getElem? (i := 4) rfl) rfl (fun _ => rfl) (by decide) rfl (by decide) dX3_init_15 (Nat.le_of_ble_eq_true rfl) (Nat.le_of_ble_eq_true rfl) (fun q2 => ?_)
  refine zi_ws (w9 := [(a, .inr (3, [.ref q1, .null, .null, .null, .null])), (q1, .inl (G.2.1 0, 10, .inl (fun _ => 0))), (q2, .inl (G.2.1 0, 10, .inl (fun _ => 0)))]) rfl ?_
  refine zi_putF (pc := 17) (C := RX3) (T := TX3) (N := 5) (ty := .array .int) (ws' := [(a, .inr (3, [.ref q1, .ref q2, .null, .null, .null])), (q1, .inl (G.2.1 0, 10, .inl (fun _ => 0))), (q2, .inl (G.2.1 0, 10, .inl (fun _ => 0)))]) F hmn hw_X3_init tyX3 tyX3_ok nmX3 0 rfl rfl 1 (by decide) (List.mem_of_getElem? (i := 6) rfl) rfl rfl rfl rfl rfl rfl (Nat.le_of_ble_eq_true rfl) rfl dX3_init_17 ?_
  refine zi_aload_n (pc := 20) F dX3_init_20 0 rfl ?_
  refine zi_bipush (pc := 21) (v := 10) F dX3_init_21 rfl ?_
  refine zi_newa (pc := 23) (ty := .int) (a0 := (10, .inl (fun _ => 0))) F 0 rfl (fun _ h1 h2 => zra_i h1 h2) (List.mem_of_getElem? (i := 4) rfl) rfl (fun _ => rfl) (by decide) rfl (by decide) dX3_init_23 (Nat.le_of_ble_eq_true rfl) (Nat.le_of_ble_eq_true rfl) (fun q3 => ?_)
  refine zi_ws (w9 := [(a, .inr (3, [.ref q1, .ref q2, .null, .null, .null])), (q1, .inl (G.2.1 0, 10, .inl (fun _ => 0))), (q2, .inl (G.2.1 0, 10, .inl (fun _ => 0))), (q3, .inl (G.2.1 0, 10, .inl (fun _ => 0)))]) rfl ?_
  refine zi_putF (pc := 25) (C := RX3) (T := TX3) (N := 5) (ty := .array .int) (ws' := [(a, .inr (3, [.ref q1, .ref q2, .ref q3, .null, .null])), (q1, .inl (G.2.1 0, 10, .inl (fun _ => 0))), (q2, .inl (G.2.1 0, 10, .inl (fun _ => 0))), (q3, .inl (G.2.1 0, 10, .inl (fun _ => 0)))]) F hmn hw_X3_init tyX3 tyX3_ok nmX3 0 rfl rfl 2 (by decide) (List.mem_of_getElem? (i := 7) rfl) rfl rfl rfl rfl rfl rfl (Nat.le_of_ble_eq_true rfl) rfl dX3_init_25 ?_
  refine zi_aload_n (pc := 28) F dX3_init_28 0 rfl ?_
  refine zi_bipush (pc := 29) (v := 10) F dX3_init_29 rfl ?_
  refine zi_newa (pc := 31) (ty := .int) (a0 := (10, .inl (fun _ => 0))) F 0 rfl (fun _ h1 h2 => zra_i h1 h2) (List.mem_of_getElem? (i := 4) rfl) rfl (fun _ => rfl) (by decide) rfl (by decide) dX3_init_31 (Nat.le_of_ble_eq_true rfl) (Nat.le_of_ble_eq_true rfl) (fun q4 => ?_)
  refine zi_ws (w9 := [(a, .inr (3, [.ref q1, .ref q2, .ref q3, .null, .null])), (q1, .inl (G.2.1 0, 10, .inl (fun _ => 0))), (q2, .inl (G.2.1 0, 10, .inl (fun _ => 0))), (q3, .inl (G.2.1 0, 10, .inl (fun _ => 0))), (q4, .inl (G.2.1 0, 10, .inl (fun _ => 0)))]) rfl ?_
  refine zi_putF (pc := 33) (C := RX3) (T := TX3) (N := 5) (ty := .array .int) (ws' := [(a, .inr (3, [.ref q1, .ref q2, .ref q3, .ref q4, .null])), (q1, .inl (G.2.1 0, 10, .inl (fun _ => 0))), (q2, .inl (G.2.1 0, 10, .inl (fun _ => 0))), (q3, .inl (G.2.1 0, 10, .inl (fun _ => 0))), (q4, .inl (G.2.1 0, 10, .inl (fun _ => 0)))]) F hmn hw_X3_init tyX3 tyX3_ok nmX3 0 rfl rfl 3 (by decide) (List.mem_of_getElem? (i := 8) rfl) rfl rfl rfl rfl rfl rfl (Nat.le_of_ble_eq_true rfl) rfl dX3_init_33 ?_
  refine zi_aload_n (pc := 36) F dX3_init_36 0 rfl ?_
  refine zi_bipush (pc := 37) (v := 10) F dX3_init_37 rfl ?_
  refine zi_newa (pc := 39) (ty := .int) (a0 := (10, .inl (fun _ => 0))) F 0 rfl (fun _ h1 h2 => zra_i h1 h2) (List.mem_of_getElem? (i := 4) rfl) rfl (fun _ => rfl) (by decide) rfl (by decide) dX3_init_39 (Nat.le_of_ble_eq_true rfl) (Nat.le_of_ble_eq_true rfl) (fun q5 => ?_)
  refine zi_ws (w9 := [(a, .inr (3, [.ref q1, .ref q2, .ref q3, .ref q4, .null])), (q1, .inl (G.2.1 0, 10, .inl (fun _ => 0))), (q2, .inl (G.2.1 0, 10, .inl (fun _ => 0))), (q3, .inl (G.2.1 0, 10, .inl (fun _ => 0))), (q4, .inl (G.2.1 0, 10, .inl (fun _ => 0))), (q5, .inl (G.2.1 0, 10, .inl (fun _ => 0)))]) rfl ?_
  refine zi_putF (pc := 41) (C := RX3) (T := TX3) (N := 5) (ty := .array .int) (ws' := [(a, .inr (3, [.ref q1, .ref q2, .ref q3, .ref q4, .ref q5])), (q1, .inl (G.2.1 0, 10, .inl (fun _ => 0))), (q2, .inl (G.2.1 0, 10, .inl (fun _ => 0))), (q3, .inl (G.2.1 0, 10, .inl (fun _ => 0))), (q4, .inl (G.2.1 0, 10, .inl (fun _ => 0))), (q5, .inl (G.2.1 0, 10, .inl (fun _ => 0)))]) F hmn hw_X3_init tyX3 tyX3_ok nmX3 0 rfl rfl 4 (by decide) (List.mem_of_getElem? (i := 9) rfl) rfl rfl rfl rfl rfl rfl (Nat.le_of_ble_eq_true rfl) rfl dX3_init_41 ?_
  exact hret (fun _ i => [a, q1, q2, q3, q4, q5].getD i 0) 44 _ _ _ _ rfl rfl dX3_init_44 (List.Perm.refl _)
/-! X1_init -/
theorem hw_X1_init : ∀ w ∈ wsX10, w ∈ wsX1_init := fun w h => List.mem_cons_of_mem _ (List.mem_append_right _ (h))
abbrev rmX1_init : Room := { frames := 1, cells := 42, slots := 1024, locals := 12 }
theorem hd_X1_init : yX1_init.cls ≠ "java/lang/invoke/MethodHandle" ∧ yX1_init.cls ≠ "java/lang/invoke/VarHandle" ∧ (parseMethodDescriptor yX1_init.desc).map (fun d => d.parameters.length) = some 0 := by decide +kernel
set_option maxHeartbeats 4000000 in
set_option maxRecDepth 100000 in
theorem c_X1_init (l : Launch) (G : zG_t) (a : Nat) : zCN l G.1 (zty G) yX1_init wsX1_init rmX1_init a [(a, .inr (1, [.null, .null, .int 0, .int 0, .int 0]))] (fun u => zWM (zad G (zat u a)) zZ zZ) := by
  refine zb_N (cc := cX1_init) (maxL := 1) (by decide) rfl rfl (Nat.le_of_ble_eq_true rfl) ?_
  intro p e s m args below meth c Q A F hao hmn hret
  show zW p l e rmX1_init s m args below meth c 0 0 Q G.1 A 1 [(a, .inr (1, [.null, .null, .int 0, .int 0, .int 0]))] [(0, .ref a)] 0 []
  refine zi_aload_n (pc := 0) F dX1_init_0 0 rfl ?_
  refine zi_objI (pc := 1) F (List.mem_of_getElem? (i := 1) rfl) (List.mem_of_getElem? (i := 2) rfl) (List.mem_of_getElem? (i := 3) rfl) dX1_init_1 (Nat.le_of_ble_eq_true rfl) (Nat.le_of_ble_eq_true rfl) ?_
  refine zi_aload_n (pc := 4) F dX1_init_4 0 rfl ?_
  refine zi_bipush (pc := 5) (v := 24) F dX1_init_5 rfl ?_
  refine zi_newa (pc := 7) (ty := .int) (a0 := (24, .inl (fun _ => 0))) F 0 rfl (fun _ h1 h2 => zra_i h1 h2) (List.mem_of_getElem? (i := 4) rfl) rfl (fun _ => rfl) (by decide) rfl (by decide) dX1_init_7 (Nat.le_of_ble_eq_true rfl) (Nat.le_of_ble_eq_true rfl) (fun q1 => ?_)
  refine zi_ws (w9 := [(a, .inr (1, [.null, .null, .int 0, .int 0, .int 0])), (q1, .inl (G.2.1 0, 24, .inl (fun _ => 0)))]) rfl ?_
  refine zi_putF (pc := 9) (C := RX1) (T := TX1) (N := 5) (ty := .array .int) (ws' := [(a, .inr (1, [.ref q1, .null, .int 0, .int 0, .int 0])), (q1, .inl (G.2.1 0, 24, .inl (fun _ => 0)))]) F hmn hw_X1_init tyX1 tyX1_ok nmX1 0 rfl rfl 0 (by decide) (List.mem_of_getElem? (i := 5) rfl) rfl rfl rfl rfl rfl rfl (Nat.le_of_ble_eq_true rfl) rfl dX1_init_9 ?_
  refine zi_aload_n (pc := 12) F dX1_init_12 0 rfl ?_
  refine zi_bipush (pc := 13) (v := 40) F dX1_init_13 rfl ?_
  refine zi_bipush (pc := 15) (v := 24) F dX1_init_15 rfl ?_
  refine zi_mna (pc := 17) F hao 2 0 rfl rfl (List.mem_of_getElem? (i := 6) rfl) (List.mem_of_getElem? (i := 4) rfl) (by decide) (by decide) rfl rfl (by decide) (by decide) (Nat.le_of_ble_eq_true rfl) (Nat.le_of_ble_eq_true rfl) dX1_init_17 (fun qk r => ?_)
  refine zi_ws (w9 := ([(a, .inr (1, [.ref q1, .null, .int 0, .int 0, .int 0])), (q1, .inl (G.2.1 0, 24, .inl (fun _ => 0))), (qk, .inl (G.2.1 2, 40, .inr (.inr (.inr (.inr (fun i => if i < 40 then some (r i) else none))))))] ++ (List.range 40).map (fun i => (r i, .inl (G.2.1 0, 24, .inl (fun _ => 0)))))) rfl ?_
  refine zi_putF (pc := 21) (C := RX1) (T := TX1) (N := 5) (ty := .array (.array .int)) (ws' := ([(a, .inr (1, [.ref q1, .ref qk, .int 0, .int 0, .int 0])), (q1, .inl (G.2.1 0, 24, .inl (fun _ => 0))), (qk, .inl (G.2.1 2, 40, .inr (.inr (.inr (.inr (fun i => if i < 40 then some (r i) else none))))))] ++ (List.range 40).map (fun i => (r i, .inl (G.2.1 0, 24, .inl (fun _ => 0)))))) F hmn hw_X1_init tyX1 tyX1_ok nmX1 0 rfl rfl 1 (by decide) (List.mem_of_getElem? (i := 7) rfl) rfl rfl rfl rfl rfl rfl (Nat.le_of_ble_eq_true rfl) rfl dX1_init_21 ?_
  exact hret (fun o => match o with | 5 => r | _ => fun i => match i with | 1 => q1 | _ => qk) 24 _ _ _ _ rfl rfl dX1_init_24 (List.Perm.refl _)
/-! X4_init -/
theorem hw_X4_init : ∀ w ∈ wsX40, w ∈ wsX4_init := fun w h => List.mem_cons_of_mem _ (List.mem_append_left _ (List.mem_append_left _ (List.mem_append_left _ (List.mem_append_left _ (List.mem_append_right _ (h))))))
theorem hw_X4_init_X0 : ∀ w ∈ wsX00, w ∈ wsX4_init := fun w h => List.mem_cons_of_mem _ (List.mem_append_left _ (List.mem_append_left _ (List.mem_append_right _ (h))))
theorem hw_X4_init_X1 : ∀ w ∈ wsX10, w ∈ wsX4_init := fun w h => List.mem_cons_of_mem _ (List.mem_append_right _ (h))
theorem hw_X4_init_X2 : ∀ w ∈ wsX20, w ∈ wsX4_init := fun w h => List.mem_cons_of_mem _ (List.mem_append_left _ (List.mem_append_left _ (List.mem_append_left _ (List.mem_append_right _ (h)))))
theorem hw_X4_init_X3 : ∀ w ∈ wsX30, w ∈ wsX4_init := fun w h => List.mem_cons_of_mem _ (List.mem_append_left _ (List.mem_append_right _ (h)))
theorem zperm4 (o t e v m : va_W) : (((((o ++ t) ++ e) ++ v) ++ m) : va_W).Perm (o ++ (e ++ ((t ++ v) ++ m))) := by
  simp only [List.append_assoc]
  exact (List.perm_append_comm_assoc t e (v ++ m)).append_left o
abbrev rmX4_init : Room := { frames := 2, cells := 61, slots := 1198, locals := 32 }
theorem hd_X4_init : yX4_init.cls ≠ "java/lang/invoke/MethodHandle" ∧ yX4_init.cls ≠ "java/lang/invoke/VarHandle" ∧ (parseMethodDescriptor yX4_init.desc).map (fun d => d.parameters.length) = some 0 := by decide +kernel
def zat0 (u : zU_t) (a : Nat) : zU_t
  | 0 => fun i => match i with
    | 0 => a
    | i + 1 => u 0 (i + 1)
  | o => u o
set_option maxHeartbeats 4000000 in
set_option maxRecDepth 100000 in
theorem c_X4_init (l : Launch) (G : zG_t) (a : Nat) : zCN l G.1 (zty G) yX4_init wsX4_init rmX4_init a [(a, .inr (4, [.null, .null, .null, .null, .null, .int 0, .int 0, .int 0, .int 0, .int 0, .int 0]))] (fun u => zWL (zad G (zat0 u a)) zL0 zZ zZ zZ zZ zZ) := by
  refine zb_N (cc := cX4_init) (maxL := 2) (by decide) rfl rfl (Nat.le_of_ble_eq_true rfl) ?_
  intro p e s m args below meth c Q A F hao hmn hret
  show zW p l e rmX4_init s m args below meth c 0 0 Q G.1 A 2 [(a, .inr (4, [.null, .null, .null, .null, .null, .int 0, .int 0, .int 0, .int 0, .int 0, .int 0]))] [(0, .ref a)] 0 []
  refine zi_aload_n (pc := 0) F dX4_init_0 0 rfl ?_
  refine zi_objI (pc := 1) F (List.mem_of_getElem? (i := 1) rfl) (List.mem_of_getElem? (i := 2) rfl) (List.mem_of_getElem? (i := 3) rfl) dX4_init_1 (Nat.le_of_ble_eq_true rfl) (Nat.le_of_ble_eq_true rfl) ?_
  refine zi_aload_n (pc := 4) F dX4_init_4 0 rfl ?_
  refine zi_iconst (pc := 5) (v := 3) F dX4_init_5 rfl ?_
  refine zi_newa (pc := 6) (ty := .int) (a0 := (3, .inl (fun _ => 0))) F 0 rfl (fun _ h1 h2 => zra_i h1 h2) (List.mem_of_getElem? (i := 4) rfl) rfl (fun _ => rfl) (by decide) rfl (by decide) dX4_init_6 (Nat.le_of_ble_eq_true rfl) (Nat.le_of_ble_eq_true rfl) (fun q1 => ?_)
  refine zi_ws (w9 := [(a, .inr (4, [.null, .null, .null, .null, .null, .int 0, .int 0, .int 0, .int 0, .int 0, .int 0])), (q1, .inl (G.2.1 0, 3, .inl (fun _ => 0)))]) rfl ?_
  refine zi_putF (pc := 8) (C := RX4) (T := TX4) (N := 11) (ty := .array .int) (ws' := [(a, .inr (4, [.ref q1, .null, .null, .null, .null, .int 0, .int 0, .int 0, .int 0, .int 0, .int 0])), (q1, .inl (G.2.1 0, 3, .inl (fun _ => 0)))]) F hmn hw_X4_init tyX4 tyX4_ok nmX4 0 rfl rfl 0 (by decide) (List.mem_of_getElem? (i := 5) rfl) rfl rfl rfl rfl rfl rfl (Nat.le_of_ble_eq_true rfl) rfl dX4_init_8 ?_
  refine zi_iconst (pc := 11) (v := 0) F dX4_init_11 rfl ?_
  refine zi_istore_n (pc := 12) (lv' := [(0, .ref a), (1, .int 0)]) F dX4_init_12 (by decide) rfl ?_
  refine zi_iload_n (pc := 13) F dX4_init_13 1 rfl ?_
  refine zi_iconst (pc := 14) (v := 3) F dX4_init_14 rfl ?_
  refine zi_icmp_ge (pc := 15) (tgt := 32) F dX4_init_15 (by decide) (fun h => absurd h (by decide)) (fun _ => ?_)
  refine zi_aload_n (pc := 18) F dX4_init_18 0 rfl ?_
  refine zi_get (pc := 19) (C := RX4) (T := TX4) (N := 11) (v := .ref q1) F hw_X4_init 0 rfl rfl 0 (by decide) (List.mem_of_getElem? (i := 5) rfl) rfl rfl dX4_init_19 ?_
  refine zi_iload_n (pc := 22) F dX4_init_22 1 rfl ?_
  refine zi_bipush (pc := 23) (v := 6) F dX4_init_23 rfl ?_
  refine zi_iast (pc := 25) (ws' := [(a, .inr (4, [.ref q1, .null, .null, .null, .null, .int 0, .int 0, .int 0, .int 0, .int 0, .int 0])), (q1, .inl (G.2.1 0, 3, .inl (upd (fun _ => 0) (0 : Int32).toNatClampNeg 6)))]) F 1 0 rfl rfl (zin (by decide) (by decide)) rfl dX4_init_25 ?_
  refine zi_iinc (pc := 26) (lv' := [(0, .ref a), (1, .int 1)]) F dX4_init_26 1 rfl rfl (by decide) rfl ?_
  refine zi_goto (pc := 29) (tgt := 13) F dX4_init_29 (by decide) ?_
  refine zi_iload_n (pc := 13) F dX4_init_13 1 rfl ?_
  refine zi_iconst (pc := 14) (v := 3) F dX4_init_14 rfl ?_
  refine zi_icmp_ge (pc := 15) (tgt := 32) F dX4_init_15 (by decide) (fun h => absurd h (by decide)) (fun _ => ?_)
  refine zi_aload_n (pc := 18) F dX4_init_18 0 rfl ?_
  refine zi_get (pc := 19) (C := RX4) (T := TX4) (N := 11) (v := .ref q1) F hw_X4_init 0 rfl rfl 0 (by decide) (List.mem_of_getElem? (i := 5) rfl) rfl rfl dX4_init_19 ?_
  refine zi_iload_n (pc := 22) F dX4_init_22 1 rfl ?_
  refine zi_bipush (pc := 23) (v := 6) F dX4_init_23 rfl ?_
  refine zi_iast (pc := 25) (ws' := [(a, .inr (4, [.ref q1, .null, .null, .null, .null, .int 0, .int 0, .int 0, .int 0, .int 0, .int 0])), (q1, .inl (G.2.1 0, 3, .inl (upd (upd (fun _ => 0) (0 : Int32).toNatClampNeg 6) (1 : Int32).toNatClampNeg 6)))]) F 1 0 rfl rfl (zin (by decide) (by decide)) rfl dX4_init_25 ?_
  refine zi_iinc (pc := 26) (lv' := [(0, .ref a), (1, .int 2)]) F dX4_init_26 1 rfl rfl (by decide) rfl ?_
  refine zi_goto (pc := 29) (tgt := 13) F dX4_init_29 (by decide) ?_
  refine zi_iload_n (pc := 13) F dX4_init_13 1 rfl ?_
  refine zi_iconst (pc := 14) (v := 3) F dX4_init_14 rfl ?_
  refine zi_icmp_ge (pc := 15) (tgt := 32) F dX4_init_15 (by decide) (fun h => absurd h (by decide)) (fun _ => ?_)
  refine zi_aload_n (pc := 18) F dX4_init_18 0 rfl ?_
  refine zi_get (pc := 19) (C := RX4) (T := TX4) (N := 11) (v := .ref q1) F hw_X4_init 0 rfl rfl 0 (by decide) (List.mem_of_getElem? (i := 5) rfl) rfl rfl dX4_init_19 ?_
  refine zi_iload_n (pc := 22) F dX4_init_22 1 rfl ?_
  refine zi_bipush (pc := 23) (v := 6) F dX4_init_23 rfl ?_
  refine zi_iast (pc := 25) (ws' := [(a, .inr (4, [.ref q1, .null, .null, .null, .null, .int 0, .int 0, .int 0, .int 0, .int 0, .int 0])), (q1, .inl (G.2.1 0, 3, .inl (upd (upd (upd (fun _ => 0) (0 : Int32).toNatClampNeg 6) (1 : Int32).toNatClampNeg 6) (2 : Int32).toNatClampNeg 6)))]) F 1 0 rfl rfl (zin (by decide) (by decide)) rfl dX4_init_25 ?_
  refine zi_iinc (pc := 26) (lv' := [(0, .ref a), (1, .int 3)]) F dX4_init_26 1 rfl rfl (by decide) rfl ?_
  refine zi_goto (pc := 29) (tgt := 13) F dX4_init_29 (by decide) ?_
  refine zi_iload_n (pc := 13) F dX4_init_13 1 rfl ?_
  refine zi_iconst (pc := 14) (v := 3) F dX4_init_14 rfl ?_
  refine zi_icmp_ge (pc := 15) (tgt := 32) F dX4_init_15 (by decide) (fun _ => ?_) (fun h => absurd h (by decide))
  refine zi_aload_n (pc := 32) F dX4_init_32 0 rfl ?_
  refine zi_new (pc := 33) (ci := 2) (N := 5) (C := RX2) (T := TX2) F hw_X4_init_X2 tyX2 tyX2_ok (List.mem_of_getElem? (i := 6) rfl) (List.mem_of_getElem? (i := 7) rfl) (List.mem_of_getElem? (i := 8) rfl) rfl [.null, .null, .null, .null, .int 0] (by decide +kernel) (Nat.le_of_ble_eq_true rfl) (Nat.le_of_ble_eq_true rfl) dX4_init_33 (fun q2 => ?_)
  refine zi_dup (pc := 36) F dX4_init_36 rfl ?_
  refine zi_callC (pc := 37) (Wc := [(q2, .inr (2, [.null, .null, .null, .null, .int 0]))]) F hao (c_X2_init l G q2) ⟨va_cnB 0 F.1.2.2.2.2 gX4_init_X2_init_n15 rfl rfl rfl (F.2.2.2.2.2.2.2.2 _ (List.mem_of_getElem? (i := 0) rfl)) (F.1.2.2.2.2 _ (List.mem_of_getElem? (i := 8) rfl)) hd_X2_init ⟨Nat.le_of_ble_eq_true rfl, Nat.le_of_ble_eq_true rfl⟩, rfl, F.1.2.2.2.2 _ (List.mem_of_getElem? (i := 22) rfl)⟩ [(a, .inr (4, [.ref q1, .null, .null, .null, .null, .int 0, .int 0, .int 0, .int 0, .int 0, .int 0])), (q1, .inl (G.2.1 0, 3, .inl (upd (upd (upd (fun _ => 0) (0 : Int32).toNatClampNeg 6) (1 : Int32).toNatClampNeg 6) (2 : Int32).toNatClampNeg 6)))] [] rfl (Nat.le_of_ble_eq_true rfl) dX4_init_37 ⟨Nat.le_of_ble_eq_true rfl, Nat.le_of_ble_eq_true rfl⟩ (fun uX2 => ?_)
  refine zi_ws (w9 := ([(a, .inr (4, [.ref q1, .null, .null, .null, .null, .int 0, .int 0, .int 0, .int 0, .int 0, .int 0])), (q1, .inl (G.2.1 0, 3, .inl (upd (upd (upd (fun _ => 0) (0 : Int32).toNatClampNeg 6) (1 : Int32).toNatClampNeg 6) (2 : Int32).toNatClampNeg 6)))] ++ (zWT (zad G (zat uX2 q2)) zZ))) (by rw [List.append_nil]) ?_
  refine zi_putF (pc := 40) (C := RX4) (T := TX4) (N := 11) (ty := .object "LayeredTable$Things") (ws' := ([(a, .inr (4, [.ref q1, .ref q2, .null, .null, .null, .int 0, .int 0, .int 0, .int 0, .int 0, .int 0])), (q1, .inl (G.2.1 0, 3, .inl (upd (upd (upd (fun _ => 0) (0 : Int32).toNatClampNeg 6) (1 : Int32).toNatClampNeg 6) (2 : Int32).toNatClampNeg 6)))] ++ (zWT (zad G (zat uX2 q2)) zZ))) F hmn hw_X4_init tyX4 tyX4_ok nmX4 0 rfl rfl 1 (by decide) (List.mem_of_getElem? (i := 9) rfl) rfl rfl rfl rfl rfl rfl (Nat.le_of_ble_eq_true rfl) rfl dX4_init_40 ?_
  refine zi_aload_n (pc := 43) F dX4_init_43 0 rfl ?_
  refine zi_new (pc := 44) (ci := 0) (N := 6) (C := RX0) (T := TX0) F hw_X4_init_X0 tyX0 tyX0_ok (List.mem_of_getElem? (i := 10) rfl) (List.mem_of_getElem? (i := 11) rfl) (List.mem_of_getElem? (i := 12) rfl) rfl [.null, .null, .null, .null, .null, .int 0] (by decide +kernel) (Nat.le_of_ble_eq_true rfl) (Nat.le_of_ble_eq_true rfl) dX4_init_44 (fun q3 => ?_)
  refine zi_dup (pc := 47) F dX4_init_47 rfl ?_
  refine zi_callC (pc := 48) (Wc := [(q3, .inr (0, [.null, .null, .null, .null, .null, .int 0]))]) F hao (c_X0_init l G q3) ⟨va_cnB 0 F.1.2.2.2.2 gX4_init_X0_init_n22 rfl rfl rfl (F.2.2.2.2.2.2.2.2 _ (List.mem_of_getElem? (i := 1) rfl)) (F.1.2.2.2.2 _ (List.mem_of_getElem? (i := 12) rfl)) hd_X0_init ⟨Nat.le_of_ble_eq_true rfl, Nat.le_of_ble_eq_true rfl⟩, rfl, F.1.2.2.2.2 _ (List.mem_of_getElem? (i := 29) rfl)⟩ ([(a, .inr (4, [.ref q1, .ref q2, .null, .null, .null, .int 0, .int 0, .int 0, .int 0, .int 0, .int 0])), (q1, .inl (G.2.1 0, 3, .inl (upd (upd (upd (fun _ => 0) (0 : Int32).toNatClampNeg 6) (1 : Int32).toNatClampNeg 6) (2 : Int32).toNatClampNeg 6)))] ++ (zWT (zad G (zat uX2 q2)) zZ)) [] rfl (Nat.le_of_ble_eq_true rfl) dX4_init_48 ⟨Nat.le_of_ble_eq_true rfl, Nat.le_of_ble_eq_true rfl⟩ (fun uX0 => ?_)
  refine zi_ws (w9 := (([(a, .inr (4, [.ref q1, .ref q2, .null, .null, .null, .int 0, .int 0, .int 0, .int 0, .int 0, .int 0])), (q1, .inl (G.2.1 0, 3, .inl (upd (upd (upd (fun _ => 0) (0 : Int32).toNatClampNeg 6) (1 : Int32).toNatClampNeg 6) (2 : Int32).toNatClampNeg 6)))] ++ (zWT (zad G (zat uX2 q2)) zZ)) ++ (zWE (zad G (zat uX0 q3)) zZ))) (by rw [List.append_nil]) ?_
  refine zi_putF (pc := 51) (C := RX4) (T := TX4) (N := 11) (ty := .object "LayeredTable$Entries") (ws' := (([(a, .inr (4, [.ref q1, .ref q2, .ref q3, .null, .null, .int 0, .int 0, .int 0, .int 0, .int 0, .int 0])), (q1, .inl (G.2.1 0, 3, .inl (upd (upd (upd (fun _ => 0) (0 : Int32).toNatClampNeg 6) (1 : Int32).toNatClampNeg 6) (2 : Int32).toNatClampNeg 6)))] ++ (zWT (zad G (zat uX2 q2)) zZ)) ++ (zWE (zad G (zat uX0 q3)) zZ))) F hmn hw_X4_init tyX4 tyX4_ok nmX4 0 rfl rfl 2 (by decide) (List.mem_of_getElem? (i := 13) rfl) rfl rfl rfl rfl rfl rfl (Nat.le_of_ble_eq_true rfl) rfl dX4_init_51 ?_
  refine zi_aload_n (pc := 54) F dX4_init_54 0 rfl ?_
  refine zi_new (pc := 55) (ci := 3) (N := 5) (C := RX3) (T := TX3) F hw_X4_init_X3 tyX3 tyX3_ok (List.mem_of_getElem? (i := 14) rfl) (List.mem_of_getElem? (i := 15) rfl) (List.mem_of_getElem? (i := 16) rfl) rfl [.null, .null, .null, .null, .null] (by decide +kernel) (Nat.le_of_ble_eq_true rfl) (Nat.le_of_ble_eq_true rfl) dX4_init_55 (fun q4 => ?_)
  refine zi_dup (pc := 58) F dX4_init_58 rfl ?_
  refine zi_callC (pc := 59) (Wc := [(q4, .inr (3, [.null, .null, .null, .null, .null]))]) F hao (c_X3_init l G q4) ⟨va_cnB 0 F.1.2.2.2.2 gX4_init_X3_init_n29 rfl rfl rfl (F.2.2.2.2.2.2.2.2 _ (List.mem_of_getElem? (i := 2) rfl)) (F.1.2.2.2.2 _ (List.mem_of_getElem? (i := 16) rfl)) hd_X3_init ⟨Nat.le_of_ble_eq_true rfl, Nat.le_of_ble_eq_true rfl⟩, rfl, F.1.2.2.2.2 _ (List.mem_of_getElem? (i := 38) rfl)⟩ (([(a, .inr (4, [.ref q1, .ref q2, .ref q3, .null, .null, .int 0, .int 0, .int 0, .int 0, .int 0, .int 0])), (q1, .inl (G.2.1 0, 3, .inl (upd (upd (upd (fun _ => 0) (0 : Int32).toNatClampNeg 6) (1 : Int32).toNatClampNeg 6) (2 : Int32).toNatClampNeg 6)))] ++ (zWT (zad G (zat uX2 q2)) zZ)) ++ (zWE (zad G (zat uX0 q3)) zZ)) [] rfl (Nat.le_of_ble_eq_true rfl) dX4_init_59 ⟨Nat.le_of_ble_eq_true rfl, Nat.le_of_ble_eq_true rfl⟩ (fun uX3 => ?_)
  refine zi_ws (w9 := ((([(a, .inr (4, [.ref q1, .ref q2, .ref q3, .null, .null, .int 0, .int 0, .int 0, .int 0, .int 0, .int 0])), (q1, .inl (G.2.1 0, 3, .inl (upd (upd (upd (fun _ => 0) (0 : Int32).toNatClampNeg 6) (1 : Int32).toNatClampNeg 6) (2 : Int32).toNatClampNeg 6)))] ++ (zWT (zad G (zat uX2 q2)) zZ)) ++ (zWE (zad G (zat uX0 q3)) zZ)) ++ (zWV (zad G (zat uX3 q4)) zZ))) (by rw [List.append_nil]) ?_
  refine zi_putF (pc := 62) (C := RX4) (T := TX4) (N := 11) (ty := .object "LayeredTable$View") (ws' := ((([(a, .inr (4, [.ref q1, .ref q2, .ref q3, .ref q4, .null, .int 0, .int 0, .int 0, .int 0, .int 0, .int 0])), (q1, .inl (G.2.1 0, 3, .inl (upd (upd (upd (fun _ => 0) (0 : Int32).toNatClampNeg 6) (1 : Int32).toNatClampNeg 6) (2 : Int32).toNatClampNeg 6)))] ++ (zWT (zad G (zat uX2 q2)) zZ)) ++ (zWE (zad G (zat uX0 q3)) zZ)) ++ (zWV (zad G (zat uX3 q4)) zZ))) F hmn hw_X4_init tyX4 tyX4_ok nmX4 0 rfl rfl 3 (by decide) (List.mem_of_getElem? (i := 17) rfl) rfl rfl rfl rfl rfl rfl (Nat.le_of_ble_eq_true rfl) rfl dX4_init_62 ?_
  refine zi_aload_n (pc := 65) F dX4_init_65 0 rfl ?_
  refine zi_new (pc := 66) (ci := 1) (N := 5) (C := RX1) (T := TX1) F hw_X4_init_X1 tyX1 tyX1_ok (List.mem_of_getElem? (i := 18) rfl) (List.mem_of_getElem? (i := 19) rfl) (List.mem_of_getElem? (i := 20) rfl) rfl [.null, .null, .int 0, .int 0, .int 0] (by decide +kernel) (Nat.le_of_ble_eq_true rfl) (Nat.le_of_ble_eq_true rfl) dX4_init_66 (fun q5 => ?_)
  refine zi_dup (pc := 69) F dX4_init_69 rfl ?_
  refine zi_callC (pc := 70) (Wc := [(q5, .inr (1, [.null, .null, .int 0, .int 0, .int 0]))]) F hao (c_X1_init l G q5) ⟨va_cnB 0 F.1.2.2.2.2 gX4_init_X1_init_n36 rfl rfl rfl (F.2.2.2.2.2.2.2.2 _ (List.mem_of_getElem? (i := 3) rfl)) (F.1.2.2.2.2 _ (List.mem_of_getElem? (i := 20) rfl)) hd_X1_init ⟨Nat.le_of_ble_eq_true rfl, Nat.le_of_ble_eq_true rfl⟩, rfl, F.1.2.2.2.2 _ (List.mem_of_getElem? (i := 46) rfl)⟩ ((([(a, .inr (4, [.ref q1, .ref q2, .ref q3, .ref q4, .null, .int 0, .int 0, .int 0, .int 0, .int 0, .int 0])), (q1, .inl (G.2.1 0, 3, .inl (upd (upd (upd (fun _ => 0) (0 : Int32).toNatClampNeg 6) (1 : Int32).toNatClampNeg 6) (2 : Int32).toNatClampNeg 6)))] ++ (zWT (zad G (zat uX2 q2)) zZ)) ++ (zWE (zad G (zat uX0 q3)) zZ)) ++ (zWV (zad G (zat uX3 q4)) zZ)) [] rfl (Nat.le_of_ble_eq_true rfl) dX4_init_70 ⟨Nat.le_of_ble_eq_true rfl, Nat.le_of_ble_eq_true rfl⟩ (fun uX1 => ?_)
  refine zi_ws (w9 := (((([(a, .inr (4, [.ref q1, .ref q2, .ref q3, .ref q4, .null, .int 0, .int 0, .int 0, .int 0, .int 0, .int 0])), (q1, .inl (G.2.1 0, 3, .inl (upd (upd (upd (fun _ => 0) (0 : Int32).toNatClampNeg 6) (1 : Int32).toNatClampNeg 6) (2 : Int32).toNatClampNeg 6)))] ++ (zWT (zad G (zat uX2 q2)) zZ)) ++ (zWE (zad G (zat uX0 q3)) zZ)) ++ (zWV (zad G (zat uX3 q4)) zZ)) ++ (zWM (zad G (zat uX1 q5)) zZ zZ))) (by rw [List.append_nil]) ?_
  refine zi_putF (pc := 73) (C := RX4) (T := TX4) (N := 11) (ty := .object "LayeredTable$Memory") (ws' := (((([(a, .inr (4, [.ref q1, .ref q2, .ref q3, .ref q4, .ref q5, .int 0, .int 0, .int 0, .int 0, .int 0, .int 0])), (q1, .inl (G.2.1 0, 3, .inl (upd (upd (upd (fun _ => 0) (0 : Int32).toNatClampNeg 6) (1 : Int32).toNatClampNeg 6) (2 : Int32).toNatClampNeg 6)))] ++ (zWT (zad G (zat uX2 q2)) zZ)) ++ (zWE (zad G (zat uX0 q3)) zZ)) ++ (zWV (zad G (zat uX3 q4)) zZ)) ++ (zWM (zad G (zat uX1 q5)) zZ zZ))) F hmn hw_X4_init tyX4 tyX4_ok nmX4 0 rfl rfl 4 (by decide) (List.mem_of_getElem? (i := 21) rfl) rfl rfl rfl rfl rfl rfl (Nat.le_of_ble_eq_true rfl) rfl dX4_init_73 ?_
  refine hret (fun o => match o with | 0 => (fun i => match i with | 0 => a | _ => q1) | 1 => (zat uX2 q2) 1 | 2 => (zat uX0 q3) 2 | 3 => (zat uX3 q4) 3 | 4 => (zat uX1 q5) 4 | _ => (zat uX1 q5) 5) 76 _ _ _ _ rfl rfl dX4_init_76 ?_
  exact zperm4 [(a, .inr (4, [.ref q1, .ref q2, .ref q3, .ref q4, .ref q5, .int 0, .int 0, .int 0, .int 0, .int 0, .int 0])), (q1, .inl (G.2.1 0, 3, .inl (upd (upd (upd (fun _ => 0) (0 : Int32).toNatClampNeg 6) (1 : Int32).toNatClampNeg 6) (2 : Int32).toNatClampNeg 6)))] (zWT (zad G (zat uX2 q2)) zZ) (zWE (zad G (zat uX0 q3)) zZ) (zWV (zad G (zat uX3 q4)) zZ) (zWM (zad G (zat uX1 q5)) zZ zZ)
