def zU2 (u1 u2 : zU_t) (q1 q2 : Nat) : zU_t
  | 6 => zat u2 q2 6
  | o => zat0 u1 q1 o
set_option maxHeartbeats 4000000 in
set_option maxRecDepth 100000 in
theorem zl_start {p : Program} {e : Env} {s : State} {m : MethodId} {below : List Frame} {meth : Method} {c : Code} (l : Launch) (hflags : l.flags = flags0) {b L : Nat} {xs : Nat → Int32} (hL : L ≤ 1536) (C0 : lw_At p s m meth c b L xs) {Rel : zRel_t} (hag : zAg Rel) (hinv : zHinv Rel) (hmono : ∀ (n : Nat) (L T E V M K R : zS_t), Rel n L T E V M K R → Rel (n + 1) L T E V M K R) (h0 : Rel 0 zL0 zZ zZ zZ zZ zZ zR0) : W p l e room_1 s m #[Value.ref b] below meth c s.heap [] 0 0 (lw_Z below #[Value.ref b] s) (entryFrame m ([Value.ref b] : List Value).toArray 7) := by
  obtain ⟨hx, hb, hr, hml, hown, hts, hX, hbl, hlk, hg⟩ := C0
  have hfl : l.stackTraces = false := by rw [Launch.stackTraces, hflags]; decide
  obtain ⟨D, cs, hK⟩ := zs_K hts
  have hao := zs_ao hts
  have hsx := zs_x hts hg
  obtain ⟨G, hG⟩ : ∃ z : zG_t, (D, cs, fun _ _ => 0) = z := ⟨_, rfl⟩
  have F : zF p m c cL_law 7 s #[Value.ref b] wsL_law RL G.1 (zty G) (fun q => s.heap.size ≤ q) := by
    subst hG
    exact ⟨⟨hx, hb, hml, hown, fun w h => hts w (wsL_law_in w h)⟩, hK _, fun q h => h, zs_tbl hts hg⟩
  have K : zW p l e room_1 s m #[Value.ref b] below meth c 0 0 (lw_Z below #[Value.ref b] s) G.1 (fun q => s.heap.size ≤ q) 7 [] [(0, .ref b)] 0 [] := by
    refine zi_new (pc := 0) (ci := 4) (N := 11) (C := RX4) (T := TX4) F inlX4 tyX4 tyX4_ok (List.mem_of_getElem? (i := 0) rfl) (List.mem_of_getElem? (i := 1) rfl) (List.mem_of_getElem? (i := 2) rfl) rfl [.null, .null, .null, .null, .null, .int 0, .int 0, .int 0, .int 0, .int 0, .int 0] (by decide +kernel) (Nat.le_of_ble_eq_true rfl) (Nat.le_of_ble_eq_true rfl) dL_law_0 (fun q1 => ?_)
    refine zi_ws (w9 := [(q1, .inr (4, [.null, .null, .null, .null, .null, .int 0, .int 0, .int 0, .int 0, .int 0, .int 0]))]) rfl ?_
    refine zi_dup (pc := 3) F dL_law_3 rfl ?_
    refine zi_callD (pc := 4) (Wc := [(q1, .inr (4, [.null, .null, .null, .null, .null, .int 0, .int 0, .int 0, .int 0, .int 0, .int 0]))]) F hao (c_X4_init l G q1) (cwI 0 (F.1.2.2.2.2) gL_law_X4_init rfl rfl rfl (F.1.2.2.2.2 _ (List.mem_of_getElem? (i := 2) rfl)) (F.1.2.2.2.2 _ (List.mem_of_getElem? (i := 7) rfl)) (F.1.2.2.2.2 _ (List.mem_of_getElem? (i := 8) rfl)) rfl hd_X4_init ⟨Nat.le_of_ble_eq_true rfl, Nat.le_of_ble_eq_true rfl⟩) [] [] rfl (Nat.le_of_ble_eq_true rfl) dL_law_4 ⟨Nat.le_of_ble_eq_true rfl, Nat.le_of_ble_eq_true rfl⟩ (fun u1 => ?_)
    refine zi_ws (w9 := zWL (zad G (zat0 u1 q1)) zL0 zZ zZ zZ zZ zZ) (by rw [List.append_nil]; rfl) ?_
    refine zi_astore_n (pc := 7) (lv' := [(0, .ref b), (1, .ref q1)]) F dL_law_7 (by decide) rfl ?_
    refine zi_new (pc := 8) (ci := 5) (N := 27) (C := RX5) (T := TX5) F inlX5 tyX5 tyX5_ok (List.mem_of_getElem? (i := 3) rfl) (List.mem_of_getElem? (i := 4) rfl) (List.mem_of_getElem? (i := 5) rfl) rfl [.int 0, .int 0, .int 0, .int 0, .int 0, .null, .int 0, .null, .null, .null, .null, .int 0, .int 0, .null, .null, .null, .null, .null, .null, .null, .null, .null, .null, .int 0, .null, .null, .int 0] (by decide +kernel) (Nat.le_of_ble_eq_true rfl) (Nat.le_of_ble_eq_true rfl) dL_law_8 (fun q2 => ?_)
    refine zi_dup (pc := 11) F dL_law_11 rfl ?_
    refine zi_callD (pc := 12) (Wc := [(q2, .inr (5, [.int 0, .int 0, .int 0, .int 0, .int 0, .null, .int 0, .null, .null, .null, .null, .int 0, .int 0, .null, .null, .null, .null, .null, .null, .null, .null, .null, .null, .int 0, .null, .null, .int 0]))]) F hao (c_X5_init l G q2) (cwI 0 (F.1.2.2.2.2) gL_law_X5_init rfl rfl rfl (F.1.2.2.2.2 _ (List.mem_of_getElem? (i := 5) rfl)) (F.1.2.2.2.2 _ (List.mem_of_getElem? (i := 61) rfl)) (F.1.2.2.2.2 _ (List.mem_of_getElem? (i := 62) rfl)) rfl hd_X5_init ⟨Nat.le_of_ble_eq_true rfl, Nat.le_of_ble_eq_true rfl⟩) (zWL (zad G (zat0 u1 q1)) zL0 zZ zZ zZ zZ zZ) [] (by rw [List.append_nil]) (Nat.le_of_ble_eq_true rfl) dL_law_12 ⟨Nat.le_of_ble_eq_true rfl, Nat.le_of_ble_eq_true rfl⟩ (fun u2 => ?_)
    refine zi_ws (w9 := zWL (zad G (zat0 u1 q1)) zL0 zZ zZ zZ zZ zZ ++ zWR (zad G (zat u2 q2)) zR0) (by rw [List.append_nil]) ?_
    refine zi_astore_n (pc := 15) (lv' := [(0, .ref b), (1, .ref q1), (2, .ref q2)]) F dL_law_15 (by decide) rfl ?_
    refine zi_iconst (pc := 16) (v := 1) F dL_law_16 rfl ?_
    refine zi_newa (pc := 17) (ty := .long) (a0 := (1, .inr (.inl (fun _ => 0)))) F 3 rfl (fun _ h1 h2 => zra_l h1 h2) (List.mem_of_getElem? (i := 6) rfl) rfl (fun _ => rfl) (by decide) rfl (by decide) dL_law_17 (Nat.le_of_ble_eq_true rfl) (Nat.le_of_ble_eq_true rfl) (fun oa => ?_)
    refine zi_perm List.perm_append_comm ?_
    refine zi_astore_n (pc := 19) (lv' := [(0, .ref b), (1, .ref q1), (2, .ref q2), (3, .ref oa)]) F dL_law_19 (by decide) rfl ?_
    refine zi_iconst (pc := 20) (v := 0) F dL_law_20 rfl ?_
    refine zi_istore (pc := 21) (lv' := [(0, .ref b), (1, .ref q1), (2, .ref q2), (3, .ref oa), (4, .int 0)]) F dL_law_21 (by decide) rfl ?_
    have hbA : ¬ (s.heap.size ≤ b) := by omega
    exact zl_loop (G := zad G (zU2 u1 u2 q1 q2)) (oa := oa) hfl hag hinv hmono F hsx hX hbl hbA hL (fun ws lv cells slots h1 h2 => zl_ret hx hb hr hlk h1 h2) 512 0 0 (fun _ => 0) zL0 zZ zZ zZ zZ zZ zR0 _ _ rfl rfl h0 (Nat.le_of_ble_eq_true rfl) (Nat.le_of_ble_eq_true rfl)
  have hP0 : va_P G.1 vwCl [] s.heap := fun k q h => by cases h
  have hD0 : va_D (fun q => s.heap.size ≤ q) [] := ⟨fun i j p q h => (by cases h), fun k q h => (by cases h)⟩
  have hl := lv_entry [.ref b] (n := 7) (Nat.le_of_ble_eq_true rfl)
  rw [lg_entry_eq]
  exact K s.heap [] _ hP0 hD0 va_S.rf hl
