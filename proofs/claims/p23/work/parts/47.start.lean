/-! THE CLAIM OUT OF ONE WALK OF THE LAW'S BODY. Your part is whole_start (and what it stands on); all else here is the same for every law, but numbers. -/
def R_law : String := "LayeredTableLaw"
def lw_P (b : Addr) (xs : List Int32) (args : Array Value) (s : State) : Prop := args = #[.ref b] ∧ s.IntsAt b xs ∧ xs.length ≤ 260 ∧ (Jvm.Cond.and given_1 narrow_1).before args s = true
def lw_Q (_ : Array Value) (s : State) (o : Outcome) (t : State) : Prop := o = .returned (some (.int 1)) ∧ Framed s o t [] 661750 7115933
def lw_Z (below : List Frame) (a : Array Value) (s : State) : State → Prop := fun t => ∃ o, t.status = .running ∧ Ended t below o ∧ lw_Q a s o t
/-- the law's own end, with 1 on the stack, nothing written that was there before, its room as the claim has it -/
theorem lw_ret {p : Program} {l : Launch} {e : Env} {s : State} {m : MethodId} {below : List Frame} {meth : Method} {c : Code} {b : Nat} (hx : p.tables.exec = Jvm.exec) (hb : c.code = code) (hr : meth.sig.returnType = ret) (hlocks : meth.locks = false) {pc : Nat} {H : Heap} {ls : Array Slot} (hdg : decode code pc = .ok (.ireturn, 1)) : W p l e room_1 s m #[Value.ref b] below meth c H [] 661750 7115933 (lw_Z below #[Value.ref b] s) (F0 m pc ls [.int 1]) := by
  intro T hT X
  obtain ⟨fs, hret, hrun, hended, hW, hframe⟩ := X.leave (v := some (.int 1)) (hlocks := hlocks) (fun h => by rw [hr] at h; cases h)
  have hmeth' : T.vm.method? m = some meth := X.method'
  refine ⟨T.setFrames fs, ?_, .returned (some (.int 1)), hrun, hended, rfl, ⟨_, rfl⟩, hW, hframe⟩
  jvm_step X.here [X.here.top, hx, hb, hdg, hmeth', hr, ret, narrow_b1]
  (try refine ⟨rfl, ?_⟩); (try refine ⟨rfl, ?_⟩)
  first | (intro acts; rw [hret _ acts rfl rfl rfl]) | rw [hret _ _ rfl rfl rfl]
  exact Steps.refl _
/-- what holds at the law's entry: the machine, the code, the tables' words (any of lw_tbl by 'hts w (by decide +kernel)'), the script of L ints xs at the cell b, what the Statement gives of the start (any of its parts by flat_of_before) -/
def lw_At (p : Program) (s : State) (m : MethodId) (meth : Method) (c : Code) (b L : Nat) (xs : Nat → Int32) : Prop :=
  p.tables.exec = Jvm.exec ∧ c.code = code ∧ meth.sig.returnType = ret ∧ c.maxLocals = 6 ∧ s.vm.findClass R_law = some m.cls ∧ (∀ w ∈ lw_tbl, w.before #[Value.ref b] s = true) ∧ va_X b L xs s s.heap ∧ b < s.heap.size ∧ meth.locks = false ∧ (Jvm.Cond.and given_1 narrow_1).before #[Value.ref b] s = true
theorem zl_ret {p : Program} {l : Launch} {e : Env} {s : State} {m : MethodId} {below : List Frame} {meth : Method} {c : Code} {b : Nat} (hx : p.tables.exec = Jvm.exec) (hb : c.code = code) (hr : meth.sig.returnType = ret) (hlocks : meth.locks = false) {D : va_G} {ws : va_W} {lv : List (Nat × Value)} {cells slots : Nat} (h1 : cells ≤ 661750) (h2 : slots ≤ 7115933) : zW p l e room_1 s m #[Value.ref b] below meth c cells slots (lw_Z below #[Value.ref b] s) D (fun q => s.heap.size ≤ q) 6 ws lv 167 [.int 1] := fun H locs ls hP hD hS hl =>
  W.widen h1 h2 (va_forget hS.2.2 (lw_ret hx hb hr hlocks dL_law_167))
set_option maxHeartbeats 4000000 in
set_option maxRecDepth 100000 in
theorem zl_start {p : Program} {e : Env} {s : State} {m : MethodId} {below : List Frame} {meth : Method} {c : Code} (l : Launch) (hflags : l.flags = flags0) {b L : Nat} {xs : Nat → Int32} (hL : L ≤ 260) (C0 : lw_At p s m meth c b L xs) : W p l e room_1 s m #[Value.ref b] below meth c s.heap [] 0 0 (lw_Z below #[Value.ref b] s) (entryFrame m ([Value.ref b] : List Value).toArray 6) := by
  obtain ⟨hx, hb, hr, hml, hown, hts, hX, hbl, hlk, hg⟩ := C0
  have hfl : l.stackTraces = false := by rw [Launch.stackTraces, hflags]; decide
  obtain ⟨D, cs, hK⟩ := zs_K hts
  have hao := zs_ao hts
  have hsx := zs_x hts hg
  obtain ⟨G, hG⟩ : ∃ z : zG_t, (D, cs, fun _ _ => 0) = z := ⟨_, rfl⟩
  have F : zF p m c cL_law 6 s #[Value.ref b] wsL_law RL G.1 (zty G) (fun q => s.heap.size ≤ q) := by
    subst hG
    exact ⟨⟨hx, hb, hml, hown, fun w h => hts w (wsL_law_in w h)⟩, hK _, fun q h => h, zs_tbl hts hg⟩
  have K : zW p l e room_1 s m #[Value.ref b] below meth c 0 0 (lw_Z below #[Value.ref b] s) G.1 (fun q => s.heap.size ≤ q) 6 [] [(0, .ref b)] 0 [] := by
    refine zi_callQI (pc := 0) (As := []) (rest := []) (Wc := []) (ws' := []) F hsx hao (c_L_turns l hfl G) (va_cwS 0 F.1.2.2.2.2 gL_law_L_turns rfl rfl rfl hd_L_turns ⟨Nat.le_of_ble_eq_true rfl, Nat.le_of_ble_eq_true rfl⟩) [] [] rfl rfl rfl rfl (Nat.le_of_ble_eq_true rfl) dL_law_0 ⟨Nat.le_of_ble_eq_true rfl, Nat.le_of_ble_eq_true rfl⟩ ?_
    refine zi_if_eq (pc := 3) (tgt := 24) F dL_law_3 (by decide) (fun h => absurd h (by decide)) (fun _ => ?_)
    refine zi_callQI (pc := 6) (As := []) (rest := []) (Wc := []) (ws' := []) F hsx hao (c_L_layers l hfl G) (va_cwS 0 F.1.2.2.2.2 gL_law_L_layers rfl rfl rfl hd_L_layers ⟨Nat.le_of_ble_eq_true rfl, Nat.le_of_ble_eq_true rfl⟩) [] [] rfl rfl rfl rfl (Nat.le_of_ble_eq_true rfl) dL_law_6 ⟨Nat.le_of_ble_eq_true rfl, Nat.le_of_ble_eq_true rfl⟩ ?_
    refine zi_if_eq (pc := 9) (tgt := 24) F dL_law_9 (by decide) (fun h => absurd h (by decide)) (fun _ => ?_)
    refine zi_callQI (pc := 12) (As := []) (rest := []) (Wc := []) (ws' := []) F hsx hao (c_L_stacks l hfl G) (va_cwS 0 F.1.2.2.2.2 gL_law_L_stacks rfl rfl rfl hd_L_stacks ⟨Nat.le_of_ble_eq_true rfl, Nat.le_of_ble_eq_true rfl⟩) [] [] rfl rfl rfl rfl (Nat.le_of_ble_eq_true rfl) dL_law_12 ⟨Nat.le_of_ble_eq_true rfl, Nat.le_of_ble_eq_true rfl⟩ ?_
    refine zi_if_eq (pc := 15) (tgt := 24) F dL_law_15 (by decide) (fun h => absurd h (by decide)) (fun _ => ?_)
    refine zi_callQI (pc := 18) (As := []) (rest := []) (Wc := []) (ws' := []) F hsx hao (c_L_loops l hfl G) (va_cwS 0 F.1.2.2.2.2 gL_law_L_loops rfl rfl rfl hd_L_loops ⟨Nat.le_of_ble_eq_true rfl, Nat.le_of_ble_eq_true rfl⟩) [] [] rfl rfl rfl rfl (Nat.le_of_ble_eq_true rfl) dL_law_18 ⟨Nat.le_of_ble_eq_true rfl, Nat.le_of_ble_eq_true rfl⟩ ?_
    refine zi_if_ne (pc := 21) (tgt := 26) F dL_law_21 (by decide) (fun _ => ?_) (fun h => absurd h (by decide))
    show zW p l e room_1 s m #[Value.ref b] below meth c 980 10065 (lw_Z below #[Value.ref b] s) G.1 (fun q => s.heap.size ≤ q) 6 [] [(0, .ref b)] 26 []
    refine zi_new (pc := 26) (ci := 4) (N := 11) (C := RX4) (T := TX4) F inlX4 tyX4 tyX4_ok (List.mem_of_getElem? (i := 0) rfl) (List.mem_of_getElem? (i := 1) rfl) (List.mem_of_getElem? (i := 2) rfl) rfl [.null, .null, .null, .null, .null, .int 0, .int 0, .int 0, .int 0, .int 0, .int 0] (by decide +kernel) (Nat.le_of_ble_eq_true rfl) (Nat.le_of_ble_eq_true rfl) dL_law_26 (fun q1 => ?_)
    refine zi_ws (w9 := [(q1, .inr (4, [.null, .null, .null, .null, .null, .int 0, .int 0, .int 0, .int 0, .int 0, .int 0]))]) rfl ?_
    refine zi_dup (pc := 29) F dL_law_29 rfl ?_
    refine zi_callD (pc := 30) (Wc := [(q1, .inr (4, [.null, .null, .null, .null, .null, .int 0, .int 0, .int 0, .int 0, .int 0, .int 0]))]) F hao (c_X4_init l G q1) (cwI 0 (F.1.2.2.2.2) gL_law_X4_init rfl rfl rfl (F.1.2.2.2.2 _ (List.mem_of_getElem? (i := 2) rfl)) (F.1.2.2.2.2 _ (List.mem_of_getElem? (i := 7) rfl)) (F.1.2.2.2.2 _ (List.mem_of_getElem? (i := 8) rfl)) rfl hd_X4_init ⟨Nat.le_of_ble_eq_true rfl, Nat.le_of_ble_eq_true rfl⟩) [] [] rfl (Nat.le_of_ble_eq_true rfl) dL_law_30 ⟨Nat.le_of_ble_eq_true rfl, Nat.le_of_ble_eq_true rfl⟩ (fun u1 => ?_)
    refine zi_ws (w9 := zWL (zad G (zat0 u1 q1)) zL0 zZ zZ zZ zZ zZ) (by rw [List.append_nil]; rfl) ?_
    refine zi_astore_n (pc := 33) (lv' := [(0, .ref b), (1, .ref q1)]) F dL_law_33 (by decide) rfl ?_
    refine zi_iconst (pc := 34) (v := 0) F dL_law_34 rfl ?_
    refine zi_istore_n (pc := 35) (lv' := [(0, .ref b), (1, .ref q1), (2, .int 0)]) F dL_law_35 (by decide) rfl ?_
    have hbA : ¬ (s.heap.size ≤ b) := by omega
    exact sl_loop (G := zad G (zat0 u1 q1)) hfl F hsx hao hX hbl hbA hL (fun ws lv cells slots h1 h2 => zl_ret hx hb hr hlk h1 h2) 40 0 zL0 zZ zZ zZ zZ zZ _ _ (by decide) (by decide) (by unfold zIT; decide +kernel) ⟨by decide +kernel, fun _ => (by decide : vp_nar .boolean (0 : Int32) = 0)⟩ (by unfold zIM; decide +kernel) (Nat.le_of_ble_eq_true rfl) (Nat.le_of_ble_eq_true rfl)
  have hP0 : va_P G.1 vwCl [] s.heap := fun k q h => by cases h
  have hD0 : va_D (fun q => s.heap.size ≤ q) [] := ⟨fun i j p q h => (by cases h), fun k q h => (by cases h)⟩
  have hl := lv_entry [.ref b] (n := 6) (Nat.le_of_ble_eq_true rfl)
  rw [lg_entry_eq]
  exact K s.heap [] _ hP0 hD0 va_S.rf hl
