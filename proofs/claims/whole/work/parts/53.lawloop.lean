def R_law : String := "LayeredTableLaw"
def lw_P (b : Addr) (xs : List Int32) (args : Array Value) (s : State) : Prop := args = #[.ref b] ∧ s.IntsAt b xs ∧ xs.length ≤ 1536 ∧ (Jvm.Cond.and given_1 narrow_1).before args s = true
def lw_Q (_ : Array Value) (s : State) (o : Outcome) (t : State) : Prop := o = .returned (some (.int 1)) ∧ Framed s o t [] 601024 7293034
def lw_Z (below : List Frame) (a : Array Value) (s : State) : State → Prop := fun t => ∃ o, t.status = .running ∧ Ended t below o ∧ lw_Q a s o t
/-- the law's own end, with 1 on the stack, nothing written that was there before, its room as the claim has it -/
theorem lw_ret {p : Program} {l : Launch} {e : Env} {s : State} {m : MethodId} {below : List Frame} {meth : Method} {c : Code} {b : Nat} (hx : p.tables.exec = Jvm.exec) (hb : c.code = code) (hr : meth.sig.returnType = ret) (hlocks : meth.locks = false) {pc : Nat} {H : Heap} {ls : Array Slot} (hdg : decode code pc = .ok (.ireturn, 1)) : W p l e room_1 s m #[Value.ref b] below meth c H [] 601024 7293034 (lw_Z below #[Value.ref b] s) (F0 m pc ls [.int 1]) := by
  intro T hT X
  obtain ⟨fs, hret, hrun, hended, hW, hframe⟩ := X.leave (v := some (.int 1)) (hlocks := hlocks) (fun h => by rw [hr] at h; cases h)
  have hmeth' : T.vm.method? m = some meth := X.method'
  refine ⟨T.setFrames fs, ?_, .returned (some (.int 1)), hrun, hended, rfl, ⟨_, rfl⟩, hW, hframe⟩
  jvm_step X.here [X.here.top, hx, hb, hdg, hmeth', hr, ret, narrow_b1]
  (try refine ⟨rfl, ?_⟩); (try refine ⟨rfl, ?_⟩)
  first | (intro acts; rw [hret _ acts rfl rfl rfl]) | rw [hret _ _ rfl rfl rfl]
  exact Steps.refl _
/-- what holds at the law's entry: the machine, the code, the tables' words (any of lw_tbl by 'hts w (by decide +kernel)'), the script of L ints xs at the cell b, what the Statement gives of the start (any of its parts by flat_of_before) -/
def lw_At (p : Program) (s : State) (m : MethodId) (meth : Method) (c : Code) (b L : Nat) (xs : Nat → Int32) : Prop :=
  p.tables.exec = Jvm.exec ∧ c.code = code ∧ meth.sig.returnType = ret ∧ c.maxLocals = 7 ∧ s.vm.findClass R_law = some m.cls ∧ (∀ w ∈ lw_tbl, w.before #[Value.ref b] s = true) ∧ va_X b L xs s s.heap ∧ b < s.heap.size ∧ meth.locks = false ∧ (Jvm.Cond.and given_1 narrow_1).before #[Value.ref b] s = true
theorem zl_ret {p : Program} {l : Launch} {e : Env} {s : State} {m : MethodId} {below : List Frame} {meth : Method} {c : Code} {b : Nat} (hx : p.tables.exec = Jvm.exec) (hb : c.code = code) (hr : meth.sig.returnType = ret) (hlocks : meth.locks = false) {D : va_G} {ws : va_W} {lv : List (Nat × Value)} {cells slots : Nat} (h1 : cells ≤ 601024) (h2 : slots ≤ 7293034) : zW p l e room_1 s m #[Value.ref b] below meth c cells slots (lw_Z below #[Value.ref b] s) D (fun q => s.heap.size ≤ q) 7 ws lv 1025 [.int 1] := fun H locs ls hP hD hS hl =>
  W.widen h1 h2 (va_forget hS.2.2 (lw_ret hx hb hr hlocks dL_law_1025))
set_option maxHeartbeats 4000000 in
set_option maxRecDepth 100000 in
theorem zl_loop {p : Program} {l : Launch} {e : Env} {s : State} {m : MethodId} {args : Array Value} {below : List Frame} {meth : Method} {c : Code} {Q : State → Prop} {A : Nat → Prop} {G : zG_t} {oa b Ln : Nat} {xs : Nat → Int32} {Rel : zRel_t} (hfl : l.stackTraces = false) (hag : zAg Rel) (hinv : zHinv Rel) (hmono : ∀ (n : Nat) (L T E V M K R : zS_t), Rel n L T E V M K R → Rel (n + 1) L T E V M K R) (F : zF p m c cL_law 7 s args wsL_law RL G.1 (zty G) A) (hsx : zSx s) (hX : va_X b Ln xs s s.heap) (hbl : b < s.heap.size) (hbA : ¬ A b) (hLn : Ln ≤ 1536)
    (hret : ∀ (ws : va_W) (lv : List (Nat × Value)) (cells slots : Nat), cells ≤ 601024 → slots ≤ 7293034 → zW p l e room_1 s m args below meth c cells slots Q G.1 A 7 ws lv 1025 [.int 1]) :
    ∀ (k n : Nat) (i : Int32) (f : Nat → Int64) (L T E V M K R : zS_t) (cells slots : Nat), n + k = 512 → i.toInt = 3 * (n : Int) → Rel n L T E V M K R → cells ≤ 81 + n → slots ≤ 2374 + 6 * n → zW p l e room_1 s m args below meth c cells slots Q G.1 A 7 (zWq G oa f (zWL G L T E V M K ++ zWR G R)) [(0, .ref b), (1, .ref (G.2.2 0 0)), (2, .ref (G.2.2 6 0)), (3, .ref oa), (4, .int i)] 23 [] := by
  intro k
  induction k with
  | zero =>
    intro n i f L T E V M K R cells slots hk hi hR hc hs
    have hln : (Int32.ofNat Ln).toInt = Ln := Int32.toInt_ofNat_of_lt (by omega)
    have k_3 : Int32.toInt 3 = 3 := by decide
    have t_3 := zt_sub (a := Int32.ofNat Ln) (b := 3) (by omega) (by omega)
    refine zi_iload (pc := 23) F dL_law_23 4 rfl ?_
    refine zi_aload_n (pc := 25) F dL_law_25 0 rfl ?_
    refine zi_slen (pc := 26) F hX hbl hbA dL_law_26 ?_
    refine zi_iconst (pc := 27) (v := 3) F dL_law_27 rfl ?_
    refine zi_isub (pc := 28) F dL_law_28 ?_
    refine zi_icmp_gt (pc := 29) (tgt := 1024) F dL_law_29 (by decide) (fun h => ?_) (fun h => ?_)
    · refine zi_iconst (pc := 1024) (v := 1) F dL_law_1024 rfl ?_
      exact hret _ _ _ _ (by omega) (by omega)
    · have t := zt_nlt h
      exact absurd t (by omega)
  | succ k ih =>
    intro n i f L T E V M K R cells slots hk hi hR hc hs
    have hln : (Int32.ofNat Ln).toInt = Ln := Int32.toInt_ofNat_of_lt (by omega)
    have k_3 : Int32.toInt 3 = 3 := by decide
    have t_3 := zt_sub (a := Int32.ofNat Ln) (b := 3) (by omega) (by omega)
    refine zi_iload (pc := 23) F dL_law_23 4 rfl ?_
    refine zi_aload_n (pc := 25) F dL_law_25 0 rfl ?_
    refine zi_slen (pc := 26) F hX hbl hbA dL_law_26 ?_
    refine zi_iconst (pc := 27) (v := 3) F dL_law_27 rfl ?_
    refine zi_isub (pc := 28) F dL_law_28 ?_
    refine zi_icmp_gt (pc := 29) (tgt := 1024) F dL_law_29 (by decide) (fun h => ?_) (fun h => ?_)
    · refine zi_iconst (pc := 1024) (v := 1) F dL_law_1024 rfl ?_
      exact hret _ _ _ _ (by omega) (by omega)
    have hle := zt_nlt h
    have hi0 : 0 ≤ i.toInt := by omega
    have hi1 : i.toInt + 3 ≤ Ln := by omega
    have hn : n < 512 := by omega
    have hback : zBk p l e s m args below meth c Q A G oa b i n Rel := by
      intro f L T E V M K R cells slots hR hc hs
      obtain ⟨y, hy⟩ : ∃ z, i + 3 = z := ⟨_, rfl⟩
      have t_9 := zt_add (a := i) (b := 3) (by omega) (by omega)
      rw [hy] at t_9
      refine zi_iinc (pc := 1018) (lv' := [(0, .ref b), (1, .ref (G.2.2 0 0)), (2, .ref (G.2.2 6 0)), (3, .ref oa), (4, .int y)]) F dL_law_1018 4 rfl hy (by decide) rfl ?_
      refine zi_goto (pc := 1021) (tgt := 23) F dL_law_1021 (by decide) ?_
      exact ih (n + 1) y f L T E V M K R cells slots (by omega) (by omega) hR (by omega) (by omega)
    refine zi_aload_n (pc := 32) F dL_law_32 0 rfl ?_
    refine zi_iload (pc := 33) F dL_law_33 4 rfl ?_
    refine zi_sld (pc := 35) F hX hbl hbA (zin (by omega) (by omega)) rfl dL_law_35 ?_
    refine zi_bipush (pc := 36) (v := 31) F dL_law_36 rfl ?_
    refine zi_iand (pc := 38) F dL_law_38 ?_
    obtain ⟨w, hw⟩ : ∃ z, xs i.toNatClampNeg &&& 31 = z := ⟨_, rfl⟩
    rw [hw]
    by_cases c_0 : w = 0
    · have t : Int32.toInt w = 0 := by rw [c_0]; rfl
      refine zi_tableIn (pc := 39) (tgt := 132) (off := 93) F dL_law_39 (by omega) (by omega) (by rw [t]; rfl) (by decide) ?_
      exact zc_play hfl hag.1 hinv F hsx hX hbl hbA hi0 hi1 hLn hn hback f L T E V M K R cells slots hR hc hs
    have n_0 := lv_neT (a := 0) c_0 rfl
    by_cases c_1 : w = 1
    · have t : Int32.toInt w = 1 := by rw [c_1]; rfl
      refine zi_tableIn (pc := 39) (tgt := 200) (off := 161) F dL_law_39 (by omega) (by omega) (by rw [t]; rfl) (by decide) ?_
      exact zc_obstacle hfl hag.2.1 hinv F hsx hX hbl hbA hi0 hi1 hLn hn hback f L T E V M K R cells slots hR hc hs
    have n_1 := lv_neT (a := 1) c_1 rfl
    by_cases c_2 : w = 2
    · have t : Int32.toInt w = 2 := by rw [c_2]; rfl
      refine zi_tableIn (pc := 39) (tgt := 268) (off := 229) F dL_law_39 (by omega) (by omega) (by rw [t]; rfl) (by decide) ?_
      exact zc_pass hfl hag.2.2.1 hinv F hsx hX hbl hbA hi0 hi1 hLn hn hback f L T E V M K R cells slots hR hc hs
    have n_2 := lv_neT (a := 2) c_2 rfl
    by_cases c_3 : w = 3
    · have t : Int32.toInt w = 3 := by rw [c_3]; rfl
      refine zi_tableIn (pc := 39) (tgt := 281) (off := 242) F dL_law_39 (by omega) (by omega) (by rw [t]; rfl) (by decide) ?_
      exact zc_settle hfl hag.2.2.2.1 hinv F hsx hX hbl hbA hi0 hi1 hLn hn hback f L T E V M K R cells slots hR hc hs
    have n_3 := lv_neT (a := 3) c_3 rfl
    by_cases c_4 : w = 4
    · have t : Int32.toInt w = 4 := by rw [c_4]; rfl
      refine zi_tableIn (pc := 39) (tgt := 337) (off := 298) F dL_law_39 (by omega) (by omega) (by rw [t]; rfl) (by decide) ?_
      exact zc_turn hfl hag.2.2.2.2.1 hinv F hsx hX hbl hbA hi0 hi1 hLn hn hback f L T E V M K R cells slots hR hc hs
    have n_4 := lv_neT (a := 4) c_4 rfl
    by_cases c_5 : w = 5
    · have t : Int32.toInt w = 5 := by rw [c_5]; rfl
      refine zi_tableIn (pc := 39) (tgt := 350) (off := 311) F dL_law_39 (by omega) (by omega) (by rw [t]; rfl) (by decide) ?_
      exact zc_acting hfl hag.2.2.2.2.2.1 hinv F hsx hX hbl hbA hi0 hi1 hLn hn hback f L T E V M K R cells slots hR hc hs
    have n_5 := lv_neT (a := 5) c_5 rfl
    by_cases c_6 : w = 6
    · have t : Int32.toInt w = 6 := by rw [c_6]; rfl
      refine zi_tableIn (pc := 39) (tgt := 363) (off := 324) F dL_law_39 (by omega) (by omega) (by rw [t]; rfl) (by decide) ?_
      exact zc_rounds hfl hag.2.2.2.2.2.2.1 hinv F hsx hX hbl hbA hi0 hi1 hLn hn hback f L T E V M K R cells slots hR hc hs
    have n_6 := lv_neT (a := 6) c_6 rfl
    by_cases c_7 : w = 7
    · have t : Int32.toInt w = 7 := by rw [c_7]; rfl
      refine zi_tableIn (pc := 39) (tgt := 376) (off := 337) F dL_law_39 (by omega) (by omega) (by rw [t]; rfl) (by decide) ?_
      exact zc_loops hfl hag.2.2.2.2.2.2.2.1 hinv F hsx hX hbl hbA hi0 hi1 hLn hn hback f L T E V M K R cells slots hR hc hs
    have n_7 := lv_neT (a := 7) c_7 rfl
    by_cases c_8 : w = 8
    · have t : Int32.toInt w = 8 := by rw [c_8]; rfl
      refine zi_tableIn (pc := 39) (tgt := 389) (off := 350) F dL_law_39 (by omega) (by omega) (by rw [t]; rfl) (by decide) ?_
      exact zc_coins hfl hag.2.2.2.2.2.2.2.2.1 hinv F hsx hX hbl hbA hi0 hi1 hLn hn hback f L T E V M K R cells slots hR hc hs
    have n_8 := lv_neT (a := 8) c_8 rfl
    by_cases c_9 : w = 9
    · have t : Int32.toInt w = 9 := by rw [c_9]; rfl
      refine zi_tableIn (pc := 39) (tgt := 445) (off := 406) F dL_law_39 (by omega) (by omega) (by rw [t]; rfl) (by decide) ?_
      exact zc_things hfl hag.2.2.2.2.2.2.2.2.2.1 hinv F hsx hX hbl hbA hi0 hi1 hLn hn hback f L T E V M K R cells slots hR hc hs
    have n_9 := lv_neT (a := 9) c_9 rfl
    by_cases c_10 : w = 10
    · have t : Int32.toInt w = 10 := by rw [c_10]; rfl
      refine zi_tableIn (pc := 39) (tgt := 458) (off := 419) F dL_law_39 (by omega) (by omega) (by rw [t]; rfl) (by decide) ?_
      exact zc_cardOf hfl hag.2.2.2.2.2.2.2.2.2.2.1 hinv F hsx hX hbl hbA hi0 hi1 hLn hn hback f L T E V M K R cells slots hR hc hs
    have n_10 := lv_neT (a := 10) c_10 rfl
    by_cases c_11 : w = 11
    · have t : Int32.toInt w = 11 := by rw [c_11]; rfl
      refine zi_tableIn (pc := 39) (tgt := 514) (off := 475) F dL_law_39 (by omega) (by omega) (by rw [t]; rfl) (by decide) ?_
      exact zc_controllerOf hfl hag.2.2.2.2.2.2.2.2.2.2.2.1 hinv F hsx hX hbl hbA hi0 hi1 hLn hn hback f L T E V M K R cells slots hR hc hs
    have n_11 := lv_neT (a := 11) c_11 rfl
    by_cases c_12 : w = 12
    · have t : Int32.toInt w = 12 := by rw [c_12]; rfl
      refine zi_tableIn (pc := 39) (tgt := 582) (off := 543) F dL_law_39 (by omega) (by omega) (by rw [t]; rfl) (by decide) ?_
      exact zc_kindsOf hfl hag.2.2.2.2.2.2.2.2.2.2.2.2.1 hinv F hsx hX hbl hbA hi0 hi1 hLn hn hback f L T E V M K R cells slots hR hc hs
    have n_12 := lv_neT (a := 12) c_12 rfl
    by_cases c_13 : w = 13
    · have t : Int32.toInt w = 13 := by rw [c_13]; rfl
      refine zi_tableIn (pc := 39) (tgt := 650) (off := 611) F dL_law_39 (by omega) (by omega) (by rw [t]; rfl) (by decide) ?_
      exact zc_strengthOf hfl hag.2.2.2.2.2.2.2.2.2.2.2.2.2.1 hinv F hsx hX hbl hbA hi0 hi1 hLn hn hback f L T E V M K R cells slots hR hc hs
    have n_13 := lv_neT (a := 13) c_13 rfl
    by_cases c_14 : w = 14
    · have t : Int32.toInt w = 14 := by rw [c_14]; rfl
      refine zi_tableIn (pc := 39) (tgt := 718) (off := 679) F dL_law_39 (by omega) (by omega) (by rw [t]; rfl) (by decide) ?_
      exact zc_power hfl hag.2.2.2.2.2.2.2.2.2.2.2.2.2.2.1 hinv F hsx hX hbl hbA hi0 hi1 hLn hn hback f L T E V M K R cells slots hR hc hs
    have n_14 := lv_neT (a := 14) c_14 rfl
    by_cases c_15 : w = 15
    · have t : Int32.toInt w = 15 := by rw [c_15]; rfl
      refine zi_tableIn (pc := 39) (tgt := 774) (off := 735) F dL_law_39 (by omega) (by omega) (by rw [t]; rfl) (by decide) ?_
      exact zc_stack hfl hag.2.2.2.2.2.2.2.2.2.2.2.2.2.2.2.1 hinv F hsx hX hbl hbA hi0 hi1 hLn hn hback f L T E V M K R cells slots hR hc hs
    have n_15 := lv_neT (a := 15) c_15 rfl
    by_cases c_16 : w = 16
    · have t : Int32.toInt w = 16 := by rw [c_16]; rfl
      refine zi_tableIn (pc := 39) (tgt := 787) (off := 748) F dL_law_39 (by omega) (by omega) (by rw [t]; rfl) (by decide) ?_
      exact zc_entryCard hfl hag.2.2.2.2.2.2.2.2.2.2.2.2.2.2.2.2.1 hinv F hsx hX hbl hbA hi0 hi1 hLn hn hback f L T E V M K R cells slots hR hc hs
    have n_16 := lv_neT (a := 16) c_16 rfl
    by_cases c_17 : w = 17
    · have t : Int32.toInt w = 17 := by rw [c_17]; rfl
      refine zi_tableIn (pc := 39) (tgt := 843) (off := 804) F dL_law_39 (by omega) (by omega) (by rw [t]; rfl) (by decide) ?_
      exact zc_isTrigger hfl hag.2.2.2.2.2.2.2.2.2.2.2.2.2.2.2.2.2.1 hinv F hsx hX hbl hbA hi0 hi1 hLn hn hback f L T E V M K R cells slots hR hc hs
    have n_17 := lv_neT (a := 17) c_17 rfl
    by_cases c_18 : w = 18
    · have t : Int32.toInt w = 18 := by rw [c_18]; rfl
      refine zi_tableIn (pc := 39) (tgt := 906) (off := 867) F dL_law_39 (by omega) (by omega) (by rw [t]; rfl) (by decide) ?_
      exact zc_entryPlayer hfl hag.2.2.2.2.2.2.2.2.2.2.2.2.2.2.2.2.2.2.1 hinv F hsx hX hbl hbA hi0 hi1 hLn hn hback f L T E V M K R cells slots hR hc hs
    have n_18 := lv_neT (a := 18) c_18 rfl
    by_cases c_19 : w = 19
    · have t : Int32.toInt w = 19 := by rw [c_19]; rfl
      refine zi_tableIn (pc := 39) (tgt := 962) (off := 923) F dL_law_39 (by omega) (by omega) (by rw [t]; rfl) (by decide) ?_
      exact zc_entryTarget hfl hag.2.2.2.2.2.2.2.2.2.2.2.2.2.2.2.2.2.2.2 hinv F hsx hX hbl hbA hi0 hi1 hLn hn hback f L T E V M K R cells slots hR hc hs
    have n_19 := lv_neT (a := 19) c_19 rfl
    refine zi_tableOut (pc := 39) (tgt := 1018) F dL_law_39 (by omega) (by decide) ?_
    exact hback f L T E V M K R cells slots (hmono n L T E V M K R hR) (by omega) (by omega)
