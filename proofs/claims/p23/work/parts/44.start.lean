/-! where the law begins -/
theorem zclo {c : Nat} {s : State} {args : Array Value} {ty : FieldType} (h : (Cond.arrayClass ty).before args s = true) : ∃ cA : ClassId, ArrOfT s cA ty ∧ s.vm.findClass ("[" ++ ty.toString) = some cA := by
  obtain ⟨cA, kA, comp, h1, h2, h3⟩ := Cond.arrayClass_spec h
  exact ⟨cA, fun n z => ⟨fun k h => (by cases h), kA, h2, comp, h3⟩, h1⟩
theorem zclr {s : State} (h : zAOA s) : ∃ cA : ClassId, ArrOfT s cA (.array .int) ∧ s.vm.findClass ("[" ++ (FieldType.array .int).toString) = some cA := by
  obtain ⟨comp, cA, kA, h1, h2, h3, h4, h5⟩ := Jvm.Stand.arrayOver_specB h
  exact ⟨cA, fun n z => ⟨fun k h => (by cases h), kA, h3, comp, h4⟩, h5⟩
theorem ztab {n : String} {xs : List Int32} {s : State} {args : Array Value} (hl : (Cond.laysStatic "LayeredTable" n "[I").before args s = true) (hini : (Cond.initialized "LayeredTable").before args s = true) (ha : (Cond.arrayOf (.static "LayeredTable" n "[I") .int).before args s = true) (hn : (Cond.eq (.length (.static "LayeredTable" n "[I")) (.int 14)).before args s = true) (he : ∀ j : Nat, j < 14 → (Cond.eq (.elem (.static "LayeredTable" n "[I") (.int (Int32.ofNat j))) (.int (xs.getD j 0))).before args s = true) : zTb n xs (fun q => s.heap.size ≤ q) s s.heap := by
  have hA : ∀ a : Nat, a < s.heap.size → ¬ (s.heap.size ≤ a) := fun a h => by omega
  obtain ⟨t, h1, h2⟩ := va_Tof (A := fun q => s.heap.size ≤ q) (tm := .static "LayeredTable" n "[I") (ty := .int) (N := 14) (f := fun j => .int (xs.getD j 0)) (by decide) ha (va_eqt hn) (fun j hj => va_eqt (he j hj)) hA
  exact ⟨t, va_Zof hl hini h1 hA, h2⟩
theorem zvk {own tx : String} {k : Nat} {s : State} {args : Array Value} (h1 : (Cond.stringRef own k tx).before args s = true) (h2 : (Cond.exactly (.string own k) "java/lang/String").before args s = true) : ∃ a : Nat, vk_R own k tx a s := by
  obtain ⟨a, c, cell, kk, h3, -⟩ := Cond.exactly_spec h2
  exact ⟨a, vk_R.of h1 h3⟩
theorem zg_COST_OF_a {s : State} {args : Array Value} (h : (Jvm.Cond.and given_1 narrow_1).before args s = true) : (Cond.arrayOf (.static "LayeredTable" "COST_OF" "[I") .int).before args s = true := flat_of_before _ h _ (by decide +kernel)
theorem zg_COST_OF_n {s : State} {args : Array Value} (h : (Jvm.Cond.and given_1 narrow_1).before args s = true) : (Cond.eq (.length (.static "LayeredTable" "COST_OF" "[I")) (.int 14)).before args s = true := flat_of_before _ h _ (by decide +kernel)
theorem zg_COST_OF_0 {s : State} {args : Array Value} (h : (Jvm.Cond.and given_1 narrow_1).before args s = true) : (Cond.eq (.elem (.static "LayeredTable" "COST_OF" "[I") (.int 0)) (.int 2)).before args s = true := flat_of_before _ h _ (by decide +kernel)
theorem zg_COST_OF_1 {s : State} {args : Array Value} (h : (Jvm.Cond.and given_1 narrow_1).before args s = true) : (Cond.eq (.elem (.static "LayeredTable" "COST_OF" "[I") (.int 1)) (.int 3)).before args s = true := flat_of_before _ h _ (by decide +kernel)
theorem zg_COST_OF_2 {s : State} {args : Array Value} (h : (Jvm.Cond.and given_1 narrow_1).before args s = true) : (Cond.eq (.elem (.static "LayeredTable" "COST_OF" "[I") (.int 2)) (.int 3)).before args s = true := flat_of_before _ h _ (by decide +kernel)
theorem zg_COST_OF_3 {s : State} {args : Array Value} (h : (Jvm.Cond.and given_1 narrow_1).before args s = true) : (Cond.eq (.elem (.static "LayeredTable" "COST_OF" "[I") (.int 3)) (.int 3)).before args s = true := flat_of_before _ h _ (by decide +kernel)
theorem zg_COST_OF_4 {s : State} {args : Array Value} (h : (Jvm.Cond.and given_1 narrow_1).before args s = true) : (Cond.eq (.elem (.static "LayeredTable" "COST_OF" "[I") (.int 4)) (.int 3)).before args s = true := flat_of_before _ h _ (by decide +kernel)
theorem zg_COST_OF_5 {s : State} {args : Array Value} (h : (Jvm.Cond.and given_1 narrow_1).before args s = true) : (Cond.eq (.elem (.static "LayeredTable" "COST_OF" "[I") (.int 5)) (.int 2)).before args s = true := flat_of_before _ h _ (by decide +kernel)
theorem zg_COST_OF_6 {s : State} {args : Array Value} (h : (Jvm.Cond.and given_1 narrow_1).before args s = true) : (Cond.eq (.elem (.static "LayeredTable" "COST_OF" "[I") (.int 6)) (.int 2)).before args s = true := flat_of_before _ h _ (by decide +kernel)
theorem zg_COST_OF_7 {s : State} {args : Array Value} (h : (Jvm.Cond.and given_1 narrow_1).before args s = true) : (Cond.eq (.elem (.static "LayeredTable" "COST_OF" "[I") (.int 7)) (.int 4)).before args s = true := flat_of_before _ h _ (by decide +kernel)
theorem zg_COST_OF_8 {s : State} {args : Array Value} (h : (Jvm.Cond.and given_1 narrow_1).before args s = true) : (Cond.eq (.elem (.static "LayeredTable" "COST_OF" "[I") (.int 8)) (.int 3)).before args s = true := flat_of_before _ h _ (by decide +kernel)
theorem zg_COST_OF_9 {s : State} {args : Array Value} (h : (Jvm.Cond.and given_1 narrow_1).before args s = true) : (Cond.eq (.elem (.static "LayeredTable" "COST_OF" "[I") (.int 9)) (.int 2)).before args s = true := flat_of_before _ h _ (by decide +kernel)
theorem zg_COST_OF_10 {s : State} {args : Array Value} (h : (Jvm.Cond.and given_1 narrow_1).before args s = true) : (Cond.eq (.elem (.static "LayeredTable" "COST_OF" "[I") (.int 10)) (.int 3)).before args s = true := flat_of_before _ h _ (by decide +kernel)
theorem zg_COST_OF_11 {s : State} {args : Array Value} (h : (Jvm.Cond.and given_1 narrow_1).before args s = true) : (Cond.eq (.elem (.static "LayeredTable" "COST_OF" "[I") (.int 11)) (.int 3)).before args s = true := flat_of_before _ h _ (by decide +kernel)
theorem zg_COST_OF_12 {s : State} {args : Array Value} (h : (Jvm.Cond.and given_1 narrow_1).before args s = true) : (Cond.eq (.elem (.static "LayeredTable" "COST_OF" "[I") (.int 12)) (.int 1)).before args s = true := flat_of_before _ h _ (by decide +kernel)
theorem zg_COST_OF_13 {s : State} {args : Array Value} (h : (Jvm.Cond.and given_1 narrow_1).before args s = true) : (Cond.eq (.elem (.static "LayeredTable" "COST_OF" "[I") (.int 13)) (.int 1)).before args s = true := flat_of_before _ h _ (by decide +kernel)
theorem zg_COST_OF {s : State} {args : Array Value} (h : (Jvm.Cond.and given_1 narrow_1).before args s = true) : ∀ j : Nat, j < 14 → (Cond.eq (.elem (.static "LayeredTable" "COST_OF" "[I") (.int (Int32.ofNat j))) (.int (zCost.getD j 0))).before args s = true := fun j hj => match j, hj with
  | 0, _ => zg_COST_OF_0 h
  | 1, _ => zg_COST_OF_1 h
  | 2, _ => zg_COST_OF_2 h
  | 3, _ => zg_COST_OF_3 h
  | 4, _ => zg_COST_OF_4 h
  | 5, _ => zg_COST_OF_5 h
  | 6, _ => zg_COST_OF_6 h
  | 7, _ => zg_COST_OF_7 h
  | 8, _ => zg_COST_OF_8 h
  | 9, _ => zg_COST_OF_9 h
  | 10, _ => zg_COST_OF_10 h
  | 11, _ => zg_COST_OF_11 h
  | 12, _ => zg_COST_OF_12 h
  | 13, _ => zg_COST_OF_13 h
  | k + 14, hk => absurd hk (by omega)
theorem zg_LAYER_OF_a {s : State} {args : Array Value} (h : (Jvm.Cond.and given_1 narrow_1).before args s = true) : (Cond.arrayOf (.static "LayeredTable" "LAYER_OF" "[I") .int).before args s = true := flat_of_before _ h _ (by decide +kernel)
theorem zg_LAYER_OF_n {s : State} {args : Array Value} (h : (Jvm.Cond.and given_1 narrow_1).before args s = true) : (Cond.eq (.length (.static "LayeredTable" "LAYER_OF" "[I")) (.int 14)).before args s = true := flat_of_before _ h _ (by decide +kernel)
theorem zg_LAYER_OF_0 {s : State} {args : Array Value} (h : (Jvm.Cond.and given_1 narrow_1).before args s = true) : (Cond.eq (.elem (.static "LayeredTable" "LAYER_OF" "[I") (.int 0)) (.int 0)).before args s = true := flat_of_before _ h _ (by decide +kernel)
theorem zg_LAYER_OF_1 {s : State} {args : Array Value} (h : (Jvm.Cond.and given_1 narrow_1).before args s = true) : (Cond.eq (.elem (.static "LayeredTable" "LAYER_OF" "[I") (.int 1)) (.int 0)).before args s = true := flat_of_before _ h _ (by decide +kernel)
theorem zg_LAYER_OF_2 {s : State} {args : Array Value} (h : (Jvm.Cond.and given_1 narrow_1).before args s = true) : (Cond.eq (.elem (.static "LayeredTable" "LAYER_OF" "[I") (.int 2)) (.int 4)).before args s = true := flat_of_before _ h _ (by decide +kernel)
theorem zg_LAYER_OF_3 {s : State} {args : Array Value} (h : (Jvm.Cond.and given_1 narrow_1).before args s = true) : (Cond.eq (.elem (.static "LayeredTable" "LAYER_OF" "[I") (.int 3)) (.int 3)).before args s = true := flat_of_before _ h _ (by decide +kernel)
theorem zg_LAYER_OF_4 {s : State} {args : Array Value} (h : (Jvm.Cond.and given_1 narrow_1).before args s = true) : (Cond.eq (.elem (.static "LayeredTable" "LAYER_OF" "[I") (.int 4)) (.int 3)).before args s = true := flat_of_before _ h _ (by decide +kernel)
theorem zg_LAYER_OF_5 {s : State} {args : Array Value} (h : (Jvm.Cond.and given_1 narrow_1).before args s = true) : (Cond.eq (.elem (.static "LayeredTable" "LAYER_OF" "[I") (.int 5)) (.int 2)).before args s = true := flat_of_before _ h _ (by decide +kernel)
theorem zg_LAYER_OF_6 {s : State} {args : Array Value} (h : (Jvm.Cond.and given_1 narrow_1).before args s = true) : (Cond.eq (.elem (.static "LayeredTable" "LAYER_OF" "[I") (.int 6)) (.int 2)).before args s = true := flat_of_before _ h _ (by decide +kernel)
theorem zg_LAYER_OF_7 {s : State} {args : Array Value} (h : (Jvm.Cond.and given_1 narrow_1).before args s = true) : (Cond.eq (.elem (.static "LayeredTable" "LAYER_OF" "[I") (.int 7)) (.int 1)).before args s = true := flat_of_before _ h _ (by decide +kernel)
theorem zg_LAYER_OF_8 {s : State} {args : Array Value} (h : (Jvm.Cond.and given_1 narrow_1).before args s = true) : (Cond.eq (.elem (.static "LayeredTable" "LAYER_OF" "[I") (.int 8)) (.int 5)).before args s = true := flat_of_before _ h _ (by decide +kernel)
theorem zg_LAYER_OF_9 {s : State} {args : Array Value} (h : (Jvm.Cond.and given_1 narrow_1).before args s = true) : (Cond.eq (.elem (.static "LayeredTable" "LAYER_OF" "[I") (.int 9)) (.int 0)).before args s = true := flat_of_before _ h _ (by decide +kernel)
theorem zg_LAYER_OF_10 {s : State} {args : Array Value} (h : (Jvm.Cond.and given_1 narrow_1).before args s = true) : (Cond.eq (.elem (.static "LayeredTable" "LAYER_OF" "[I") (.int 10)) (.int 0)).before args s = true := flat_of_before _ h _ (by decide +kernel)
theorem zg_LAYER_OF_11 {s : State} {args : Array Value} (h : (Jvm.Cond.and given_1 narrow_1).before args s = true) : (Cond.eq (.elem (.static "LayeredTable" "LAYER_OF" "[I") (.int 11)) (.int 0)).before args s = true := flat_of_before _ h _ (by decide +kernel)
theorem zg_LAYER_OF_12 {s : State} {args : Array Value} (h : (Jvm.Cond.and given_1 narrow_1).before args s = true) : (Cond.eq (.elem (.static "LayeredTable" "LAYER_OF" "[I") (.int 12)) (.int 0)).before args s = true := flat_of_before _ h _ (by decide +kernel)
theorem zg_LAYER_OF_13 {s : State} {args : Array Value} (h : (Jvm.Cond.and given_1 narrow_1).before args s = true) : (Cond.eq (.elem (.static "LayeredTable" "LAYER_OF" "[I") (.int 13)) (.int 0)).before args s = true := flat_of_before _ h _ (by decide +kernel)
theorem zg_LAYER_OF {s : State} {args : Array Value} (h : (Jvm.Cond.and given_1 narrow_1).before args s = true) : ∀ j : Nat, j < 14 → (Cond.eq (.elem (.static "LayeredTable" "LAYER_OF" "[I") (.int (Int32.ofNat j))) (.int (zLayer.getD j 0))).before args s = true := fun j hj => match j, hj with
  | 0, _ => zg_LAYER_OF_0 h
  | 1, _ => zg_LAYER_OF_1 h
  | 2, _ => zg_LAYER_OF_2 h
  | 3, _ => zg_LAYER_OF_3 h
  | 4, _ => zg_LAYER_OF_4 h
  | 5, _ => zg_LAYER_OF_5 h
  | 6, _ => zg_LAYER_OF_6 h
  | 7, _ => zg_LAYER_OF_7 h
  | 8, _ => zg_LAYER_OF_8 h
  | 9, _ => zg_LAYER_OF_9 h
  | 10, _ => zg_LAYER_OF_10 h
  | 11, _ => zg_LAYER_OF_11 h
  | 12, _ => zg_LAYER_OF_12 h
  | 13, _ => zg_LAYER_OF_13 h
  | k + 14, hk => absurd hk (by omega)
theorem zg_s43 {s : State} {args : Array Value} (h : (Jvm.Cond.and given_1 narrow_1).before args s = true) : (Cond.exactly (.string "LayeredTable" 43) "java/lang/String").before args s = true := flat_of_before _ h _ (by decide +kernel)
theorem zg_s54 {s : State} {args : Array Value} (h : (Jvm.Cond.and given_1 narrow_1).before args s = true) : (Cond.exactly (.string "LayeredTable" 54) "java/lang/String").before args s = true := flat_of_before _ h _ (by decide +kernel)
theorem zg_s100 {s : State} {args : Array Value} (h : (Jvm.Cond.and given_1 narrow_1).before args s = true) : (Cond.exactly (.string "LayeredTable" 100) "java/lang/String").before args s = true := flat_of_before _ h _ (by decide +kernel)
theorem zg_s112 {s : State} {args : Array Value} (h : (Jvm.Cond.and given_1 narrow_1).before args s = true) : (Cond.exactly (.string "LayeredTable" 112) "java/lang/String").before args s = true := flat_of_before _ h _ (by decide +kernel)
theorem zg_s119 {s : State} {args : Array Value} (h : (Jvm.Cond.and given_1 narrow_1).before args s = true) : (Cond.exactly (.string "LayeredTable" 119) "java/lang/String").before args s = true := flat_of_before _ h _ (by decide +kernel)
theorem zg_s141 {s : State} {args : Array Value} (h : (Jvm.Cond.and given_1 narrow_1).before args s = true) : (Cond.exactly (.string "LayeredTable" 141) "java/lang/String").before args s = true := flat_of_before _ h _ (by decide +kernel)
theorem zg_s157 {s : State} {args : Array Value} (h : (Jvm.Cond.and given_1 narrow_1).before args s = true) : (Cond.exactly (.string "LayeredTable" 157) "java/lang/String").before args s = true := flat_of_before _ h _ (by decide +kernel)
theorem zg_c0 {s : State} {args : Array Value} (h : (Jvm.Cond.and given_1 narrow_1).before args s = true) : (Cond.not (.castable "java/lang/IllegalStateException" "java/lang/IndexOutOfBoundsException")).before args s = true := flat_of_before _ h _ (by decide +kernel)
theorem zg_c1 {s : State} {args : Array Value} (h : (Jvm.Cond.and given_1 narrow_1).before args s = true) : (Cond.not (.castable "java/lang/IllegalArgumentException" "java/lang/IndexOutOfBoundsException")).before args s = true := flat_of_before _ h _ (by decide +kernel)
theorem zg_c2 {s : State} {args : Array Value} (h : (Jvm.Cond.and given_1 narrow_1).before args s = true) : (Cond.not (.castable "java/lang/IllegalStateException" "java/lang/IllegalArgumentException")).before args s = true := flat_of_before _ h _ (by decide +kernel)
theorem zg_u {s : State} {args : Array Value} (h : (Jvm.Cond.and given_1 narrow_1).before args s = true) : (Cond.isRef (.static Bundle.tN "UNASSIGNED_STACK" Bundle.steD)).before args s = true := flat_of_before _ h _ (by decide +kernel)
theorem zg_l {s : State} {args : Array Value} (h : (Jvm.Cond.and given_1 narrow_1).before args s = true) : (Cond.isRef (.static Bundle.tN "SUPPRESSED_SENTINEL" Bundle.listD)).before args s = true := flat_of_before _ h _ (by decide +kernel)
theorem zs_tbl {s : State} {b : Addr} (hts : ∀ w ∈ lw_tbl, w.before #[Value.ref b] s = true) (hg : (Jvm.Cond.and given_1 narrow_1).before #[Value.ref b] s = true) : zSt (fun q => s.heap.size ≤ q) s s.heap := by
  have hA : ∀ a : Nat, a < s.heap.size → ¬ (s.heap.size ≤ a) := fun a h => by omega
  refine ⟨ztab (hts _ (by decide +kernel)) (hts _ (by decide +kernel)) (zg_COST_OF_a hg) (zg_COST_OF_n hg) (zg_COST_OF hg), ztab (hts _ (by decide +kernel)) (hts _ (by decide +kernel)) (zg_LAYER_OF_a hg) (zg_LAYER_OF_n hg) (zg_LAYER_OF hg), vx_Zqof (hts _ (by decide +kernel)) (hts _ (by decide +kernel)) (zg_u hg) hA, vx_Zqof (hts _ (by decide +kernel)) (hts _ (by decide +kernel)) (zg_l hg) hA, ?_, ?_⟩
  · exact List.forall_mem_cons.mpr ⟨zvk (hts _ (by decide +kernel)) (zg_s43 hg), List.forall_mem_cons.mpr ⟨zvk (hts _ (by decide +kernel)) (zg_s54 hg), List.forall_mem_cons.mpr ⟨zvk (hts _ (by decide +kernel)) (zg_s100 hg), List.forall_mem_cons.mpr ⟨zvk (hts _ (by decide +kernel)) (zg_s112 hg), List.forall_mem_cons.mpr ⟨zvk (hts _ (by decide +kernel)) (zg_s119 hg), List.forall_mem_cons.mpr ⟨zvk (hts _ (by decide +kernel)) (zg_s141 hg), List.forall_mem_cons.mpr ⟨zvk (hts _ (by decide +kernel)) (zg_s157 hg), fun _ h => absurd h List.not_mem_nil⟩⟩⟩⟩⟩⟩⟩
  · exact List.forall_mem_cons.mpr ⟨va_Nw.of (w := .methodLinkNest RX4 15 yX2_init RX4) rfl (hts (.methodLinkNest RX4 15 yX2_init RX4) (by decide +kernel)), List.forall_mem_cons.mpr ⟨va_Nw.of (w := .methodLinkNest RX4 22 yX0_init RX4) rfl (hts (.methodLinkNest RX4 22 yX0_init RX4) (by decide +kernel)), List.forall_mem_cons.mpr ⟨va_Nw.of (w := .methodLinkNest RX4 29 yX3_init RX4) rfl (hts (.methodLinkNest RX4 29 yX3_init RX4) (by decide +kernel)), List.forall_mem_cons.mpr ⟨va_Nw.of (w := .methodLinkNest RX4 36 yX1_init RX4) rfl (hts (.methodLinkNest RX4 36 yX1_init RX4) (by decide +kernel)), List.forall_mem_cons.mpr ⟨va_Nw.of (w := .methodLinkNest RX3 43 yX4_layerOf RX4) rfl (hts (.methodLinkNest RX3 43 yX4_layerOf RX4) (by decide +kernel)), fun _ h => absurd h List.not_mem_nil⟩⟩⟩⟩⟩
theorem zs_x {s : State} {b : Addr} (hts : ∀ w ∈ lw_tbl, w.before #[Value.ref b] s = true) (hg : (Jvm.Cond.and given_1 narrow_1).before #[Value.ref b] s = true) : zSx s := by
  have h1 : ∀ n ∈ zExc, Cond.castable n n ∈ lw_tbl := by decide +kernel
  have h2 : ∀ n ∈ zDeclC, Cond.declares (zMsg n) ∈ lw_tbl := by decide +kernel
  exact ⟨fun n hn => va_Nw.of rfl (hts _ (h1 n hn)), List.forall_mem_cons.mpr ⟨va_Nc.of (zg_c0 hg), List.forall_mem_cons.mpr ⟨va_Nc.of (zg_c1 hg), List.forall_mem_cons.mpr ⟨va_Nc.of (zg_c2 hg), fun _ h => absurd h List.not_mem_nil⟩⟩⟩, fun n hn => va_Nw.of rfl (hts _ (h2 n hn))⟩
theorem zs_ao {s : State} {b : Addr} (hts : ∀ w ∈ lw_tbl, w.before #[Value.ref b] s = true) : zAOA s := hts (Cond.arrayOver (.array .int)) (by decide +kernel)
theorem zs_K {s : State} {b : Addr} (hts : ∀ w ∈ lw_tbl, w.before #[Value.ref b] s = true) : ∃ (D : va_G) (cs : Nat → ClassId), ∀ u : zU_t, va_K D vwCl (zty (D, cs, u)) s := by
  obtain ⟨c0, i0, k0⟩ := u_known (C := RX0) (T := TX0) (N := 6) (n := 6) hts inX0 (hts _ (by decide +kernel))
  obtain ⟨c1, i1, k1⟩ := u_known (C := RX1) (T := TX1) (N := 5) (n := 5) hts inX1 (hts _ (by decide +kernel))
  obtain ⟨c2, i2, k2⟩ := u_known (C := RX2) (T := TX2) (N := 5) (n := 5) hts inX2 (hts _ (by decide +kernel))
  obtain ⟨c3, i3, k3⟩ := u_known (C := RX3) (T := TX3) (N := 5) (n := 5) hts inX3 (hts _ (by decide +kernel))
  obtain ⟨c4, i4, k4⟩ := u_known (C := RX4) (T := TX4) (N := 11) (n := 11) hts inX4 (hts _ (by decide +kernel))
  obtain ⟨a0, x0, y0⟩ := zclo (c := 0) (ty := .int) (hts _ (by decide +kernel))
  obtain ⟨a1, x1, y1⟩ := zclo (c := 0) (ty := .boolean) (hts _ (by decide +kernel))
  obtain ⟨a2, x2, y2⟩ := zclr (zs_ao hts)
  refine ⟨(fun c => match c with | 0 => c0 | 1 => c1 | 2 => c2 | 3 => c3 | _ => c4, fun c => match c with | 0 => i0 | 1 => i1 | 2 => i2 | 3 => i3 | _ => i4), fun c => match c with | 0 => a0 | 1 => a1 | _ => a2, fun u => ⟨fun c q hq => ?_, fun k q hq => ?_⟩⟩
  · match c, hq with
    | 0, hq => cases hq; exact k0
    | 1, hq => cases hq; exact k1
    | 2, hq => cases hq; exact k2
    | 3, hq => cases hq; exact k3
    | 4, hq => cases hq; exact k4
    | n + 5, hq => cases hq
  · match k, hq with
    | 0, hq => cases hq; exact ⟨x0, y0⟩
    | 1, hq => cases hq; exact ⟨x1, y1⟩
    | 2, hq => cases hq; exact ⟨x2, y2⟩
    | n + 3, hq => cases hq
