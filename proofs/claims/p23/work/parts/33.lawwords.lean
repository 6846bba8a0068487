set_option maxRecDepth 20000 in
theorem wsL_law0_r1_d0 : Cond.classLink RL 8 RX4 ∈ lw_tbl := by decide +kernel
set_option maxRecDepth 20000 in
theorem wsL_law0_r1_d1 : Cond.instantiable RX4 11 ∈ lw_tbl := by decide +kernel
set_option maxRecDepth 20000 in
theorem wsL_law0_r1_d2 : Cond.initialized RX4 ∈ lw_tbl := by decide +kernel
set_option maxRecDepth 20000 in
theorem wsL_law0_r1_d3 : Cond.methodLink RL 103 yL_turns ∈ lw_tbl := by decide +kernel
set_option maxRecDepth 20000 in
theorem wsL_law0_r1_d4 : Cond.static yL_turns ∈ lw_tbl := by decide +kernel
set_option maxRecDepth 20000 in
theorem wsL_law0_r1_d5 : Cond.initialized RL ∈ lw_tbl := by decide +kernel
set_option maxRecDepth 100000 in
theorem wsL_law0_r1_c549 : lw_tbl[549]? = some (Cond.code yL_turns cL_turns 1 (some .boolean)) := rfl
set_option maxRecDepth 20000 in
theorem wsL_law0_r1_d7 : Cond.methodLink RL 77 yX4_init ∈ lw_tbl := by decide +kernel
set_option maxRecDepth 20000 in
theorem wsL_law0_r1_d8 : Cond.instanceMethod yX4_init ∈ lw_tbl := by decide +kernel
set_option maxRecDepth 100000 in
theorem wsL_law0_r1_c40 : lw_tbl[40]? = some (Cond.code yX4_init cX4_init 2 none) := rfl
set_option maxRecDepth 20000 in
theorem wsL_law0_r1_d10 : Cond.methodLink RX4 1 objectInit ∈ lw_tbl := by decide +kernel
set_option maxRecDepth 20000 in
theorem wsL_law0_r1_d11 : Cond.instanceMethod objectInit ∈ lw_tbl := by decide +kernel
set_option maxRecDepth 100000 in
theorem wsL_law0_r1_c43 : lw_tbl[43]? = some (Cond.code objectInit ⟨#[0xb1]⟩ 1 none) := rfl
set_option maxRecDepth 20000 in
theorem wsL_law0_r1_d13 : Cond.arrayClass .int ∈ lw_tbl := by decide +kernel
set_option maxRecDepth 20000 in
theorem wsL_law0_r1_d14 : Cond.fieldLink RX4 9 "LayeredTable" "purses" "[I" ∈ lw_tbl := by decide +kernel
set_option maxRecDepth 20000 in
theorem wsL_law0_r1_d15 : Cond.classLink RX4 13 RX2 ∈ lw_tbl := by decide +kernel
set_option maxRecDepth 20000 in
theorem wsL_law0_r1_d16 : Cond.instantiable RX2 5 ∈ lw_tbl := by decide +kernel
set_option maxRecDepth 20000 in
theorem wsL_law0_r1_d17 : Cond.initialized RX2 ∈ lw_tbl := by decide +kernel
set_option maxRecDepth 20000 in
theorem wsL_law0_r1_d18 : Cond.fieldLink RX4 16 "LayeredTable" "table" "LLayeredTable$Things;" ∈ lw_tbl := by decide +kernel
set_option maxRecDepth 20000 in
theorem wsL_law0_r1_d19 : Cond.classLink RX4 20 RX0 ∈ lw_tbl := by decide +kernel
set_option maxRecDepth 20000 in
theorem wsL_law0_r1_d20 : Cond.instantiable RX0 6 ∈ lw_tbl := by decide +kernel
set_option maxRecDepth 20000 in
theorem wsL_law0_r1_d21 : Cond.initialized RX0 ∈ lw_tbl := by decide +kernel
set_option maxRecDepth 20000 in
theorem wsL_law0_r1_d22 : Cond.fieldLink RX4 23 "LayeredTable" "pile" "LLayeredTable$Entries;" ∈ lw_tbl := by decide +kernel
set_option maxRecDepth 20000 in
theorem wsL_law0_r1_d23 : Cond.classLink RX4 27 RX3 ∈ lw_tbl := by decide +kernel
theorem wsL_law0_r1_in : ∀ w ∈ wsL_law0_r1, w ∈ lw_tbl := List.forall_mem_cons.mpr ⟨wsL_law0_r1_d0, List.forall_mem_cons.mpr ⟨wsL_law0_r1_d1, List.forall_mem_cons.mpr ⟨wsL_law0_r1_d2, List.forall_mem_cons.mpr ⟨wsL_law0_r1_d3, List.forall_mem_cons.mpr ⟨wsL_law0_r1_d4, List.forall_mem_cons.mpr ⟨wsL_law0_r1_d5, List.forall_mem_cons.mpr ⟨List.mem_of_getElem? (i := 549) wsL_law0_r1_c549, List.forall_mem_cons.mpr ⟨wsL_law0_r1_d7, List.forall_mem_cons.mpr ⟨wsL_law0_r1_d8, List.forall_mem_cons.mpr ⟨List.mem_of_getElem? (i := 40) wsL_law0_r1_c40, List.forall_mem_cons.mpr ⟨wsL_law0_r1_d10, List.forall_mem_cons.mpr ⟨wsL_law0_r1_d11, List.forall_mem_cons.mpr ⟨List.mem_of_getElem? (i := 43) wsL_law0_r1_c43, List.forall_mem_cons.mpr ⟨wsL_law0_r1_d13, List.forall_mem_cons.mpr ⟨wsL_law0_r1_d14, List.forall_mem_cons.mpr ⟨wsL_law0_r1_d15, List.forall_mem_cons.mpr ⟨wsL_law0_r1_d16, List.forall_mem_cons.mpr ⟨wsL_law0_r1_d17, List.forall_mem_cons.mpr ⟨wsL_law0_r1_d18, List.forall_mem_cons.mpr ⟨wsL_law0_r1_d19, List.forall_mem_cons.mpr ⟨wsL_law0_r1_d20, List.forall_mem_cons.mpr ⟨wsL_law0_r1_d21, List.forall_mem_cons.mpr ⟨wsL_law0_r1_d22, List.forall_mem_cons.mpr ⟨wsL_law0_r1_d23, fun _ h => absurd h List.not_mem_nil⟩⟩⟩⟩⟩⟩⟩⟩⟩⟩⟩⟩⟩⟩⟩⟩⟩⟩⟩⟩⟩⟩⟩⟩
set_option maxRecDepth 20000 in
theorem wsL_law0_r2_in : ∀ w ∈ wsL_law0_r2, w ∈ lw_tbl := fun w h => (goodIn_p wsL_law0_r2 [48, 81] (by decide +kernel) (by decide +kernel) w h).1
set_option maxRecDepth 20000 in
theorem wsL_law0_r3_in : ∀ w ∈ wsL_law0_r3, w ∈ lw_tbl := fun w h => (goodIn_p wsL_law0_r3 [113, 138, 553, 545] (by decide +kernel) (by decide +kernel) w h).1
set_option maxRecDepth 20000 in
theorem wsL_law0_r4_in : ∀ w ∈ wsL_law0_r4, w ∈ lw_tbl := fun w h => (goodIn_p wsL_law0_r4 [557, 561, 490, 541, 456] (by decide +kernel) (by decide +kernel) w h).1
set_option maxRecDepth 20000 in
theorem wsL_law0_r5_in : ∀ w ∈ wsL_law0_r5, w ∈ lw_tbl := fun w h => (goodIn_p wsL_law0_r5 [436, 307, 311] (by decide +kernel) (by decide +kernel) w h).1
set_option maxRecDepth 20000 in
theorem wsL_law0_r6_in : ∀ w ∈ wsL_law0_r6, w ∈ lw_tbl := fun w h => (goodIn_p wsL_law0_r6 [315, 319, 323, 327, 331, 335] (by decide +kernel) (by decide +kernel) w h).1
set_option maxRecDepth 20000 in
theorem wsL_law0_r7_in : ∀ w ∈ wsL_law0_r7, w ∈ lw_tbl := fun w h => (goodIn_p wsL_law0_r7 [339, 343, 287, 348, 270, 352] (by decide +kernel) (by decide +kernel) w h).1
set_option maxRecDepth 20000 in
theorem wsL_law0_r8_in : ∀ w ∈ wsL_law0_r8, w ∈ lw_tbl := fun w h => (goodIn_p wsL_law0_r8 [356, 360, 364, 367, 373] (by decide +kernel) (by decide +kernel) w h).1
set_option maxRecDepth 20000 in
theorem wsL_law0_r9_in : ∀ w ∈ wsL_law0_r9, w ∈ lw_tbl := fun w h => (goodIn_p wsL_law0_r9 [377, 381, 295, 291, 385] (by decide +kernel) (by decide +kernel) w h).1
set_option maxRecDepth 20000 in
theorem wsL_law0_r10_in : ∀ w ∈ wsL_law0_r10, w ∈ lw_tbl := fun w h => (goodIn_p wsL_law0_r10 [389, 393, 303, 397, 401, 405] (by decide +kernel) (by decide +kernel) w h).1
set_option maxRecDepth 20000 in
theorem wsL_law0_r11_in : ∀ w ∈ wsL_law0_r11, w ∈ lw_tbl := fun w h => (goodIn_p wsL_law0_r11 [409, 413, 417, 421, 425] (by decide +kernel) (by decide +kernel) w h).1
set_option maxRecDepth 20000 in
theorem wsL_law0_r12_d0 : Cond.static arraycopyName ∈ lw_tbl := by decide +kernel
set_option maxRecDepth 20000 in
theorem wsL_law0_r12_d1 : Cond.initialized "java/lang/System" ∈ lw_tbl := by decide +kernel
set_option maxRecDepth 20000 in
theorem wsL_law0_r12_d2 : Cond.methodLink RL 87 yL_refuses ∈ lw_tbl := by decide +kernel
set_option maxRecDepth 20000 in
theorem wsL_law0_r12_d3 : Cond.static yL_refuses ∈ lw_tbl := by decide +kernel
set_option maxRecDepth 100000 in
theorem wsL_law0_r12_c537 : lw_tbl[537]? = some (Cond.code yL_refuses cL_refuses 9 (some .boolean)) := rfl
set_option maxRecDepth 20000 in
theorem wsL_law0_r12_d5 : Cond.constant RL 67 (2147483647) ∈ lw_tbl := by decide +kernel
set_option maxRecDepth 20000 in
theorem wsL_law0_r12_d6 : Cond.methodLink RL 68 yL_act ∈ lw_tbl := by decide +kernel
set_option maxRecDepth 20000 in
theorem wsL_law0_r12_d7 : Cond.static yL_act ∈ lw_tbl := by decide +kernel
set_option maxRecDepth 20000 in
theorem wsL_law0_r12_d8 : Cond.codeWith yL_act cL_act 5 (some .int) [(0, 179, 180, 51), (0, 179, 185, 53), (0, 179, 190, 55)] ∈ lw_tbl := by decide +kernel
set_option maxRecDepth 20000 in
theorem wsL_law0_r12_d9 : Cond.classLink RL 51 "java/lang/IndexOutOfBoundsException" ∈ lw_tbl := by decide +kernel
set_option maxRecDepth 20000 in
theorem wsL_law0_r12_d10 : Cond.classLink RL 53 "java/lang/IllegalArgumentException" ∈ lw_tbl := by decide +kernel
set_option maxRecDepth 20000 in
theorem wsL_law0_r12_d11 : Cond.classLink RL 55 "java/lang/IllegalStateException" ∈ lw_tbl := by decide +kernel
set_option maxRecDepth 20000 in
theorem wsL_law0_r12_d12 : Cond.methodLink RL 7 yX4_play ∈ lw_tbl := by decide +kernel
set_option maxRecDepth 20000 in
theorem wsL_law0_r12_d13 : Cond.instanceMethod yX4_play ∈ lw_tbl := by decide +kernel
set_option maxRecDepth 20000 in
theorem wsL_law0_r12_d14 : Cond.selects RX4 yX4_play yX4_play ∈ lw_tbl := by decide +kernel
set_option maxRecDepth 100000 in
theorem wsL_law0_r12_c466 : lw_tbl[466]? = some (Cond.code yX4_play cX4_play 3 (some .int)) := rfl
set_option maxRecDepth 20000 in
theorem wsL_law0_r12_d16 : Cond.classLink RX4 52 "java/lang/IllegalStateException" ∈ lw_tbl := by decide +kernel
set_option maxRecDepth 20000 in
theorem wsL_law0_r12_d17 : Cond.initialized "java/lang/IllegalStateException" ∈ lw_tbl := by decide +kernel
set_option maxRecDepth 20000 in
theorem wsL_law0_r12_d18 : Cond.methodLink RX4 48 yX4_findObstacle ∈ lw_tbl := by decide +kernel
set_option maxRecDepth 20000 in
theorem wsL_law0_r12_d19 : Cond.instanceMethod yX4_findObstacle ∈ lw_tbl := by decide +kernel
set_option maxRecDepth 20000 in
theorem wsL_law0_r12_d20 : Cond.selects RX4 yX4_findObstacle yX4_findObstacle ∈ lw_tbl := by decide +kernel
set_option maxRecDepth 100000 in
theorem wsL_law0_r12_c267 : lw_tbl[267]? = some (Cond.code yX4_findObstacle cX4_findObstacle 3 (some .int)) := rfl
set_option maxRecDepth 20000 in
theorem wsL_law0_r12_d22 : Cond.methodLink RX4 171 yX4_coinsOf ∈ lw_tbl := by decide +kernel
set_option maxRecDepth 20000 in
theorem wsL_law0_r12_d23 : Cond.instanceMethod yX4_coinsOf ∈ lw_tbl := by decide +kernel
theorem wsL_law0_r12_in : ∀ w ∈ wsL_law0_r12, w ∈ lw_tbl := List.forall_mem_cons.mpr ⟨wsL_law0_r12_d0, List.forall_mem_cons.mpr ⟨wsL_law0_r12_d1, List.forall_mem_cons.mpr ⟨wsL_law0_r12_d2, List.forall_mem_cons.mpr ⟨wsL_law0_r12_d3, List.forall_mem_cons.mpr ⟨List.mem_of_getElem? (i := 537) wsL_law0_r12_c537, List.forall_mem_cons.mpr ⟨wsL_law0_r12_d5, List.forall_mem_cons.mpr ⟨wsL_law0_r12_d6, List.forall_mem_cons.mpr ⟨wsL_law0_r12_d7, List.forall_mem_cons.mpr ⟨wsL_law0_r12_d8, List.forall_mem_cons.mpr ⟨wsL_law0_r12_d9, List.forall_mem_cons.mpr ⟨wsL_law0_r12_d10, List.forall_mem_cons.mpr ⟨wsL_law0_r12_d11, List.forall_mem_cons.mpr ⟨wsL_law0_r12_d12, List.forall_mem_cons.mpr ⟨wsL_law0_r12_d13, List.forall_mem_cons.mpr ⟨wsL_law0_r12_d14, List.forall_mem_cons.mpr ⟨List.mem_of_getElem? (i := 466) wsL_law0_r12_c466, List.forall_mem_cons.mpr ⟨wsL_law0_r12_d16, List.forall_mem_cons.mpr ⟨wsL_law0_r12_d17, List.forall_mem_cons.mpr ⟨wsL_law0_r12_d18, List.forall_mem_cons.mpr ⟨wsL_law0_r12_d19, List.forall_mem_cons.mpr ⟨wsL_law0_r12_d20, List.forall_mem_cons.mpr ⟨List.mem_of_getElem? (i := 267) wsL_law0_r12_c267, List.forall_mem_cons.mpr ⟨wsL_law0_r12_d22, List.forall_mem_cons.mpr ⟨wsL_law0_r12_d23, fun _ h => absurd h List.not_mem_nil⟩⟩⟩⟩⟩⟩⟩⟩⟩⟩⟩⟩⟩⟩⟩⟩⟩⟩⟩⟩⟩⟩⟩⟩
set_option maxRecDepth 20000 in
theorem wsL_law0_r13_in : ∀ w ∈ wsL_law0_r13, w ∈ lw_tbl := fun w h => (goodIn_p wsL_law0_r13 [274, 277, 283, 486, 195] (by decide +kernel) (by decide +kernel) w h).1
set_option maxRecDepth 20000 in
theorem wsL_law0_r14_in : ∀ w ∈ wsL_law0_r14, w ∈ lw_tbl := fun w h => (goodIn_p wsL_law0_r14 [495, 499, 504, 508, 513, 517] (by decide +kernel) (by decide +kernel) w h).1
set_option maxRecDepth 20000 in
theorem wsL_law0_r15_in : ∀ w ∈ wsL_law0_r15, w ∈ lw_tbl := fun w h => (goodIn_p wsL_law0_r15 [521, 526, 530, 534, 300, 432] (by decide +kernel) (by decide +kernel) w h).1
set_option maxRecDepth 100000 in
theorem wsL_law0_r16_c564 : lw_tbl[564]? = some (Cond.code yL_is cL_is 6 (some .boolean)) := rfl
set_option maxRecDepth 20000 in
theorem wsL_law0_r16_d1 : Cond.methodLink RL 95 yL_lay ∈ lw_tbl := by decide +kernel
set_option maxRecDepth 20000 in
theorem wsL_law0_r16_d2 : Cond.static yL_lay ∈ lw_tbl := by decide +kernel
set_option maxRecDepth 100000 in
theorem wsL_law0_r16_c567 : lw_tbl[567]? = some (Cond.code yL_lay cL_lay 5 (some .boolean)) := rfl
set_option maxRecDepth 20000 in
theorem wsL_law0_r16_d4 : Cond.methodLink RL 99 yL_round ∈ lw_tbl := by decide +kernel
set_option maxRecDepth 20000 in
theorem wsL_law0_r16_d5 : Cond.static yL_round ∈ lw_tbl := by decide +kernel
set_option maxRecDepth 100000 in
theorem wsL_law0_r16_c570 : lw_tbl[570]? = some (Cond.code yL_round cL_round 1 (some .int)) := rfl
set_option maxRecDepth 20000 in
theorem wsL_law0_r16_d7 : Cond.methodLink RL 107 yL_layers ∈ lw_tbl := by decide +kernel
set_option maxRecDepth 20000 in
theorem wsL_law0_r16_d8 : Cond.static yL_layers ∈ lw_tbl := by decide +kernel
set_option maxRecDepth 100000 in
theorem wsL_law0_r16_c573 : lw_tbl[573]? = some (Cond.code yL_layers cL_layers 1 (some .boolean)) := rfl
set_option maxRecDepth 20000 in
theorem wsL_law0_r16_d10 : Cond.methodLink RL 110 yL_stacks ∈ lw_tbl := by decide +kernel
set_option maxRecDepth 20000 in
theorem wsL_law0_r16_d11 : Cond.static yL_stacks ∈ lw_tbl := by decide +kernel
set_option maxRecDepth 100000 in
theorem wsL_law0_r16_c576 : lw_tbl[576]? = some (Cond.code yL_stacks cL_stacks 2 (some .boolean)) := rfl
set_option maxRecDepth 20000 in
theorem wsL_law0_r16_d13 : Cond.methodLink RL 113 yL_loops ∈ lw_tbl := by decide +kernel
set_option maxRecDepth 20000 in
theorem wsL_law0_r16_d14 : Cond.static yL_loops ∈ lw_tbl := by decide +kernel
set_option maxRecDepth 100000 in
theorem wsL_law0_r16_c579 : lw_tbl[579]? = some (Cond.code yL_loops cL_loops 2 (some .boolean)) := rfl
theorem wsL_law0_r16_in : ∀ w ∈ wsL_law0_r16, w ∈ lw_tbl := List.forall_mem_cons.mpr ⟨List.mem_of_getElem? (i := 564) wsL_law0_r16_c564, List.forall_mem_cons.mpr ⟨wsL_law0_r16_d1, List.forall_mem_cons.mpr ⟨wsL_law0_r16_d2, List.forall_mem_cons.mpr ⟨List.mem_of_getElem? (i := 567) wsL_law0_r16_c567, List.forall_mem_cons.mpr ⟨wsL_law0_r16_d4, List.forall_mem_cons.mpr ⟨wsL_law0_r16_d5, List.forall_mem_cons.mpr ⟨List.mem_of_getElem? (i := 570) wsL_law0_r16_c570, List.forall_mem_cons.mpr ⟨wsL_law0_r16_d7, List.forall_mem_cons.mpr ⟨wsL_law0_r16_d8, List.forall_mem_cons.mpr ⟨List.mem_of_getElem? (i := 573) wsL_law0_r16_c573, List.forall_mem_cons.mpr ⟨wsL_law0_r16_d10, List.forall_mem_cons.mpr ⟨wsL_law0_r16_d11, List.forall_mem_cons.mpr ⟨List.mem_of_getElem? (i := 576) wsL_law0_r16_c576, List.forall_mem_cons.mpr ⟨wsL_law0_r16_d13, List.forall_mem_cons.mpr ⟨wsL_law0_r16_d14, List.forall_mem_cons.mpr ⟨List.mem_of_getElem? (i := 579) wsL_law0_r16_c579, fun _ h => absurd h List.not_mem_nil⟩⟩⟩⟩⟩⟩⟩⟩⟩⟩⟩⟩⟩⟩⟩⟩
