section
-- ===== PART A: goes FIRST, ahead of the names: the tables' words, and 'selects' of the private methods out of them =====
/-- a private method of a class that the tables say can be made, by its rows of tables_1 -/
def lw_okq (q : MethodName × Nat) : Prop := (q.1.cls ≠ "java/lang/invoke/MethodHandle" ∧ q.1.cls ≠ "java/lang/invoke/VarHandle") ∧ Cond.instantiable q.1.cls q.2 ∈ tables_1 ∧ Cond.privateMethod q.1 ∈ tables_1 ∧ Cond.instanceMethod q.1 ∈ tables_1
theorem lw_p0 : lw_okq (⟨"LayeredTable", "resolveTop", "()V"⟩, 11) := ⟨⟨by decide +kernel, by decide +kernel⟩, List.mem_of_getElem? (i := 15) (by decide +kernel), List.mem_of_getElem? (i := 178) (by decide +kernel), List.mem_of_getElem? (i := 179) (by decide +kernel)⟩
theorem lw_p1 : lw_okq (⟨"LayeredTable", "triggerEffect", "(II)I"⟩, 11) := ⟨⟨by decide +kernel, by decide +kernel⟩, List.mem_of_getElem? (i := 15) (by decide +kernel), List.mem_of_getElem? (i := 186) (by decide +kernel), List.mem_of_getElem? (i := 187) (by decide +kernel)⟩
theorem lw_p2 : lw_okq (⟨"LayeredTable", "pay", "(II)V"⟩, 11) := ⟨⟨by decide +kernel, by decide +kernel⟩, List.mem_of_getElem? (i := 15) (by decide +kernel), List.mem_of_getElem? (i := 190) (by decide +kernel), List.mem_of_getElem? (i := 191) (by decide +kernel)⟩
theorem lw_p3 : lw_okq (⟨"LayeredTable", "enter", "(III)I"⟩, 11) := ⟨⟨by decide +kernel, by decide +kernel⟩, List.mem_of_getElem? (i := 15) (by decide +kernel), List.mem_of_getElem? (i := 194) (by decide +kernel), List.mem_of_getElem? (i := 195) (by decide +kernel)⟩
theorem lw_p4 : lw_okq (⟨"LayeredTable", "newId", "()I"⟩, 11) := ⟨⟨by decide +kernel, by decide +kernel⟩, List.mem_of_getElem? (i := 15) (by decide +kernel), List.mem_of_getElem? (i := 198) (by decide +kernel), List.mem_of_getElem? (i := 199) (by decide +kernel)⟩
theorem lw_p5 : lw_okq (⟨"LayeredTable", "leave", "(I)I"⟩, 11) := ⟨⟨by decide +kernel, by decide +kernel⟩, List.mem_of_getElem? (i := 15) (by decide +kernel), List.mem_of_getElem? (i := 210) (by decide +kernel), List.mem_of_getElem? (i := 211) (by decide +kernel)⟩
theorem lw_p6 : lw_okq (⟨"LayeredTable", "cardEffect", "(III)I"⟩, 11) := ⟨⟨by decide +kernel, by decide +kernel⟩, List.mem_of_getElem? (i := 15) (by decide +kernel), List.mem_of_getElem? (i := 222) (by decide +kernel), List.mem_of_getElem? (i := 223) (by decide +kernel)⟩
theorem lw_p7 : lw_okq (⟨"LayeredTable", "strike", "(I)I"⟩, 11) := ⟨⟨by decide +kernel, by decide +kernel⟩, List.mem_of_getElem? (i := 15) (by decide +kernel), List.mem_of_getElem? (i := 233) (by decide +kernel), List.mem_of_getElem? (i := 234) (by decide +kernel)⟩
theorem lw_p8 : lw_okq (⟨"LayeredTable$View", "goThrough", "(LLayeredTable$Things;I)V"⟩, 5) := ⟨⟨by decide +kernel, by decide +kernel⟩, List.mem_of_getElem? (i := 88) (by decide +kernel), List.mem_of_getElem? (i := 242) (by decide +kernel), List.mem_of_getElem? (i := 243) (by decide +kernel)⟩
theorem lw_p9 : lw_okq (⟨"LayeredTable$View", "takes", "(LLayeredTable$Things;II)Z"⟩, 5) := ⟨⟨by decide +kernel, by decide +kernel⟩, List.mem_of_getElem? (i := 88) (by decide +kernel), List.mem_of_getElem? (i := 251) (by decide +kernel), List.mem_of_getElem? (i := 252) (by decide +kernel)⟩
theorem lw_p10 : lw_okq (⟨"LayeredTable$View", "change", "(LLayeredTable$Things;II)V"⟩, 5) := ⟨⟨by decide +kernel, by decide +kernel⟩, List.mem_of_getElem? (i := 88) (by decide +kernel), List.mem_of_getElem? (i := 255) (by decide +kernel), List.mem_of_getElem? (i := 256) (by decide +kernel)⟩
theorem lw_p11 : lw_okq (⟨"LayeredTable", "raiseTriggers", "(I)V"⟩, 11) := ⟨⟨by decide +kernel, by decide +kernel⟩, List.mem_of_getElem? (i := 15) (by decide +kernel), List.mem_of_getElem? (i := 271) (by decide +kernel), List.mem_of_getElem? (i := 272) (by decide +kernel)⟩
theorem lw_p12 : lw_okq (⟨"LayeredTable", "hasTrigger", "(III)Z"⟩, 11) := ⟨⟨by decide +kernel, by decide +kernel⟩, List.mem_of_getElem? (i := 15) (by decide +kernel), List.mem_of_getElem? (i := 275) (by decide +kernel), List.mem_of_getElem? (i := 276) (by decide +kernel)⟩
theorem lw_p13 : lw_okq (⟨"LayeredTable", "breakLoop", "()V"⟩, 11) := ⟨⟨by decide +kernel, by decide +kernel⟩, List.mem_of_getElem? (i := 15) (by decide +kernel), List.mem_of_getElem? (i := 283) (by decide +kernel), List.mem_of_getElem? (i := 284) (by decide +kernel)⟩
theorem lw_p14 : lw_okq (⟨"LayeredTable", "targetPlace", "(I)I"⟩, 11) := ⟨⟨by decide +kernel, by decide +kernel⟩, List.mem_of_getElem? (i := 15) (by decide +kernel), List.mem_of_getElem? (i := 295) (by decide +kernel), List.mem_of_getElem? (i := 296) (by decide +kernel)⟩
theorem lw_p15 : lw_okq (⟨"LayeredTable$Memory", "isState", "([I)Z"⟩, 5) := ⟨⟨by decide +kernel, by decide +kernel⟩, List.mem_of_getElem? (i := 113) (by decide +kernel), List.mem_of_getElem? (i := 303) (by decide +kernel), List.mem_of_getElem? (i := 304) (by decide +kernel)⟩
def lw_privs_1 : List (MethodName × Nat) := [(⟨"LayeredTable", "resolveTop", "()V"⟩, 11), (⟨"LayeredTable", "triggerEffect", "(II)I"⟩, 11), (⟨"LayeredTable", "pay", "(II)V"⟩, 11), (⟨"LayeredTable", "enter", "(III)I"⟩, 11), (⟨"LayeredTable", "newId", "()I"⟩, 11), (⟨"LayeredTable", "leave", "(I)I"⟩, 11), (⟨"LayeredTable", "cardEffect", "(III)I"⟩, 11), (⟨"LayeredTable", "strike", "(I)I"⟩, 11), (⟨"LayeredTable$View", "goThrough", "(LLayeredTable$Things;I)V"⟩, 5), (⟨"LayeredTable$View", "takes", "(LLayeredTable$Things;II)Z"⟩, 5), (⟨"LayeredTable$View", "change", "(LLayeredTable$Things;II)V"⟩, 5), (⟨"LayeredTable", "raiseTriggers", "(I)V"⟩, 11), (⟨"LayeredTable", "hasTrigger", "(III)Z"⟩, 11), (⟨"LayeredTable", "breakLoop", "()V"⟩, 11), (⟨"LayeredTable", "targetPlace", "(I)I"⟩, 11), (⟨"LayeredTable$Memory", "isState", "([I)Z"⟩, 5)]
theorem lw_r1 : ∀ q ∈ lw_privs_1, lw_okq q := List.forall_mem_cons.mpr ⟨lw_p0, List.forall_mem_cons.mpr ⟨lw_p1, List.forall_mem_cons.mpr ⟨lw_p2, List.forall_mem_cons.mpr ⟨lw_p3, List.forall_mem_cons.mpr ⟨lw_p4, List.forall_mem_cons.mpr ⟨lw_p5, List.forall_mem_cons.mpr ⟨lw_p6, List.forall_mem_cons.mpr ⟨lw_p7, List.forall_mem_cons.mpr ⟨lw_p8, List.forall_mem_cons.mpr ⟨lw_p9, List.forall_mem_cons.mpr ⟨lw_p10, List.forall_mem_cons.mpr ⟨lw_p11, List.forall_mem_cons.mpr ⟨lw_p12, List.forall_mem_cons.mpr ⟨lw_p13, List.forall_mem_cons.mpr ⟨lw_p14, List.forall_mem_cons.mpr ⟨lw_p15, fun _ h => absurd h List.not_mem_nil⟩⟩⟩⟩⟩⟩⟩⟩⟩⟩⟩⟩⟩⟩⟩⟩
theorem lw_p16 : lw_okq (⟨"LayeredTable", "beginTurn", "()V"⟩, 11) := ⟨⟨by decide +kernel, by decide +kernel⟩, List.mem_of_getElem? (i := 15) (by decide +kernel), List.mem_of_getElem? (i := 318) (by decide +kernel), List.mem_of_getElem? (i := 319) (by decide +kernel)⟩
theorem lw_p17 : lw_okq (⟨"java/lang/Throwable", "fillInStackTrace", "(I)Ljava/lang/Throwable;"⟩, 6) := ⟨⟨by decide +kernel, by decide +kernel⟩, List.mem_of_getElem? (i := 393) (by decide +kernel), List.mem_of_getElem? (i := 391) (by decide +kernel), List.mem_of_getElem? (i := 392) (by decide +kernel)⟩
theorem lw_p18 : lw_okq (⟨"LayeredTable", "findObstacle", "(II)I"⟩, 11) := ⟨⟨by decide +kernel, by decide +kernel⟩, List.mem_of_getElem? (i := 15) (by decide +kernel), List.mem_of_getElem? (i := 423) (by decide +kernel), List.mem_of_getElem? (i := 424) (by decide +kernel)⟩
theorem lw_p19 : lw_okq (⟨"LayeredTable", "coinsOf", "(I)I"⟩, 11) := ⟨⟨by decide +kernel, by decide +kernel⟩, List.mem_of_getElem? (i := 15) (by decide +kernel), List.mem_of_getElem? (i := 427) (by decide +kernel), List.mem_of_getElem? (i := 428) (by decide +kernel)⟩
theorem lw_p20 : lw_okq (⟨"LayeredTable", "hasTarget", "(II)Z"⟩, 11) := ⟨⟨by decide +kernel, by decide +kernel⟩, List.mem_of_getElem? (i := 15) (by decide +kernel), List.mem_of_getElem? (i := 436) (by decide +kernel), List.mem_of_getElem? (i := 437) (by decide +kernel)⟩
theorem lw_p21 : lw_okq (⟨"LayeredTable", "targetId", "(II)I"⟩, 11) := ⟨⟨by decide +kernel, by decide +kernel⟩, List.mem_of_getElem? (i := 15) (by decide +kernel), List.mem_of_getElem? (i := 457) (by decide +kernel), List.mem_of_getElem? (i := 458) (by decide +kernel)⟩
theorem lw_p22 : lw_okq (⟨"LayeredTable", "requireThingAndLayer", "(II)V"⟩, 11) := ⟨⟨by decide +kernel, by decide +kernel⟩, List.mem_of_getElem? (i := 15) (by decide +kernel), List.mem_of_getElem? (i := 515) (by decide +kernel), List.mem_of_getElem? (i := 516) (by decide +kernel)⟩
theorem lw_p23 : lw_okq (⟨"LayeredTableModel", "obstacleOf", "(II)I"⟩, 27) := ⟨⟨by decide +kernel, by decide +kernel⟩, List.mem_of_getElem? (i := 570) (by decide +kernel), List.mem_of_getElem? (i := 669) (by decide +kernel), List.mem_of_getElem? (i := 670) (by decide +kernel)⟩
theorem lw_p24 : lw_okq (⟨"LayeredTableModel", "resolves", "()V"⟩, 27) := ⟨⟨by decide +kernel, by decide +kernel⟩, List.mem_of_getElem? (i := 570) (by decide +kernel), List.mem_of_getElem? (i := 684) (by decide +kernel), List.mem_of_getElem? (i := 685) (by decide +kernel)⟩
theorem lw_p25 : lw_okq (⟨"LayeredTableModel", "trigger", "(II)V"⟩, 27) := ⟨⟨by decide +kernel, by decide +kernel⟩, List.mem_of_getElem? (i := 570) (by decide +kernel), List.mem_of_getElem? (i := 688) (by decide +kernel), List.mem_of_getElem? (i := 689) (by decide +kernel)⟩
theorem lw_p26 : lw_okq (⟨"LayeredTableModel", "enters", "(III)V"⟩, 27) := ⟨⟨by decide +kernel, by decide +kernel⟩, List.mem_of_getElem? (i := 570) (by decide +kernel), List.mem_of_getElem? (i := 692) (by decide +kernel), List.mem_of_getElem? (i := 693) (by decide +kernel)⟩
theorem lw_p27 : lw_okq (⟨"LayeredTableModel", "triggersOf", "(III)V"⟩, 27) := ⟨⟨by decide +kernel, by decide +kernel⟩, List.mem_of_getElem? (i := 570) (by decide +kernel), List.mem_of_getElem? (i := 696) (by decide +kernel), List.mem_of_getElem? (i := 697) (by decide +kernel)⟩
theorem lw_p28 : lw_okq (⟨"LayeredTableModel", "lays", "(I)V"⟩, 27) := ⟨⟨by decide +kernel, by decide +kernel⟩, List.mem_of_getElem? (i := 570) (by decide +kernel), List.mem_of_getElem? (i := 700) (by decide +kernel), List.mem_of_getElem? (i := 701) (by decide +kernel)⟩
theorem lw_p29 : lw_okq (⟨"LayeredTableModel", "layer", "(II)V"⟩, 27) := ⟨⟨by decide +kernel, by decide +kernel⟩, List.mem_of_getElem? (i := 570) (by decide +kernel), List.mem_of_getElem? (i := 704) (by decide +kernel), List.mem_of_getElem? (i := 705) (by decide +kernel)⟩
theorem lw_p30 : lw_okq (⟨"LayeredTableModel", "thingOf", "(I)I"⟩, 27) := ⟨⟨by decide +kernel, by decide +kernel⟩, List.mem_of_getElem? (i := 570) (by decide +kernel), List.mem_of_getElem? (i := 708) (by decide +kernel), List.mem_of_getElem? (i := 709) (by decide +kernel)⟩
theorem lw_p31 : lw_okq (⟨"LayeredTableModel", "triggers", "(II)V"⟩, 27) := ⟨⟨by decide +kernel, by decide +kernel⟩, List.mem_of_getElem? (i := 570) (by decide +kernel), List.mem_of_getElem? (i := 712) (by decide +kernel), List.mem_of_getElem? (i := 713) (by decide +kernel)⟩
def lw_privs_2 : List (MethodName × Nat) := [(⟨"LayeredTable", "beginTurn", "()V"⟩, 11), (⟨"java/lang/Throwable", "fillInStackTrace", "(I)Ljava/lang/Throwable;"⟩, 6), (⟨"LayeredTable", "findObstacle", "(II)I"⟩, 11), (⟨"LayeredTable", "coinsOf", "(I)I"⟩, 11), (⟨"LayeredTable", "hasTarget", "(II)Z"⟩, 11), (⟨"LayeredTable", "targetId", "(II)I"⟩, 11), (⟨"LayeredTable", "requireThingAndLayer", "(II)V"⟩, 11), (⟨"LayeredTableModel", "obstacleOf", "(II)I"⟩, 27), (⟨"LayeredTableModel", "resolves", "()V"⟩, 27), (⟨"LayeredTableModel", "trigger", "(II)V"⟩, 27), (⟨"LayeredTableModel", "enters", "(III)V"⟩, 27), (⟨"LayeredTableModel", "triggersOf", "(III)V"⟩, 27), (⟨"LayeredTableModel", "lays", "(I)V"⟩, 27), (⟨"LayeredTableModel", "layer", "(II)V"⟩, 27), (⟨"LayeredTableModel", "thingOf", "(I)I"⟩, 27), (⟨"LayeredTableModel", "triggers", "(II)V"⟩, 27)]
theorem lw_r2 : ∀ q ∈ lw_privs_2, lw_okq q := List.forall_mem_cons.mpr ⟨lw_p16, List.forall_mem_cons.mpr ⟨lw_p17, List.forall_mem_cons.mpr ⟨lw_p18, List.forall_mem_cons.mpr ⟨lw_p19, List.forall_mem_cons.mpr ⟨lw_p20, List.forall_mem_cons.mpr ⟨lw_p21, List.forall_mem_cons.mpr ⟨lw_p22, List.forall_mem_cons.mpr ⟨lw_p23, List.forall_mem_cons.mpr ⟨lw_p24, List.forall_mem_cons.mpr ⟨lw_p25, List.forall_mem_cons.mpr ⟨lw_p26, List.forall_mem_cons.mpr ⟨lw_p27, List.forall_mem_cons.mpr ⟨lw_p28, List.forall_mem_cons.mpr ⟨lw_p29, List.forall_mem_cons.mpr ⟨lw_p30, List.forall_mem_cons.mpr ⟨lw_p31, fun _ h => absurd h List.not_mem_nil⟩⟩⟩⟩⟩⟩⟩⟩⟩⟩⟩⟩⟩⟩⟩⟩
theorem lw_p32 : lw_okq (⟨"LayeredTableModel", "firstBeast", "()I"⟩, 27) := ⟨⟨by decide +kernel, by decide +kernel⟩, List.mem_of_getElem? (i := 570) (by decide +kernel), List.mem_of_getElem? (i := 716) (by decide +kernel), List.mem_of_getElem? (i := 717) (by decide +kernel)⟩
theorem lw_p33 : lw_okq (⟨"LayeredTableModel", "leaves", "(I)V"⟩, 27) := ⟨⟨by decide +kernel, by decide +kernel⟩, List.mem_of_getElem? (i := 570) (by decide +kernel), List.mem_of_getElem? (i := 720) (by decide +kernel), List.mem_of_getElem? (i := 721) (by decide +kernel)⟩
theorem lw_p34 : lw_okq (⟨"LayeredTableModel", "strikes", "(I)V"⟩, 27) := ⟨⟨by decide +kernel, by decide +kernel⟩, List.mem_of_getElem? (i := 570) (by decide +kernel), List.mem_of_getElem? (i := 724) (by decide +kernel), List.mem_of_getElem? (i := 725) (by decide +kernel)⟩
theorem lw_p35 : lw_okq (⟨"LayeredTableModel", "entryOf", "(I)I"⟩, 27) := ⟨⟨by decide +kernel, by decide +kernel⟩, List.mem_of_getElem? (i := 570) (by decide +kernel), List.mem_of_getElem? (i := 728) (by decide +kernel), List.mem_of_getElem? (i := 729) (by decide +kernel)⟩
theorem lw_p36 : lw_okq (⟨"LayeredTableModel", "removes", "(I)V"⟩, 27) := ⟨⟨by decide +kernel, by decide +kernel⟩, List.mem_of_getElem? (i := 570) (by decide +kernel), List.mem_of_getElem? (i := 732) (by decide +kernel), List.mem_of_getElem? (i := 733) (by decide +kernel)⟩
theorem lw_p37 : lw_okq (⟨"LayeredTableModel", "remembers", "()V"⟩, 27) := ⟨⟨by decide +kernel, by decide +kernel⟩, List.mem_of_getElem? (i := 570) (by decide +kernel), List.mem_of_getElem? (i := 736) (by decide +kernel), List.mem_of_getElem? (i := 737) (by decide +kernel)⟩
theorem lw_p38 : lw_okq (⟨"LayeredTableModel", "laysState", "()V"⟩, 27) := ⟨⟨by decide +kernel, by decide +kernel⟩, List.mem_of_getElem? (i := 570) (by decide +kernel), List.mem_of_getElem? (i := 740) (by decide +kernel), List.mem_of_getElem? (i := 741) (by decide +kernel)⟩
theorem lw_p39 : lw_okq (⟨"LayeredTableModel", "targetOf", "(I)I"⟩, 27) := ⟨⟨by decide +kernel, by decide +kernel⟩, List.mem_of_getElem? (i := 570) (by decide +kernel), List.mem_of_getElem? (i := 744) (by decide +kernel), List.mem_of_getElem? (i := 745) (by decide +kernel)⟩
theorem lw_p40 : lw_okq (⟨"LayeredTableModel", "begins", "()V"⟩, 27) := ⟨⟨by decide +kernel, by decide +kernel⟩, List.mem_of_getElem? (i := 570) (by decide +kernel), List.mem_of_getElem? (i := 748) (by decide +kernel), List.mem_of_getElem? (i := 749) (by decide +kernel)⟩
theorem lw_p41 : lw_okq (⟨"LayeredTableModel", "isLaid", "(II)Z"⟩, 27) := ⟨⟨by decide +kernel, by decide +kernel⟩, List.mem_of_getElem? (i := 570) (by decide +kernel), List.mem_of_getElem? (i := 788) (by decide +kernel), List.mem_of_getElem? (i := 789) (by decide +kernel)⟩
theorem lw_p42 : lw_okq (⟨"LayeredTableModel", "isEntry", "(I)Z"⟩, 27) := ⟨⟨by decide +kernel, by decide +kernel⟩, List.mem_of_getElem? (i := 570) (by decide +kernel), List.mem_of_getElem? (i := 812) (by decide +kernel), List.mem_of_getElem? (i := 813) (by decide +kernel)⟩
def lw_privs_3 : List (MethodName × Nat) := [(⟨"LayeredTableModel", "firstBeast", "()I"⟩, 27), (⟨"LayeredTableModel", "leaves", "(I)V"⟩, 27), (⟨"LayeredTableModel", "strikes", "(I)V"⟩, 27), (⟨"LayeredTableModel", "entryOf", "(I)I"⟩, 27), (⟨"LayeredTableModel", "removes", "(I)V"⟩, 27), (⟨"LayeredTableModel", "remembers", "()V"⟩, 27), (⟨"LayeredTableModel", "laysState", "()V"⟩, 27), (⟨"LayeredTableModel", "targetOf", "(I)I"⟩, 27), (⟨"LayeredTableModel", "begins", "()V"⟩, 27), (⟨"LayeredTableModel", "isLaid", "(II)Z"⟩, 27), (⟨"LayeredTableModel", "isEntry", "(I)Z"⟩, 27)]
theorem lw_r3 : ∀ q ∈ lw_privs_3, lw_okq q := List.forall_mem_cons.mpr ⟨lw_p32, List.forall_mem_cons.mpr ⟨lw_p33, List.forall_mem_cons.mpr ⟨lw_p34, List.forall_mem_cons.mpr ⟨lw_p35, List.forall_mem_cons.mpr ⟨lw_p36, List.forall_mem_cons.mpr ⟨lw_p37, List.forall_mem_cons.mpr ⟨lw_p38, List.forall_mem_cons.mpr ⟨lw_p39, List.forall_mem_cons.mpr ⟨lw_p40, List.forall_mem_cons.mpr ⟨lw_p41, List.forall_mem_cons.mpr ⟨lw_p42, fun _ h => absurd h List.not_mem_nil⟩⟩⟩⟩⟩⟩⟩⟩⟩⟩⟩
def lw_privs : List (MethodName × Nat) := lw_privs_1 ++ (lw_privs_2 ++ (lw_privs_3))
def lw_tbl : List Cond := k2_sels lw_privs ++ tables_1
theorem lw_privs_ok : ∀ q ∈ lw_privs, lw_okq q := by
  show ∀ q ∈ lw_privs_1 ++ (lw_privs_2 ++ (lw_privs_3)), lw_okq q
  exact List.forall_mem_append.mpr ⟨lw_r1, List.forall_mem_append.mpr ⟨lw_r2, lw_r3⟩⟩
end
section
/-! ===== BEGIN words of one list among another's, by their places ===== -/
theorem goodIn_r {big : List Cond} (ws : List Cond) (ps : List Nat) (hp : ws = ps.filterMap (fun i => big[i]?)) (h : ws.all goodWord = true) : GoodIn big ws := by
  intro w hw
  have h1 := List.all_eq_true.mp h w hw
  rw [hp] at hw
  obtain ⟨i, -, hi⟩ := List.mem_filterMap.mp hw
  have hm : w ∈ big := by first | exact List.mem_of_getElem? hi | exact List.getElem?_mem hi
  exact ⟨hm, good_of_word h1⟩
theorem goodIn_app {big a b : List Cond} (ha : GoodIn big a) (hb : GoodIn big b) : GoodIn big (a ++ b) := fun w h => (List.mem_append.mp h).elim (ha w) (hb w)
theorem goodIn_ca {big a b : List Cond} {c : Cond} (ha : GoodIn big (c :: a)) (hb : GoodIn big b) : GoodIn big (c :: (a ++ b)) := fun w h => (List.mem_cons.mp h).elim (fun e => ha w (List.mem_cons.mpr (Or.inl e))) (fun h => (List.mem_append.mp h).elim (fun h => ha w (List.mem_cons.mpr (Or.inr h))) (hb w))
theorem goodIn_sub {big ws : List Cond} (hm : ∀ w ∈ ws, w ∈ big) (h : ws.all goodWord = true) : GoodIn big ws := fun w hw => ⟨hm w hw, good_of_word (List.all_eq_true.mp h w hw)⟩
/-! ===== END ===== -/

/-! ===== BEGIN new T[n][m]: the outer array a place, the inner ones among the pooled ===== -/
/-- f, but v at every address of l -/
def vr_up {α : Type} (f : Nat → α) (l : List Nat) (v : α) : Nat → α := fun a => if a ∈ l then v else f a
theorem vr_up_in {α : Type} {f : Nat → α} {l : List Nat} {v : α} {a : Nat} (h : a ∈ l) : vr_up f l v a = v := if_pos h
theorem vr_up_ne {α : Type} {f : Nat → α} {l : List Nat} {v : α} {a : Nat} (h : a ∉ l) : vr_up f l v a = f a := if_neg h
theorem vr_rows {L l : List Nat} {f : Nat → va_E} {e : va_E} (h : ∀ a, a ∈ l → a ∉ L) : va_pl L f ++ l.map (fun a => (a, e)) = va_pl (L ++ l) (vr_up f l e) := by
  unfold va_pl
  rw [List.map_append]
  congr 1
  · apply List.map_congr_left
    intro a ha
    rw [vr_up_ne (fun q => h a q ha)]
  · apply List.map_congr_left
    intro a ha
    rw [vr_up_in ha]
theorem vr_lay {X rows : va_W} {x : Nat × va_E} {pl : va_W} {D : va_G} {cl : List vw_C} {H : Heap} (hP : va_P D cl (((X ++ pl) ++ [x]) ++ rows) H) : va_P D cl ((X ++ [x]) ++ (pl ++ rows)) H := by
  rw [List.append_assoc (X ++ pl)] at hP
  have h := va_P.swap hP
  rw [← List.append_assoc X] at h
  have h2 := va_P.swap h
  rw [List.append_assoc (X ++ [x])] at h2
  exact h2
theorem vr_layD {X rows : va_W} {x : Nat × va_E} {pl : va_W} {A : Nat → Prop} (hD : va_D A (((X ++ pl) ++ [x]) ++ rows)) : va_D A ((X ++ [x]) ++ (pl ++ rows)) := by
  rw [List.append_assoc (X ++ pl)] at hD
  have h := va_D.swap hD
  rw [← List.append_assoc X] at h
  have h2 := va_D.swap h
  rw [List.append_assoc (X ++ [x])] at h2
  exact h2
theorem vr_outer (c : ClassId) (N h0 : Nat) : ∀ i : Nat, Jvm.Free.Multi.outerC c N h0 i = arrV c N (fun j => va_rf (if j < i then some (h0 + 1 + j) else none))
  | 0 => by
    show ({ cls := c, slots := Array.replicate N .null, vm := .none } : Cell) = _
    rw [arrV_new]
    refine congrArg (arrV c N) (funext fun j => ?_)
    simp [va_rf]
  | i + 1 => by
    show (Jvm.Free.Multi.outerC c N h0 i).setSlot i (.ref (h0 + 1 + i)) = _
    rw [vr_outer c N h0 i, arrV_store]
    refine congrArg (arrV c N) (funext fun j => ?_)
    by_cases e : j = i
    · subst e
      simp [updV, va_rf]
    · by_cases h : j < i
      · simp [updV, e, h, Nat.lt_succ_of_lt h]
      · simp [updV, e, h, show ¬ j < i + 1 by omega]
section VGM
variable {p : Program} {l : Launch} {e : Env} {R : Room} {s : State} {m : MethodId} {args : Array Value} {below : List Frame} {meth : Method} {c : Code} {H : Heap} {locs : List Loc} {cells slots : Nat} {Q : State → Prop}
variable {cc : ByteArray} {pc : Nat} {ls : Array Slot} {rest : List Value} {D : va_G} {cl : List vw_C} {A : Nat → Prop} {a : Nat} {tys : List (ClassId × FieldType)} {ws : va_W} {H0 : Heap}
theorem va_mna {X : va_W} {L : List Nat} {f : Nat → va_E} {cc : ByteArray} (hexec : p.tables.exec = Jvm.exec) (hb : c.code = cc) {own : String} {index : Nat} {ty : FieldType} {cy : ClassId} (hown : s.vm.findClass own = some m.cls) (hclink : (Cond.classLink own index ("[" ++ (FieldType.array ty).toString)).before args s = true) (hover : (Cond.arrayOver (.array ty)).before args s = true) (harr : (Cond.arrayClass ty).before args s = true) (hcy : s.vm.findClass (FieldType.array ty).toString = some cy)
    (hK : va_K D cl tys s) (hP : va_P D cl (X ++ va_pl L f) H) (hD : va_D A (X ++ va_pl L f)) (hS : va_S A H0 H locs) (hA : ∀ q, H0.size ≤ q → A q) {n k : Int32} {N' K' : Nat} {z : vp_A} (hn : ¬ n < 0) (hk : ¬ k < 0) (hN : n.toNatClampNeg = N') (hM : k.toNatClampNeg = K')
    (hb1 : N' * 4 ≤ 536870912) (hb2 : K' * componentBytes ty ≤ 536870912) (hb3 : K' ≤ 536870912) (hdf : fits ty (defaultValue ty) = true) (hdd : (defaultValue ty).isDefault = true) (hcells : cells + (1 + N') ≤ R.cells) (hslots : slots + (N' + N' * K') ≤ R.slots) (hz : ∀ c : ClassId, Jvm.Free.Multi.innerC c K' (defaultValue ty) = vp_cell c z) (hdg : decode cc pc = .ok (.multianewarray index 2, 4))
    (kk : ∀ (q : Nat) (r : Nat → Nat) (cA : ClassId) (H1 : Heap), (∀ i j : Nat, i < N' → j < N' → r i = r j → i = j) → (∀ i : Nat, i < N' → r i ∉ L) → va_K D cl (tys ++ [(cA, .array ty)]) s →
      va_P D cl ((X ++ [(q, .inl (cA, N', .inr (.inr (.inr (.inr (fun i => if i < N' then some (r i) else none))))))]) ++ va_pl (L ++ (List.range N').map r) (vr_up f ((List.range N').map r) (.inl (cy, z)))) H1 → va_D A ((X ++ [(q, .inl (cA, N', .inr (.inr (.inr (.inr (fun i => if i < N' then some (r i) else none))))))]) ++ va_pl (L ++ (List.range N').map r) (vr_up f ((List.range N').map r) (.inl (cy, z)))) → va_S A H0 H1 locs →
      W p l e R s m args below meth c H1 locs (cells + 1 + N') (slots + N' + N' * K') Q (F0 m (pc + 4) ls (.ref q :: rest))) : W p l e R s m args below meth c H locs cells slots Q (F0 m pc ls (.int k :: .int n :: rest)) := by
  subst hN
  subst hM
  intro T hT Xs
  obtain ⟨vm₁, cA, comp, -, fA, fC, hO, -, X', step⟩ := Xs.multianewarray2F hexec hown hclink hover harr (g := F0 m pc ls (.int k :: .int n :: rest)) rfl (by rw [hb]; exact hdg) rfl hn hk hb1 hb2 hb3 hdf hdd hcells hslots
  have ec : some cy = some comp := hcy.symm.trans fC
  cases ec
  generalize hF : Jvm.Free.Multi.fill (T.setVm vm₁) cA cy n.toNatClampNeg k.toNatClampNeg (defaultValue ty) n.toNatClampNeg = F at X' step
  have hTh : (T.setVm vm₁).heap = H := hT
  obtain ⟨f1, f2, -, -⟩ := Jvm.Free.Multi.fill_facts (T.setVm vm₁) cA cy n.toNatClampNeg k.toNatClampNeg (defaultValue ty) n.toNatClampNeg
  rw [hF, hTh] at f1 f2
  have hold : ∀ x : Nat, x < H.size → F.heap[x]? = H[x]? := fun x hx => by
    have := Jvm.Free.Multi.fill_old (T.setVm vm₁) cA cy n.toNatClampNeg k.toNatClampNeg (defaultValue ty) (a := x) (by rw [hTh]; exact hx) n.toNatClampNeg
    rw [hF, hTh] at this
    exact this
  have hrow : ∀ j : Nat, j < n.toNatClampNeg → F.heap[H.size + 1 + j]? = some (vp_cell cy z) := fun j hj => by
    have := Jvm.Free.Multi.fill_inner (T.setVm vm₁) cA cy n.toNatClampNeg k.toNatClampNeg (defaultValue ty) n.toNatClampNeg j hj
    rw [hF, hTh, hz] at this
    exact this
  have hout : Jvm.Free.Multi.outerC cA n.toNatClampNeg H.size n.toNatClampNeg = vp_cell cA (n.toNatClampNeg, .inr (.inr (.inr (.inr (fun i => if i < n.toNatClampNeg then some (H.size + 1 + i) else none))))) := by
    rw [vp_cell_q]
    exact vr_outer cA n.toNatClampNeg H.size n.toNatClampNeg
  rw [hout] at f2
  have hlt : ∀ a, a ∈ L → a < H.size := fun a ha => by
    obtain ⟨k9, hk9⟩ := va_pl_get (X := X) (f := f) ha
    exact (hP k9 _ hk9).lt
  have hnl : ∀ i : Nat, i < n.toNatClampNeg → H.size + 1 + i ∉ L := fun i _ h => by
    have := hlt _ h
    omega
  have hnm : ∀ a, a ∈ (List.range n.toNatClampNeg).map (fun i => H.size + 1 + i) → a ∉ L := fun a ha h => by
    obtain ⟨i, -, rfl⟩ := List.mem_map.mp ha
    have := hlt _ h
    omega
  have hP0 : va_P D cl (X ++ va_pl L f) F.heap := hP.kept (fun k9 x hx => hold x.1 ((hP k9 x hx).lt))
  have hP1 : va_P D cl ((X ++ va_pl L f) ++ [(H.size, .inl (cA, n.toNatClampNeg, .inr (.inr (.inr (.inr (fun i => if i < n.toNatClampNeg then some (H.size + 1 + i) else none))))))]) F.heap := hP0.app (fun k9 x hx => by
    have h0 : k9 < 1 := (List.getElem?_eq_some_iff.mp hx).1
    rw [show k9 = 0 by omega] at hx
    cases hx
    exact f2)
  have hP2 : va_P D cl (((X ++ va_pl L f) ++ [(H.size, .inl (cA, n.toNatClampNeg, .inr (.inr (.inr (.inr (fun i => if i < n.toNatClampNeg then some (H.size + 1 + i) else none))))))]) ++ ((List.range n.toNatClampNeg).map (fun i => H.size + 1 + i)).map (fun a => (a, .inl (cy, z)))) F.heap := hP1.app (fun k9 x hx => by
    obtain ⟨a, ha, rfl⟩ := List.mem_map.mp (List.mem_of_getElem? hx)
    obtain ⟨i, hi, rfl⟩ := List.mem_map.mp ha
    exact hrow i (List.mem_range.mp hi))
  have hD2 : va_D A (((X ++ va_pl L f) ++ [(H.size, .inl (cA, n.toNatClampNeg, .inr (.inr (.inr (.inr (fun i => if i < n.toNatClampNeg then some (H.size + 1 + i) else none))))))]) ++ ((List.range n.toNatClampNeg).map (fun i => H.size + 1 + i)).map (fun a => (a, .inl (cy, z)))) := by
    have hD1 := hD.push (e := .inl (cA, n.toNatClampNeg, .inr (.inr (.inr (.inr (fun i => if i < n.toNatClampNeg then some (H.size + 1 + i) else none)))))) hP rfl (hA _ hS.1)
    generalize hW1 : (X ++ va_pl L f) ++ [(H.size, .inl (cA, n.toNatClampNeg, .inr (.inr (.inr (.inr (fun i => if i < n.toNatClampNeg then some (H.size + 1 + i) else none))))))] = W1 at hD1 hP1 ⊢
    have hle : ∀ (k9 : Nat) (x : Nat × va_E), W1[k9]? = some x → x.1 ≤ H.size := fun k9 x hx => by
      rw [← hW1] at hx
      by_cases hl : k9 < (X ++ va_pl L f).length
      · rw [List.getElem?_append_left hl] at hx
        exact Nat.le_of_lt ((hP k9 x hx).lt)
      · rw [List.getElem?_append_right (by omega)] at hx
        have h0 : k9 - (X ++ va_pl L f).length < 1 := (List.getElem?_eq_some_iff.mp hx).1
        rw [show k9 - (X ++ va_pl L f).length = 0 by omega] at hx
        cases hx
        exact Nat.le_refl _
    have hr : ∀ (k9 : Nat) (x : Nat × va_E), (((List.range n.toNatClampNeg).map (fun i => H.size + 1 + i)).map (fun a => ((a, .inl (cy, z)) : Nat × va_E)))[k9]? = some x → x.1 = H.size + 1 + k9 := fun k9 x hx => by
      rw [List.getElem?_map, List.getElem?_map] at hx
      by_cases h9 : k9 < n.toNatClampNeg
      · rw [List.getElem?_range h9] at hx
        cases hx
        rfl
      · have hn0 : (List.range n.toNatClampNeg)[k9]? = none := List.getElem?_eq_none (by rw [List.length_range]; omega)
        rw [hn0] at hx
        cases hx
    refine ⟨fun i j x y hi hj hxy => ?_, fun k9 x hx => ?_⟩
    · by_cases h1 : i < W1.length <;> by_cases h2 : j < W1.length
      · rw [List.getElem?_append_left h1] at hi
        rw [List.getElem?_append_left h2] at hj
        exact hD1.1 i j x y hi hj hxy
      · rw [List.getElem?_append_left h1] at hi
        rw [List.getElem?_append_right (by omega)] at hj
        have := hle _ _ hi
        have := hr _ _ hj
        omega
      · rw [List.getElem?_append_right (by omega)] at hi
        rw [List.getElem?_append_left h2] at hj
        have := hle _ _ hj
        have := hr _ _ hi
        omega
      · rw [List.getElem?_append_right (by omega)] at hi hj
        have := hr _ _ hi
        have := hr _ _ hj
        omega
    · by_cases h1 : k9 < W1.length
      · rw [List.getElem?_append_left h1] at hx
        exact hD1.2 k9 x hx
      · rw [List.getElem?_append_right (by omega)] at hx
        have := hr _ _ hx
        exact hA _ (by have := hS.1; omega)
  have hAr : ArrOfT s cA (.array ty) := fun N9 z9 => by
    obtain ⟨-, k9, hk9, cm9, hkk9⟩ := (hO 0 0 0).1
    exact ⟨(fun q hq => by cases hq), k9, hk9, cm9, hkk9⟩
  have hK2 : va_K D cl (tys ++ [(cA, .array ty)]) s := ⟨hK.1, fun k9 x hx => by
    by_cases hl : k9 < tys.length
    · rw [List.getElem?_append_left hl] at hx
      exact hK.2 k9 x hx
    · rw [List.getElem?_append_right (by omega)] at hx
      have h0 : k9 - tys.length < 1 := (List.getElem?_eq_some_iff.mp hx).1
      rw [show k9 - tys.length = 0 by omega] at hx
      cases hx
      exact ⟨hAr, fA⟩⟩
  obtain ⟨t, a1, b1⟩ := kk H.size (fun i => H.size + 1 + i) cA F.heap (fun i j _ _ h => by have h9 : H.size + 1 + i = H.size + 1 + j := h; omega) hnl hK2 (by rw [← vr_rows hnm]; exact vr_lay hP2) (by rw [← vr_rows hnm]; exact vr_layD hD2) ⟨by rw [f1]; have := hS.1; omega, fun x h1 h2 => (hold x (Nat.lt_of_lt_of_le h1 hS.1)).trans (hS.2.1 x h1 h2), hS.2.2⟩ F rfl X'
  refine ⟨t, step t ?_, b1⟩
  have e : T.heap.size = H.size := by rw [hT]
  rw [e]
  exact a1
end VGM
/-! ===== END ===== -/

/-! ===== BEGIN exceptions that leave a method, and their catching by the caller (launches without stack traces) ===== -/
section VXA
/-! The laws vx_back, vx_callV, vx_callS, vx_callSW, vx_throw0, vx_throwS follow proofs of the library, with one case more: JvmDerived/Free/Laws.lean (Back.of_free), Shelf42/LK1.lean (callV, callS), Shelf/KitTraced.lean (throwNew0V, throwNewS). -/
/-- where a method has thrown q: the class by its name, the cell, what was written, the world -/
def vx_T (XC : String → State → State → Prop) (st : State) (q : Addr) (t : State) (mc ms : Nat) (free : Addr → Prop) : Prop :=
  ∃ (E : String) (ce : Cell) (L : List Loc), XC E st t ∧ t.heap[q]? = some ce ∧ ce.vm = .none ∧ st.vm.findClass E = some ce.cls ∧ st.WarmedH t.vm ∧ st.sameButNew ({ t with vm := st.vm } : State) L mc ms ∧ ∀ z ∈ L, free z.base
def vx_Q (Qc : Array Value → State → Outcome → State → Prop) (XC : String → State → State → Prop) (mc ms : Nat) (free : Addr → Prop) : Array Value → State → Outcome → State → Prop := fun a st o t =>
  (Qc a st o t ∧ ∃ L, FrameEnd st o t L mc ms ∧ ∀ q ∈ L, free q.base) ∨ ∃ q, o = .threw q ∧ vx_T XC st q t mc ms free
/-- a callee that returns or throws -/
def vx_Met (l : Launch) (y : MethodName) (ws : List Cond) (rm : Room) (Pc : Array Value → State → Prop) (Qc : Array Value → State → Outcome → State → Prop) (XC : String → State → State → Prop) (mc ms : Nat) (free : Addr → Prop) : Prop :=
  MetFree l y (headSpec ws rm) Pc (fun _ _ _ _ _ => True) (vx_Q Qc XC mc ms free)
def vx_Post (XC : String → State → State → Prop) (mc ms : Nat) (free : Addr → Prop) : Pt → Array Value → Addr → Pt → Prop := fun A a q B =>
  ∃ (g : JFrame) (mk : MethodId) (t : State) (L : List Loc) (E : String) (ce : Cell), B.U.heap = t.heap ∧ B.U.vm = t.vm ∧ XC E (A.U.calling g mk a) t ∧ t.heap[q]? = some ce ∧ ce.vm = .none ∧ A.U.vm.findClass E = some ce.cls ∧ B.locs = A.locs ++ L ∧ (∀ z ∈ L, free z.base) ∧ B.cells = A.cells + mc ∧ B.slots = A.slots + ms
def vx_Back (l : Launch) (R : Room) (p : Program) (e : Env) (below : List Frame) (s : State) (sargs : Array Value) (y : MethodName) (len W9 : Nat)
    (Pre : Pt → Array Value → Prop) (Post : Pt → Array Value → Option Value → Pt → Prop) (PostX : Pt → Array Value → Addr → Pt → Prop) : Prop :=
  ∀ (m : MethodId) (meth : Method) (c : Code) (A : Pt) (g : JFrame) (ig : Instr) (mk : MethodId) (a : Array Value),
    Stand p l e R s m sargs below meth c A.U A.locs A.cells A.slots → g.method = m → g.locals.size = c.maxLocals → decode c.code g.pc = .ok (ig, len) →
    2 * g.monitorRoom + (g.stack.map fun v => v.category).sum ≤ W9 → A.U.methodNamed? y = some mk → Pre A a →
    (∃ (v : Option Value) (B : Pt), Stand p l e R s m sargs below meth c B.U B.locs B.cells B.slots ∧ Post A a v B ∧
      Steps p.tables e below (doInvoke e (A.U.setTop g) [] mk a).1 (B.U.setTop { g with pc := g.pc + len, stack := v.toList ++ g.stack })) ∨
    (∃ (q : Addr) (B : Pt), Stand p l e R s m sargs below meth c B.U B.locs B.cells B.slots ∧ PostX A a q B ∧
      Steps p.tables e below (doInvoke e (A.U.setTop g) [] mk a).1 ((B.U.setTop g).pushFrame (.throwing q)))
section Payer
variable {l : Launch} {R : Room} {p : Program} {e : Env} {below : List Frame} {s : State} {sargs : Array Value} {y : MethodName} {len W9 : Nat}
theorem vx_back {ws : List Cond} {rm : Room} {Pc : Array Value → State → Prop} {Qc : Array Value → State → Outcome → State → Prop} {XC : String → State → State → Prop} {mc ms : Nat} {free : Addr → Prop} {bytes : ByteArray} {maxL : Nat} {ret : Option FieldType}
    (hM : vx_Met l y ws rm Pc Qc XC mc ms free) (hblind : FrameBlind Pc) (hrc : rm.cells = mc) (hrs : rm.slots = ms)
    (hframes : rm.frames + 1 ≤ R.frames) (hlocals : W9 + (maxL + 11) + rm.locals ≤ R.locals)
    (hws : ∀ w ∈ ws, ∀ a' U, s.WarmedH U.vm → w.before a' U = true) (hcode : Cond.code y bytes maxL ret ∈ ws) (hinit : ∀ a' U, s.WarmedH U.vm → (Cond.initialized y.cls).before a' U = true) :
    vx_Back l R p e below s sargs y len W9 (PreOf R mc ms Pc) (PostOf Qc mc ms free) (vx_Post XC mc ms free) := by
  intro m meth c A g ig mk a X hg hsize hdg hW hn hp
  have h1 : (headSpec ws rm).pre.before a A.U = true := atoms_intro fun w hw => hws w hw _ _ X.warmed
  have h2 : (Cond.code y bytes maxL ret).before a A.U = true := hws _ hcode _ _ X.warmed
  have h3 : (Cond.initialized y.cls).before a A.U = true := hinit _ _ X.warmed
  have h4 : A.cells + (headSpec ws rm).room.cells ≤ R.cells := by rw [show (headSpec ws rm).room.cells = mc from hrc]; exact hp.1
  have h5 : A.slots + (headSpec ws rm).room.slots ≤ R.slots := by rw [show (headSpec ws rm).room.slots = ms from hrs]; exact hp.2.1
  have hPc : Pc a (A.U.calling g mk a) := hblind _ _ _ _ hp.2.2
  obtain ⟨U, Ls, c0, s0⟩ := A
  dsimp only [Pt.U, Pt.locs, Pt.cells, Pt.slots] at h1 h2 h3 h4 h5 X hn hPc ⊢
  obtain ⟨methY, cY, hmY, hcY, -, hlY, -, -, -, -⟩ := Cond.code_spec hn h2
  obtain ⟨kY, hkY, -⟩ := className_of_methodNamed hn
  have hinitY : kY.init = .initialized := Cond.initialized_spec (findClass_of_methodNamed hn) hkY h3
  have h : At U g.method c below := by rw [hg]; exact X.here
  have hlocals9 : W9 + (maxL + 11) + (headSpec ws rm).room.locals ≤ R.locals := hlocals
  have happ : (headSpec ws rm).appliesLoose y e.platform (U.calling g mk a) = true :=
    Spec.appliesLoose_calling (g := g) h hdg hn hkY hinitY
      (X.room_calling (g := g) (R' := (headSpec ws rm).room) hsize hmY hcY hframes (by rw [hlY]; omega) h4 h5) h1
  obtain ⟨mid, hmid⟩ := h.above
  have hfr : (U.setTop g).frames = (.java g :: mid) ++ below := by rw [State.frames_setTop' g h.top, hmid]; rfl
  obtain ⟨o, s₂, hsteps, -, hend, hq⟩ := Steps.callFree hM p X.admits X.cas X.clock (acts := []) hfr happ hPc trivial
  have hq' : vx_Q Qc XC mc ms free a (U.calling g mk a) o s₂ := hq
  rw [State.frames_setTop' g h.top] at hend
  obtain ⟨g₀, hg0⟩ := Option.isSome_iff_exists.mp h.top
  obtain ⟨r, hr⟩ := State.topJava?_eq_some.mp hg0
  have hr' : (({ U with heap := s₂.heap, slotsUsed := s₂.slotsUsed } : State).setVm s₂.vm).frames = .java g₀ :: r := hr
  rcases hq' with ⟨hqc, L, hfe, hL⟩ | ⟨q, rfl, E, ce, L, hx, hce, hcv, hcl, hW₂, hsm, hL⟩
  · obtain ⟨⟨v, rfl⟩, hW₂, e2, q2, q3, q4, q5, q6⟩ := id hfe
    have e3 : s₂ = ({ (U.calling g mk a).setFrames s₂.frames with heap := s₂.heap, slotsUsed := s₂.slotsUsed } : State).setVm s₂.vm := by
      have : s₂ = ({ s₂ with vm := (U.calling g mk a).vm } : State).setVm s₂.vm := rfl
      rw [e2] at this
      exact this
    obtain ⟨c₂, i₂, len₂, hc₂, hd₂, hf₂⟩ := hend
    have hW' : U.WarmedH s₂.vm := hW₂
    have hcc : c₂ = c := by
      have h1 : s₂.code? g.method = U.code? g.method := by
        rw [State.code?_eq, State.code?_eq, hW'.alike.method?]
      exact Option.some.inj (hc₂.symm.trans (h1.trans h.code))
    subst hcc
    have hlen : len₂ = len := by rw [hdg] at hd₂; cases hd₂; rfl
    subst hlen
    have hs₂ : s₂ = (({ U with heap := s₂.heap, slotsUsed := s₂.slotsUsed } : State).setVm s₂.vm).setTop { g with pc := g.pc + len₂, stack := v.toList ++ g.stack } := by
      refine e3.trans ?_
      rw [hf₂, State.calling_eq h.top, State.setFrames_setFrames, State.setTop_of_frames _ hr', hr]
      rfl
    have hsame : U.sameButNew ({ U with heap := s₂.heap, slotsUsed := s₂.slotsUsed } : State) L mc ms := by
      refine ⟨?_, q2, q3, q4, q5, q6⟩
      obtain ⟨t, ht, -⟩ := State.frames_cons hr
      show ({ U with heap := s₂.heap, slotsUsed := s₂.slotsUsed } : State) = { U.setFrames U.frames with heap := s₂.heap, slotsUsed := s₂.slotsUsed }
      rw [State.setFrames_self ht]
    subst hg
    refine Or.inl ⟨v, ⟨(({ U with heap := s₂.heap, slotsUsed := s₂.slotsUsed } : State).setVm s₂.vm), Ls ++ L, c0 + mc, s0 + ms⟩,
      ⟨X.admits, X.cas, X.clock, X.frames, X.room, X.hears, X.method, X.code, (X.here.setHeapUsed s₂.heap s₂.slotsUsed).setVm hW'.alike, X.tail, State.WarmedH.trans X.warmed hW', X.limits, X.bytes, X.same.trans (hsame.setVm s.vm)⟩,
      ⟨g, mk, s₂, L, rfl, rfl, hqc, rfl, hL, rfl, rfl⟩, ?_⟩
    show Steps p.tables e below _ ((({ U with heap := s₂.heap, slotsUsed := s₂.slotsUsed } : State).setVm s₂.vm).setTop { g with pc := g.pc + len₂, stack := v.toList ++ g.stack })
    rw [← hs₂]
    exact hsteps
  · obtain ⟨e2, q2, q3, q4, q5, q6⟩ := id hsm
    have e3 : s₂ = ({ (U.calling g mk a).setFrames s₂.frames with heap := s₂.heap, slotsUsed := s₂.slotsUsed } : State).setVm s₂.vm := by
      have : s₂ = ({ s₂ with vm := (U.calling g mk a).vm } : State).setVm s₂.vm := rfl
      rw [e2] at this
      exact this
    have hf₂ : s₂.frames = .throwing q :: .java g :: U.frames.tail := hend
    have hW' : U.WarmedH s₂.vm := hW₂
    have hs₂ : s₂ = ((({ U with heap := s₂.heap, slotsUsed := s₂.slotsUsed } : State).setVm s₂.vm).setTop g).pushFrame (.throwing q) := by
      refine e3.trans ?_
      rw [hf₂, State.calling_eq h.top, State.setFrames_setFrames, State.pushFrame, State.frames_setTop _ hr', State.setTop_of_frames _ hr', State.setFrames_setFrames, hr]
      rfl
    have hsame : U.sameButNew ({ U with heap := s₂.heap, slotsUsed := s₂.slotsUsed } : State) L mc ms := by
      refine ⟨?_, q2, q3, q4, q5, q6⟩
      obtain ⟨t, ht, -⟩ := State.frames_cons hr
      show ({ U with heap := s₂.heap, slotsUsed := s₂.slotsUsed } : State) = { U.setFrames U.frames with heap := s₂.heap, slotsUsed := s₂.slotsUsed }
      rw [State.setFrames_self ht]
    subst hg
    refine Or.inr ⟨q, ⟨(({ U with heap := s₂.heap, slotsUsed := s₂.slotsUsed } : State).setVm s₂.vm), Ls ++ L, c0 + mc, s0 + ms⟩,
      ⟨X.admits, X.cas, X.clock, X.frames, X.room, X.hears, X.method, X.code, (X.here.setHeapUsed s₂.heap s₂.slotsUsed).setVm hW'.alike, X.tail, State.WarmedH.trans X.warmed hW', X.limits, X.bytes, X.same.trans (hsame.setVm s.vm)⟩,
      ⟨g, mk, s₂, L, E, ce, rfl, rfl, hx, hce, hcv, hcl, rfl, hL, rfl, rfl⟩, ?_⟩
    show Steps p.tables e below _ (((({ U with heap := s₂.heap, slotsUsed := s₂.slotsUsed } : State).setVm s₂.vm).setTop g).pushFrame (.throwing q))
    rw [← hs₂]
    exact hsteps
end Payer
section Calls
variable {p : Program} {l : Launch} {e : Env} {R : Room} {s : State} {m : MethodId} {args : Array Value} {below : List Frame} {meth : Method} {c : Code} {T : State} {locs : List Loc} {cells slots : Nat}
theorem vx_callV (X : Stand p l e R s m args below meth c T locs cells slots) (hexec : p.tables.exec = Jvm.exec) {own C : String} {index : Nat} {y : MethodName} {bytes : ByteArray} {maxL : Nat} {ret : Option FieldType}
    (hown : s.vm.findClass own = some m.cls) (hlink : (Cond.methodLink own index y).before args s = true) (hinst : (Cond.instanceMethod y).before args s = true) (hsel : (Cond.selects C y y).before args s = true)
    (hcode : (Cond.code y bytes maxL ret).before args s = true) (hy : y.cls ≠ "java/lang/invoke/MethodHandle" ∧ y.cls ≠ "java/lang/invoke/VarHandle")
    {W9 : Nat} {Pre : Pt → Array Value → Prop} {Post : Pt → Array Value → Option Value → Pt → Prop} {PostX : Pt → Array Value → Addr → Pt → Prop} (hK : vx_Back l R p e below s args y 3 W9 Pre Post PostX)
    {b : Addr} {cellB : Cell} (hcell : T.heap[b]? = some cellB) (hobj : cellB.vm.isStatics = false) (hcls : s.vm.findClass C = some cellB.cls)
    {g : JFrame} (hg : g.method = m) (hsize : g.locals.size = c.maxLocals) {argsL rest : List Value} (hlen : ∀ sig, parseMethodDescriptor y.desc = some sig → argsL.length = sig.parameters.length)
    (hstack : g.stack = argsL.reverse ++ .ref b :: rest) (hW : 2 * g.monitorRoom + (rest.map fun v => v.category).sum ≤ W9) (hdg : decode c.code g.pc = .ok (.invokevirtual index, 3))
    (hpre : ∀ vm₁, s.WarmedH vm₁ → Pre ⟨T.setVm vm₁, locs, cells, slots⟩ (Value.ref b :: argsL).toArray) :
    (∃ (v : Option Value) (vm₁ : Vm) (B : Pt), s.WarmedH vm₁ ∧ Stand p l e R s m args below meth c B.U B.locs B.cells B.slots ∧ Post ⟨T.setVm vm₁, locs, cells, slots⟩ (Value.ref b :: argsL).toArray v B ∧
      ∀ target, Steps p.tables e below (B.U.setTop { g with pc := g.pc + 3, stack := v.toList ++ rest }) target → Steps p.tables e below (T.setTop g) target) ∨
    (∃ (q : Addr) (vm₁ : Vm) (B : Pt), s.WarmedH vm₁ ∧ Stand p l e R s m args below meth c B.U B.locs B.cells B.slots ∧ PostX ⟨T.setVm vm₁, locs, cells, slots⟩ (Value.ref b :: argsL).toArray q B ∧
      Steps p.tables e below (T.setTop g) ((B.U.setTop { g with stack := rest }).pushFrame (.throwing q))) := by
  obtain ⟨mk, methM, hnamed, hmethM, hstM, habM⟩ := Cond.instanceMethod_spec hinst
  obtain ⟨methM', cM, hmethM', -, -, -, -, -, -, hsigM⟩ := Cond.code_spec hnamed hcode
  cases hmethM.symm.trans hmethM'
  obtain ⟨c2, r2, m2, q1, q2, q3, q4, kP, hkP, hkPi⟩ := Cond.selects_spec hsel
  cases hcls.symm.trans q1
  cases (State.methodFound?_of_named hnamed hy).symm.trans q2
  cases hnamed.symm.trans q3
  have hselP : selectMethod e.platform s.vm cellB.cls mk = .method mk := by rw [Launch.admits_selectMethod X.admits]; exact q4
  obtain ⟨vm₁, X₁, hstep₁⟩ := X.invokevirtual hexec hown hlink hnamed hmethM hstM hkP hkPi hy (a := b) (cell := cellB) hcell
    (fun z h => by rw [h] at hobj; cases hobj) hselP hmethM habM hkP hkPi (g := g) hg (argsL := argsL) (rest := rest) (hlen _ hsigM) hstack hdg
  rcases hK m meth c ⟨T.setVm vm₁, locs, cells, slots⟩ { g with stack := rest } (.invokevirtual index) mk (Value.ref b :: argsL).toArray X₁ hg hsize hdg hW (X₁.named hnamed) (hpre vm₁ X₁.warmed) with ⟨v, B, X', hpost, hsteps⟩ | ⟨q, B, X', hpost, hsteps⟩
  · exact Or.inl ⟨v, vm₁, B, X₁.warmed, X', hpost, fun target h => hstep₁ _ fun acts => by rw [doInvoke_state]; exact hsteps.trans h⟩
  · exact Or.inr ⟨q, vm₁, B, X₁.warmed, X', hpost, hstep₁ _ fun acts => by rw [doInvoke_state]; exact hsteps⟩
theorem vx_callS (X : Stand p l e R s m args below meth c T locs cells slots) (hexec : p.tables.exec = Jvm.exec) {own : String} {index : Nat} {y : MethodName} {bytes : ByteArray} {maxL : Nat} {ret : Option FieldType}
    (hown : s.vm.findClass own = some m.cls) (hlink : (Cond.methodLink own index y).before args s = true) (hstat : (Cond.static y).before args s = true) (hinit : (Cond.initialized y.cls).before args s = true)
    (hcode : (Cond.code y bytes maxL ret).before args s = true) (hy : y.cls ≠ "java/lang/invoke/MethodHandle" ∧ y.cls ≠ "java/lang/invoke/VarHandle")
    {W9 : Nat} {Pre : Pt → Array Value → Prop} {Post : Pt → Array Value → Option Value → Pt → Prop} {PostX : Pt → Array Value → Addr → Pt → Prop} (hK : vx_Back l R p e below s args y 3 W9 Pre Post PostX)
    {g : JFrame} (hg : g.method = m) (hsize : g.locals.size = c.maxLocals) {argsL rest : List Value} (hlen : ∀ sig, parseMethodDescriptor y.desc = some sig → argsL.length = sig.parameters.length)
    (hstack : g.stack = argsL.reverse ++ rest) (hW : 2 * g.monitorRoom + (rest.map fun v => v.category).sum ≤ W9) (hdg : decode c.code g.pc = .ok (.invokestatic index, 3))
    (hpre : ∀ vm₁, s.WarmedH vm₁ → Pre ⟨T.setVm vm₁, locs, cells, slots⟩ argsL.toArray) :
    (∃ (v : Option Value) (vm₁ : Vm) (B : Pt), s.WarmedH vm₁ ∧ Stand p l e R s m args below meth c B.U B.locs B.cells B.slots ∧ Post ⟨T.setVm vm₁, locs, cells, slots⟩ argsL.toArray v B ∧
      ∀ target, Steps p.tables e below (B.U.setTop { g with pc := g.pc + 3, stack := v.toList ++ rest }) target → Steps p.tables e below (T.setTop g) target) ∨
    (∃ (q : Addr) (vm₁ : Vm) (B : Pt), s.WarmedH vm₁ ∧ Stand p l e R s m args below meth c B.U B.locs B.cells B.slots ∧ PostX ⟨T.setVm vm₁, locs, cells, slots⟩ argsL.toArray q B ∧
      Steps p.tables e below (T.setTop g) ((B.U.setTop { g with stack := rest }).pushFrame (.throwing q))) := by
  obtain ⟨mk, hnamed⟩ := Cond.code_named hcode
  obtain ⟨methM, cM, hmethM, -, -, -, -, -, -, hsigM⟩ := Cond.code_spec hnamed hcode
  have hstatic : methM.isStatic = true := Cond.static_spec hnamed hmethM hstat
  obtain ⟨kP, hkP, -⟩ := className_of_methodNamed hnamed
  have hinitP : kP.init = .initialized := Cond.initialized_spec (findClass_of_methodNamed hnamed) hkP hinit
  obtain ⟨vm₁, X₁, hstep₁⟩ := X.invokestatic hexec hown hlink hnamed hmethM hstatic hkP hinitP hy (g := g) hg (argsL := argsL) (rest := rest) (hlen _ hsigM) hstack hdg
  rcases hK m meth c ⟨T.setVm vm₁, locs, cells, slots⟩ { g with stack := rest } (.invokestatic index) mk argsL.toArray X₁ hg hsize hdg hW (X₁.named hnamed) (hpre vm₁ X₁.warmed) with ⟨v, B, X', hpost, hsteps⟩ | ⟨q, B, X', hpost, hsteps⟩
  · exact Or.inl ⟨v, vm₁, B, X₁.warmed, X', hpost, fun target h => hstep₁ _ fun acts => by rw [doInvoke_state]; exact hsteps.trans h⟩
  · exact Or.inr ⟨q, vm₁, B, X₁.warmed, X', hpost, hstep₁ _ fun acts => by rw [doInvoke_state]; exact hsteps⟩
end Calls
theorem vx_cls {s : State} {T : State} {vm₁ : Vm} {E : String} {k : ClassId} (hW : s.WarmedH vm₁) (h : (T.setVm vm₁).vm.findClass E = some k) : s.vm.findClass E = some k := by
  have h1 : vm₁.findClass E = some k := h
  rw [hW.alike.findClass] at h1
  exact h1
/-- the method's frame g, with q thrown over it -/
def vx_W (p : Program) (l : Launch) (e : Env) (R : Room) (s : State) (m : MethodId) (args : Array Value) (below : List Frame) (meth : Method) (c : Code) (H : Heap) (locs : List Loc) (cells slots : Nat) (Q : State → Prop) (g : JFrame) (q : Addr) : Prop :=
  ∀ T : State, T.heap = H → Stand p l e R s m args below meth c T locs cells slots → ∃ t, Steps p.tables e below ((T.setTop g).pushFrame (.throwing q)) t ∧ Q t
def vx_Run (p : Program) (l : Launch) (e : Env) (R : Room) (s : State) (m : MethodId) (args : Array Value) (below : List Frame) (meth : Method) (c : Code) (H : Heap) (locs : List Loc) (cells slots mc ms : Nat) (g : JFrame) (rest : List Value) (Qa : State → Outcome → State → Prop) (XC : String → State → State → Prop) (free : Addr → Prop) : Prop :=
  ∀ T : State, T.heap = H → Stand p l e R s m args below meth c T locs cells slots →
    (∃ (v : Option Value) (st₀ t T' : State) (L : List Loc), st₀.heap = H ∧ Stand p l e R s m args below meth c T' (locs ++ L) (cells + mc) (slots + ms) ∧ (∀ q ∈ L, free q.base) ∧ T'.heap = t.heap ∧ T'.vm = t.vm ∧ Qa st₀ (.returned v) t ∧
      Goes p e below T g T' { g with pc := g.pc + 3, stack := v.toList ++ rest }) ∨
    (∃ (q : Addr) (st₀ t T' : State) (L : List Loc) (E : String) (ce : Cell), st₀.heap = H ∧ Stand p l e R s m args below meth c T' (locs ++ L) (cells + mc) (slots + ms) ∧ (∀ z ∈ L, free z.base) ∧ T'.heap = t.heap ∧ T'.vm = t.vm ∧ XC E st₀ t ∧ t.heap[q]? = some ce ∧ ce.vm = .none ∧ s.vm.findClass E = some ce.cls ∧
      Steps p.tables e below (T.setTop g) ((T'.setTop { g with stack := rest }).pushFrame (.throwing q)))
def vx_X {S : Type} (px : S → Prop) (B : String → S → State → Prop) (A : Nat → Prop) : String → State → State → Prop := fun E st t => ∃ u : S, px u ∧ B E u t ∧ va_F A st t
section Runs
variable {p : Program} {l : Launch} {e : Env} {R : Room} {s : State} {m : MethodId} {args : Array Value} {below : List Frame} {meth : Method} {c : Code} {H : Heap} {locs : List Loc} {cells slots : Nat}
variable {y : MethodName} {bytes cc : ByteArray} {maxL nL mc ms n index : Nat} {ret : Option FieldType} {ws : List Cond} {rm : Room} {Pc : Array Value → State → Prop} {Qc : Array Value → State → Outcome → State → Prop} {XC : String → State → State → Prop} {free : Addr → Prop} {Ts : List Cond} {own C : String} {b : Addr} {As rest : List Value} {g : JFrame}
theorem vx_callBack (cb : CallB R s args own index y bytes maxL ret ws rm mc ms n) (hM : vx_Met l y ws rm Pc Qc XC mc ms free) (hbl : FrameBlind Pc) : vx_Back l R p e below s args y 3 8 (PreOf R mc ms Pc) (PostOf Qc mc ms free) (vx_Post XC mc ms free) := by
  obtain ⟨hrc, hrs, hfr, hlo, hws, hcw, -, hini, -⟩ := cb
  exact vx_back (bytes := bytes) (maxL := maxL) (ret := ret) hM hbl hrc hrs hfr hlo hws hcw (fun a' U hW => word_at hW (Or.inl (by first | rfl | simp [Cond.onTables, Cond.keeps, Cond.steady])) hini)
theorem vx_runV (S : CallFix p m c cc nL s args Ts own) (hM : vx_Met l y ws rm Pc Qc XC mc ms free) (cw : CallW R s args own C index y bytes maxL ret ws rm mc ms n) (hp : PreV s H C b Pc As)
    (hg : g.method = m) (hn : As.length = n) (hsize : g.locals.size = nL) (hstack : g.stack = As.reverse ++ .ref b :: rest) (hW : 2 * g.monitorRoom + (rest.map fun v => v.category).sum ≤ 8) (hdg : decode cc g.pc = .ok (.invokevirtual index, 3)) (hf : cells + mc ≤ R.cells ∧ slots + ms ≤ R.slots) :
    vx_Run p l e R s m args below meth c H locs cells slots mc ms g rest (Qc (Value.ref b :: As).toArray) XC free := by
  have hK : vx_Back l R p e below s args y 3 8 (PreOf R mc ms Pc) (PostOf Qc mc ms free) (vx_Post XC mc ms free) := vx_callBack cw.1 hM hp.1
  obtain ⟨⟨-, -, -, -, -, -, hcode, -, hy, hlen, hl⟩, hin, hse⟩ := cw
  obtain ⟨hx, hb, hml, ho, -⟩ := S
  obtain ⟨-, ⟨cellB, hcB, hoB, hclB⟩, hPc⟩ := hp
  intro T hT X
  rcases vx_callV X hx (C := C) (bytes := bytes) (maxL := maxL) (ret := ret) ho hl hin hse hcode hy hK (by rw [hT]; exact hcB) hoB hclB hg (hsize.trans hml.symm) (argsL := As) (rest := rest) (fun sig h => hn.trans (hlen sig h)) hstack hW (by rw [hb]; exact hdg)
    (fun vm₁ hW₁ => ⟨hf.1, hf.2, hPc (T.setVm vm₁) hT hW₁⟩) with ⟨v, vm₁, ⟨U', l2, c2, s2⟩, hW₁, X', ⟨g', mk, t, L, e1, e2, hq, h1, hL, h2, h3⟩, st⟩ | ⟨q, vm₁, ⟨U', l2, c2, s2⟩, hW₁, X', ⟨g', mk, t, L, E, ce, e1, e2, hq, hce, hcv, hcl, h1, hL, h2, h3⟩, st⟩
  · dsimp only [Pt.U, Pt.locs, Pt.cells, Pt.slots] at X' e1 e2 h1 h2 h3 st
    subst h1; subst h2; subst h3
    exact Or.inl ⟨v, (T.setVm vm₁).calling g' mk (Value.ref b :: As).toArray, t, U', L, hT, X', hL, e1, e2, hq, st⟩
  · dsimp only [Pt.U, Pt.locs, Pt.cells, Pt.slots] at X' e1 e2 h1 h2 h3 st hcl
    subst h1; subst h2; subst h3
    exact Or.inr ⟨q, (T.setVm vm₁).calling g' mk (Value.ref b :: As).toArray, t, U', L, E, ce, hT, X', hL, e1, e2, hq, hce, hcv, vx_cls hW₁ hcl, st⟩
theorem vx_runS (S : CallFix p m c cc nL s args Ts own) (hM : vx_Met l y ws rm Pc Qc XC mc ms free) (cw : CallB R s args own index y bytes maxL ret ws rm mc ms n ∧ (Cond.static y).before args s = true) (hp : PreS s H Pc As)
    (hg : g.method = m) (hn : As.length = n) (hsize : g.locals.size = nL) (hstack : g.stack = As.reverse ++ rest) (hW : 2 * g.monitorRoom + (rest.map fun v => v.category).sum ≤ 8) (hdg : decode cc g.pc = .ok (.invokestatic index, 3)) (hf : cells + mc ≤ R.cells ∧ slots + ms ≤ R.slots) :
    vx_Run p l e R s m args below meth c H locs cells slots mc ms g rest (Qc As.toArray) XC free := by
  have hK : vx_Back l R p e below s args y 3 8 (PreOf R mc ms Pc) (PostOf Qc mc ms free) (vx_Post XC mc ms free) := vx_callBack cw.1 hM hp.1
  obtain ⟨⟨-, -, -, -, -, -, hcode, hini, hy, hlen, hl⟩, hstt⟩ := cw
  obtain ⟨hx, hb, hml, ho, -⟩ := S
  intro T hT X
  rcases vx_callS X hx (bytes := bytes) (maxL := maxL) (ret := ret) ho hl hstt hini hcode hy hK hg (hsize.trans hml.symm) (argsL := As) (rest := rest) (fun sig h => hn.trans (hlen sig h)) hstack hW (by rw [hb]; exact hdg)
    (fun vm₁ hW₁ => ⟨hf.1, hf.2, hp.2 (T.setVm vm₁) hT hW₁⟩) with ⟨v, vm₁, ⟨U', l2, c2, s2⟩, hW₁, X', ⟨g', mk, t, L, e1, e2, hq, h1, hL, h2, h3⟩, st⟩ | ⟨q, vm₁, ⟨U', l2, c2, s2⟩, hW₁, X', ⟨g', mk, t, L, E, ce, e1, e2, hq, hce, hcv, hcl, h1, hL, h2, h3⟩, st⟩
  · dsimp only [Pt.U, Pt.locs, Pt.cells, Pt.slots] at X' e1 e2 h1 h2 h3 st
    subst h1; subst h2; subst h3
    exact Or.inl ⟨v, (T.setVm vm₁).calling g' mk As.toArray, t, U', L, hT, X', hL, e1, e2, hq, st⟩
  · dsimp only [Pt.U, Pt.locs, Pt.cells, Pt.slots] at X' e1 e2 h1 h2 h3 st hcl
    subst h1; subst h2; subst h3
    exact Or.inr ⟨q, (T.setVm vm₁).calling g' mk As.toArray, t, U', L, E, ce, hT, X', hL, e1, e2, hq, hce, hcv, vx_cls hW₁ hcl, st⟩
end Runs
section Rows
variable {p : Program} {l : Launch} {e : Env} {R : Room} {s : State} {m : MethodId} {args : Array Value} {below : List Frame} {meth : Method} {c : Code} {H : Heap} {locs : List Loc} {cells slots : Nat} {Q : State → Prop}
variable {mc ms : Nat} {free : Addr → Prop} {A0 A1 : Nat → Prop} {H0 : Heap} {a : Array Value} {pc : Nat} {ls : Array Slot} {st0 rest : List Value}
theorem vx_keep {st₀ t T' : State} {L : List Loc} (h0 : st₀.heap = H) (e1 : T'.heap = t.heap) (hS : va_S A0 H0 H locs) (hA : ∀ q, q < H.size → A1 q → A0 q) (hf : ∀ q, free q → A0 q) (hL : ∀ q ∈ L, free q.base) (hF : va_F A1 st₀ t) :
    H.size ≤ T'.heap.size ∧ (∀ q : Nat, q < H.size → ¬ A1 q → T'.heap[q]? = H[q]?) ∧ va_S A0 H0 T'.heap (locs ++ L) := by
  obtain ⟨hz, hk⟩ := hF
  rw [h0] at hz hk
  exact ⟨by rw [e1]; exact hz, fun q h1 h2 => by rw [e1]; exact hk q h1 h2,
    ⟨Nat.le_trans hS.1 (by rw [e1]; exact hz), fun q h1 h2 => by rw [e1, hk q (Nat.lt_of_lt_of_le h1 hS.1) (fun z => h2 (hA q (Nat.lt_of_lt_of_le h1 hS.1) z))]; exact hS.2.1 q h1 h2, fun q hq => by
      rcases List.mem_append.mp hq with h | h
      · exact hS.2.2 q h
      · exact hf _ (hL q h)⟩⟩
theorem vx_calli {S SX : Type} {post : Int32 → S → Prop} {px : SX → Prop} {B : S → State → Prop} {BX : String → SX → State → Prop} {AX : Nat → Prop} (hr : vx_Run p l e R s m args below meth c H locs cells slots mc ms (F0 m pc ls st0) rest (va_Qi post B A1 a) (vx_X px BX AX) free) (hS : va_S A0 H0 H locs) (hA : ∀ q, q < H.size → A1 q → A0 q) (hf : ∀ q, free q → A0 q) (hAX : ∀ q, q < H.size → AX q → A0 q)
    (kx : ∀ (E : String) (ce : Cell) (q9 : Addr) (u : SX) (t : State) (H1 : Heap) (locs1 : List Loc), t.heap = H1 → s.vm.Alike t.vm → px u → BX E u t → H.size ≤ H1.size → (∀ q : Nat, q < H.size → ¬ AX q → H1[q]? = H[q]?) → va_S A0 H0 H1 locs1 → H1[q9]? = some ce → ce.vm = .none → s.vm.findClass E = some ce.cls → vx_W p l e R s m args below meth c H1 locs1 (cells + mc) (slots + ms) Q (F0 m pc ls rest) q9)
    (kk : ∀ (r : Int32) (u : S) (t : State) (H1 : Heap) (locs1 : List Loc), t.heap = H1 → s.vm.Alike t.vm → post r u → B u t → H.size ≤ H1.size → (∀ q : Nat, q < H.size → ¬ A1 q → H1[q]? = H[q]?) → va_S A0 H0 H1 locs1 → W p l e R s m args below meth c H1 locs1 (cells + mc) (slots + ms) Q (F0 m (pc + 3) ls (.int r :: rest))) : W p l e R s m args below meth c H locs cells slots Q (F0 m pc ls st0) := by
  intro T hT X
  rcases hr T hT X with ⟨v, st₀, t, T', L, h0, X', hL, e1, e2, ⟨⟨r, u, hv, hp, hb⟩, hF⟩, st⟩ | ⟨q, st₀, t, T', L, E, ce, h0, X', hL, e1, e2, ⟨u, hp, hb, hF⟩, hce, hcv, hcl, st⟩
  · cases hv
    obtain ⟨k1, k2, k3⟩ := vx_keep h0 e1 hS hA hf hL hF
    obtain ⟨t2, a1, b1⟩ := kk r u t T'.heap (locs ++ L) e1.symm (by rw [← e2]; exact X'.warmed.alike) hp hb k1 k2 k3 T' rfl X'
    exact ⟨t2, st t2 a1, b1⟩
  · obtain ⟨k1, k2, k3⟩ := vx_keep h0 e1 hS hAX hf hL hF
    obtain ⟨t2, a1, b1⟩ := kx E ce q u t T'.heap (locs ++ L) e1.symm (by rw [← e2]; exact X'.warmed.alike) hp hb k1 k2 k3 (by rw [e1]; exact hce) hcv hcl T' rfl X'
    exact ⟨t2, st.trans a1, b1⟩
theorem vx_calll {S SX : Type} {post : Int64 → S → Prop} {px : SX → Prop} {B : S → State → Prop} {BX : String → SX → State → Prop} {AX : Nat → Prop} (hr : vx_Run p l e R s m args below meth c H locs cells slots mc ms (F0 m pc ls st0) rest (va_Ql post B A1 a) (vx_X px BX AX) free) (hS : va_S A0 H0 H locs) (hA : ∀ q, q < H.size → A1 q → A0 q) (hf : ∀ q, free q → A0 q) (hAX : ∀ q, q < H.size → AX q → A0 q)
    (kx : ∀ (E : String) (ce : Cell) (q9 : Addr) (u : SX) (t : State) (H1 : Heap) (locs1 : List Loc), t.heap = H1 → s.vm.Alike t.vm → px u → BX E u t → H.size ≤ H1.size → (∀ q : Nat, q < H.size → ¬ AX q → H1[q]? = H[q]?) → va_S A0 H0 H1 locs1 → H1[q9]? = some ce → ce.vm = .none → s.vm.findClass E = some ce.cls → vx_W p l e R s m args below meth c H1 locs1 (cells + mc) (slots + ms) Q (F0 m pc ls rest) q9)
    (kk : ∀ (r : Int64) (u : S) (t : State) (H1 : Heap) (locs1 : List Loc), t.heap = H1 → s.vm.Alike t.vm → post r u → B u t → H.size ≤ H1.size → (∀ q : Nat, q < H.size → ¬ A1 q → H1[q]? = H[q]?) → va_S A0 H0 H1 locs1 → W p l e R s m args below meth c H1 locs1 (cells + mc) (slots + ms) Q (F0 m (pc + 3) ls (.long r :: rest))) : W p l e R s m args below meth c H locs cells slots Q (F0 m pc ls st0) := by
  intro T hT X
  rcases hr T hT X with ⟨v, st₀, t, T', L, h0, X', hL, e1, e2, ⟨⟨r, u, hv, hp, hb⟩, hF⟩, st⟩ | ⟨q, st₀, t, T', L, E, ce, h0, X', hL, e1, e2, ⟨u, hp, hb, hF⟩, hce, hcv, hcl, st⟩
  · cases hv
    obtain ⟨k1, k2, k3⟩ := vx_keep h0 e1 hS hA hf hL hF
    obtain ⟨t2, a1, b1⟩ := kk r u t T'.heap (locs ++ L) e1.symm (by rw [← e2]; exact X'.warmed.alike) hp hb k1 k2 k3 T' rfl X'
    exact ⟨t2, st t2 a1, b1⟩
  · obtain ⟨k1, k2, k3⟩ := vx_keep h0 e1 hS hAX hf hL hF
    obtain ⟨t2, a1, b1⟩ := kx E ce q u t T'.heap (locs ++ L) e1.symm (by rw [← e2]; exact X'.warmed.alike) hp hb k1 k2 k3 (by rw [e1]; exact hce) hcv hcl T' rfl X'
    exact ⟨t2, st.trans a1, b1⟩
theorem vx_callf {S SX : Type} {post : UInt32 → S → Prop} {px : SX → Prop} {B : S → State → Prop} {BX : String → SX → State → Prop} {AX : Nat → Prop} (hr : vx_Run p l e R s m args below meth c H locs cells slots mc ms (F0 m pc ls st0) rest (va_Qf post B A1 a) (vx_X px BX AX) free) (hS : va_S A0 H0 H locs) (hA : ∀ q, q < H.size → A1 q → A0 q) (hf : ∀ q, free q → A0 q) (hAX : ∀ q, q < H.size → AX q → A0 q)
    (kx : ∀ (E : String) (ce : Cell) (q9 : Addr) (u : SX) (t : State) (H1 : Heap) (locs1 : List Loc), t.heap = H1 → s.vm.Alike t.vm → px u → BX E u t → H.size ≤ H1.size → (∀ q : Nat, q < H.size → ¬ AX q → H1[q]? = H[q]?) → va_S A0 H0 H1 locs1 → H1[q9]? = some ce → ce.vm = .none → s.vm.findClass E = some ce.cls → vx_W p l e R s m args below meth c H1 locs1 (cells + mc) (slots + ms) Q (F0 m pc ls rest) q9)
    (kk : ∀ (r : UInt32) (u : S) (t : State) (H1 : Heap) (locs1 : List Loc), t.heap = H1 → s.vm.Alike t.vm → post r u → B u t → H.size ≤ H1.size → (∀ q : Nat, q < H.size → ¬ A1 q → H1[q]? = H[q]?) → va_S A0 H0 H1 locs1 → W p l e R s m args below meth c H1 locs1 (cells + mc) (slots + ms) Q (F0 m (pc + 3) ls (.float r :: rest))) : W p l e R s m args below meth c H locs cells slots Q (F0 m pc ls st0) := by
  intro T hT X
  rcases hr T hT X with ⟨v, st₀, t, T', L, h0, X', hL, e1, e2, ⟨⟨r, u, hv, hp, hb⟩, hF⟩, st⟩ | ⟨q, st₀, t, T', L, E, ce, h0, X', hL, e1, e2, ⟨u, hp, hb, hF⟩, hce, hcv, hcl, st⟩
  · cases hv
    obtain ⟨k1, k2, k3⟩ := vx_keep h0 e1 hS hA hf hL hF
    obtain ⟨t2, a1, b1⟩ := kk r u t T'.heap (locs ++ L) e1.symm (by rw [← e2]; exact X'.warmed.alike) hp hb k1 k2 k3 T' rfl X'
    exact ⟨t2, st t2 a1, b1⟩
  · obtain ⟨k1, k2, k3⟩ := vx_keep h0 e1 hS hAX hf hL hF
    obtain ⟨t2, a1, b1⟩ := kx E ce q u t T'.heap (locs ++ L) e1.symm (by rw [← e2]; exact X'.warmed.alike) hp hb k1 k2 k3 (by rw [e1]; exact hce) hcv hcl T' rfl X'
    exact ⟨t2, st.trans a1, b1⟩
theorem vx_calld {S SX : Type} {post : UInt64 → S → Prop} {px : SX → Prop} {B : S → State → Prop} {BX : String → SX → State → Prop} {AX : Nat → Prop} (hr : vx_Run p l e R s m args below meth c H locs cells slots mc ms (F0 m pc ls st0) rest (va_Qd post B A1 a) (vx_X px BX AX) free) (hS : va_S A0 H0 H locs) (hA : ∀ q, q < H.size → A1 q → A0 q) (hf : ∀ q, free q → A0 q) (hAX : ∀ q, q < H.size → AX q → A0 q)
    (kx : ∀ (E : String) (ce : Cell) (q9 : Addr) (u : SX) (t : State) (H1 : Heap) (locs1 : List Loc), t.heap = H1 → s.vm.Alike t.vm → px u → BX E u t → H.size ≤ H1.size → (∀ q : Nat, q < H.size → ¬ AX q → H1[q]? = H[q]?) → va_S A0 H0 H1 locs1 → H1[q9]? = some ce → ce.vm = .none → s.vm.findClass E = some ce.cls → vx_W p l e R s m args below meth c H1 locs1 (cells + mc) (slots + ms) Q (F0 m pc ls rest) q9)
    (kk : ∀ (r : UInt64) (u : S) (t : State) (H1 : Heap) (locs1 : List Loc), t.heap = H1 → s.vm.Alike t.vm → post r u → B u t → H.size ≤ H1.size → (∀ q : Nat, q < H.size → ¬ A1 q → H1[q]? = H[q]?) → va_S A0 H0 H1 locs1 → W p l e R s m args below meth c H1 locs1 (cells + mc) (slots + ms) Q (F0 m (pc + 3) ls (.double r :: rest))) : W p l e R s m args below meth c H locs cells slots Q (F0 m pc ls st0) := by
  intro T hT X
  rcases hr T hT X with ⟨v, st₀, t, T', L, h0, X', hL, e1, e2, ⟨⟨r, u, hv, hp, hb⟩, hF⟩, st⟩ | ⟨q, st₀, t, T', L, E, ce, h0, X', hL, e1, e2, ⟨u, hp, hb, hF⟩, hce, hcv, hcl, st⟩
  · cases hv
    obtain ⟨k1, k2, k3⟩ := vx_keep h0 e1 hS hA hf hL hF
    obtain ⟨t2, a1, b1⟩ := kk r u t T'.heap (locs ++ L) e1.symm (by rw [← e2]; exact X'.warmed.alike) hp hb k1 k2 k3 T' rfl X'
    exact ⟨t2, st t2 a1, b1⟩
  · obtain ⟨k1, k2, k3⟩ := vx_keep h0 e1 hS hAX hf hL hF
    obtain ⟨t2, a1, b1⟩ := kx E ce q u t T'.heap (locs ++ L) e1.symm (by rw [← e2]; exact X'.warmed.alike) hp hb k1 k2 k3 (by rw [e1]; exact hce) hcv hcl T' rfl X'
    exact ⟨t2, st.trans a1, b1⟩
theorem vx_callv {S SX : Type} {post : S → Prop} {px : SX → Prop} {B : S → State → Prop} {BX : String → SX → State → Prop} {AX : Nat → Prop} (hr : vx_Run p l e R s m args below meth c H locs cells slots mc ms (F0 m pc ls st0) rest (va_Qv post B A1 a) (vx_X px BX AX) free) (hS : va_S A0 H0 H locs) (hA : ∀ q, q < H.size → A1 q → A0 q) (hf : ∀ q, free q → A0 q) (hAX : ∀ q, q < H.size → AX q → A0 q)
    (kx : ∀ (E : String) (ce : Cell) (q9 : Addr) (u : SX) (t : State) (H1 : Heap) (locs1 : List Loc), t.heap = H1 → s.vm.Alike t.vm → px u → BX E u t → H.size ≤ H1.size → (∀ q : Nat, q < H.size → ¬ AX q → H1[q]? = H[q]?) → va_S A0 H0 H1 locs1 → H1[q9]? = some ce → ce.vm = .none → s.vm.findClass E = some ce.cls → vx_W p l e R s m args below meth c H1 locs1 (cells + mc) (slots + ms) Q (F0 m pc ls rest) q9)
    (kk : ∀ (u : S) (t : State) (H1 : Heap) (locs1 : List Loc), t.heap = H1 → s.vm.Alike t.vm → post u → B u t → H.size ≤ H1.size → (∀ q : Nat, q < H.size → ¬ A1 q → H1[q]? = H[q]?) → va_S A0 H0 H1 locs1 → W p l e R s m args below meth c H1 locs1 (cells + mc) (slots + ms) Q (F0 m (pc + 3) ls (rest))) : W p l e R s m args below meth c H locs cells slots Q (F0 m pc ls st0) := by
  intro T hT X
  rcases hr T hT X with ⟨v, st₀, t, T', L, h0, X', hL, e1, e2, ⟨⟨u, hv, hp, hb⟩, hF⟩, st⟩ | ⟨q, st₀, t, T', L, E, ce, h0, X', hL, e1, e2, ⟨u, hp, hb, hF⟩, hce, hcv, hcl, st⟩
  · cases hv
    obtain ⟨k1, k2, k3⟩ := vx_keep h0 e1 hS hA hf hL hF
    obtain ⟨t2, a1, b1⟩ := kk u t T'.heap (locs ++ L) e1.symm (by rw [← e2]; exact X'.warmed.alike) hp hb k1 k2 k3 T' rfl X'
    exact ⟨t2, st t2 a1, b1⟩
  · obtain ⟨k1, k2, k3⟩ := vx_keep h0 e1 hS hAX hf hL hF
    obtain ⟨t2, a1, b1⟩ := kx E ce q u t T'.heap (locs ++ L) e1.symm (by rw [← e2]; exact X'.warmed.alike) hp hb k1 k2 k3 (by rw [e1]; exact hce) hcv hcl T' rfl X'
    exact ⟨t2, st.trans a1, b1⟩
/-- caught by the row x of this method's table; the rows ahead don't take it -/
theorem vx_catch {own name : String} {E : String} {ce : Cell} {q : Addr} (hown : s.vm.findClass own = some m.cls) (pre : List ExceptionTableEntry) (x : ExceptionTableEntry) (suf : List ExceptionTableEntry) (hsplit : c.exceptionTable.toList = pre ++ x :: suf)
    (hpass : ∀ z ∈ pre, covers z pc = false ∨ (z.catchType ≠ 0 ∧ ∃ nm : String, (Cond.classLink own z.catchType nm).before args s = true ∧ va_Nc E nm s)) (hx : covers x pc = true) (h0 : x.catchType ≠ 0)
    (hlink : (Cond.classLink own x.catchType name).before args s = true) (hcast : (Cond.castable E name).before args s = true) (hcell : H[q]? = some ce) (hv : ce.vm = .none) (hcl : s.vm.findClass E = some ce.cls)
    (kk : W p l e R s m args below meth c H locs cells slots Q (F0 m x.handlerPc ls [.ref q])) : vx_W p l e R s m args below meth c H locs cells slots Q (F0 m pc ls rest) q := by
  intro T hT X
  have hpl : e.platform.magicAccessors = ({} : Platform).magicAccessors := by rw [X.admits.platform]
  obtain ⟨c3, c4, hc3, hc4, hasg⟩ := Cond.castable_spec hcast
  cases Option.some.inj (hc3.symm.trans hcl)
  obtain ⟨c5, hc5, hcl5⟩ := Cond.classLink_spec hown hlink e.platform hpl
  cases Option.some.inj (hc4.symm.trans hc5)
  obtain ⟨vm', X', st⟩ := X.thenCaughtThrough q (g := F0 m pc ls rest) rfl (Steps.refl _) (by rw [hT]; exact hcell) (by rw [hv]; rfl) (by obtain ⟨k9, h9, -⟩ := Vm.findClass_spec hcl; exact ⟨k9, h9⟩) pre x suf hsplit
    (fun z hz => by
      rcases hpass z hz with h | ⟨hz0, nm, hl1, hn1⟩
      · exact Or.inl h
      · obtain ⟨c6, hc6, hcl6⟩ := Cond.classLink_spec hown hl1 e.platform hpl
        obtain ⟨a8, b8, h1, h2, h3⟩ := hn1
        cases Option.some.inj (h1.symm.trans hcl)
        cases Option.some.inj (h2.symm.trans hc6)
        exact Or.inr ⟨hz0, _, hcl6, h3⟩) hx (Or.inr ⟨h0, c4, hcl5, hasg⟩)
  obtain ⟨t, a1, b1⟩ := kk (T.setVm vm') hT X'
  exact ⟨t, st.trans a1, b1⟩
end Rows
section Ends
variable {p : Program} {l : Launch} {e : Env} {R : Room} {s : State} {m : MethodId} {args : Array Value} {below : List Frame} {meth : Method} {c : Code} {H : Heap} {locs : List Loc} {cells slots : Nat} {Q : State → Prop}
variable {mc ms : Nat} {free : Addr → Prop} {A0 A1 : Nat → Prop} {H0 : Heap} {a : Array Value} {ls : Array Slot} {st0 rest : List Value}
variable {Qc : Array Value → State → Outcome → State → Prop} {XC : String → State → State → Prop}
/-- what a body that may throw owes at its end -/
def vx_MQ (below : List Frame) (Qc : Array Value → State → Outcome → State → Prop) (XC : String → State → State → Prop) (a : Array Value) (s : State) (mc ms : Nat) (free : Addr → Prop) : State → Prop := fun t =>
  ∃ o, t.status = .running ∧ Ended t below o ∧ vx_Q Qc XC mc ms free a s o t
theorem vx_ret {g : JFrame} {mc ms : Nat} (k : W p l e R s m args below meth c H locs cells slots (MQ below Qc args s mc ms free) g) : W p l e R s m args below meth c H locs cells slots (vx_MQ below Qc XC args s mc ms free) g := by
  intro T hT X
  obtain ⟨t, a1, o, b1, b2, b3, b4⟩ := k T hT X
  exact ⟨t, a1, o, b1, b2, Or.inl ⟨b3, b4⟩⟩
/-- not caught here: it goes on to the caller -/
theorem vx_widen {g : JFrame} {q : Addr} {k n : Nat} (h1 : cells ≤ k) (h2 : slots ≤ n) (kk : vx_W p l e R s m args below meth c H locs k n Q g q) : vx_W p l e R s m args below meth c H locs cells slots Q g q := fun T hT X => kk T hT (stand_widen X h1 h2)
theorem vx_out {pc : Nat} {E : String} {ce : Cell} {q : Addr} {mc ms : Nat} (hout : ∀ x ∈ c.exceptionTable.toList, covers x pc = false) (hlocks : meth.locks = false) (hcell : H[q]? = some ce) (hv : ce.vm = .none) (hcl : s.vm.findClass E = some ce.cls)
    (hx : ∀ t : State, t.heap = H → s.vm.Alike t.vm → XC E s t) (hf : ∀ z ∈ locs, free z.base) (hc : cells ≤ mc) (hs : slots ≤ ms) :
    vx_W p l e R s m args below meth c H locs cells slots (vx_MQ below Qc XC args s mc ms free) (F0 m pc ls rest) q := by
  intro T hT X
  obtain ⟨st1, hrun, hend, hW, hsm⟩ := X.leaveThrown q (g := F0 m pc ls rest) rfl rfl rfl hout hlocks
  have hcell9 : (T.setFrames (.throwing q :: below)).heap[q]? = some ce := by
    show T.heap[q]? = some ce
    rw [hT]; exact hcell
  exact ⟨_, st1, .threw q, hrun, hend, Or.inr ⟨q, rfl, E, ce, locs, hx _ hT hW.alike, hcell9, hv, hcl, hW, hsm.mono hc hs, hf⟩⟩
theorem vx_frame {U : State} {k n : Nat} (h : s.sameButNew ({ U with vm := s.vm } : State) locs k n) : s.heap.size ≤ U.heap.size ∧ ∀ q : Nat, q < s.heap.size → (∀ z ∈ locs, z.base ≠ q) → U.heap[q]? = s.heap[q]? := by
  obtain ⟨-, h2, -, -, -, h6⟩ := h
  refine ⟨h2, fun q hq hz => ?_⟩
  obtain ⟨c9, e1, e2, e3, e4⟩ := h6 q _ (Array.getElem?_eq_getElem hq)
  have hs : c9.slots = (s.heap[q]).slots := Array.ext_getElem? fun i => e4 i fun hm => hz _ hm rfl
  have h9 : c9 = s.heap[q] := by
    rw [hs] at e2
    exact e2
  have e5 : U.heap[q]? = some c9 := e1
  rw [e5, h9, Array.getElem?_eq_getElem hq]
/-- the words of a throw but the four that speak of the heap -/
def vx_no (w : Cond) : Bool := decide (w ≠ .isRef (.static Bundle.tN "UNASSIGNED_STACK" Bundle.steD)) && decide (w ≠ .isRef (.static Bundle.tN "SUPPRESSED_SENTINEL" Bundle.listD)) && decide (w ≠ .laysStatic Bundle.tN "UNASSIGNED_STACK" Bundle.steD) && decide (w ≠ .laysStatic Bundle.tN "SUPPRESSED_SENTINEL" Bundle.listD)
def vx_at0 (own : String) (ic : Nat) (X : String) (names : List String) : List Cond := (Bundle.ownAtoms0 own ic X names).filter vx_no
def vx_atS (own : String) (ic : Nat) (X : String) (names : List String) : List Cond := (Bundle.ownAtoms own ic X names).filter vx_no
/-- a word that the tables alone decide, or a good one -/
def vx_ot (w : Cond) : Bool := w.onTables || goodWord w
theorem vx_ot_at {args a' : Array Value} {s U : State} {w : Cond} (hW : s.WarmedH U.vm) (hvm : s.vm = U.vm) (hg : vx_ot w = true) (h : w.before args s = true) : w.before a' U = true := by
  simp only [vx_ot, Bool.or_eq_true] at hg
  rcases hg with hg | hg
  · exact va_tabs hg hvm h
  · exact word_at hW (good_of_word hg) h
/-- a list's words: the good ones out of the method's own list, the others by premises of their own -/
theorem vx_hat {args : Array Value} {s : State} {L B : List Cond} (h1 : ∀ w ∈ L.filter goodWord, w.before args s = true) (h2 : ∀ w ∈ L.filter (fun w => !goodWord w), w ∈ B) (h3 : ∀ w ∈ B, w.before args s = true) : ∀ w ∈ L, w.before args s = true := by
  intro w hw
  by_cases g : goodWord w = true
  · exact h1 w (List.mem_filter.mpr ⟨hw, g⟩)
  · refine h3 w (h2 w (List.mem_filter.mpr ⟨hw, ?_⟩))
    show (!goodWord w) = true
    cases hgw : goodWord w
    · rfl
    · exact absurd hgw g
theorem vx_c {args : Array Value} {s : State} {w : Cond} {B : List Cond} (h : w.before args s = true) (t : ∀ w ∈ B, w.before args s = true) : ∀ w' ∈ w :: B, w'.before args s = true := fun w' h' => (List.mem_cons.mp h').elim (fun e => by rw [e]; exact h) (t w')
theorem vx_n {args : Array Value} {s : State} : ∀ w ∈ ([] : List Cond), w.before args s = true := fun _ h => nomatch h
theorem vx_own {args : Array Value} {s : State} {L : List Cond} (h1 : ∀ w ∈ L.filter vx_no, w.before args s = true)
    (hU : (Cond.isRef (.static Bundle.tN "UNASSIGNED_STACK" Bundle.steD)).before args s = true) (hN : (Cond.isRef (.static Bundle.tN "SUPPRESSED_SENTINEL" Bundle.listD)).before args s = true)
    (lU : (Cond.laysStatic Bundle.tN "UNASSIGNED_STACK" Bundle.steD).before args s = true) (lN : (Cond.laysStatic Bundle.tN "SUPPRESSED_SENTINEL" Bundle.listD).before args s = true) : ∀ w ∈ L, w.before args s = true := by
  intro w hw
  by_cases e1 : w = .isRef (.static Bundle.tN "UNASSIGNED_STACK" Bundle.steD)
  · rw [e1]; exact hU
  · by_cases e2 : w = .isRef (.static Bundle.tN "SUPPRESSED_SENTINEL" Bundle.listD)
    · rw [e2]; exact hN
    · by_cases e3 : w = .laysStatic Bundle.tN "UNASSIGNED_STACK" Bundle.steD
      · rw [e3]; exact lU
      · by_cases e4 : w = .laysStatic Bundle.tN "SUPPRESSED_SENTINEL" Bundle.listD
        · rw [e4]; exact lN
        · exact h1 w (List.mem_filter.mpr ⟨hw, by unfold vx_no; rw [decide_eq_true e1, decide_eq_true e2, decide_eq_true e3, decide_eq_true e4]; rfl⟩)
/-- where a static field lies, its class's statics cell in H -/
def vx_L (C n d : String) (A : Nat → Prop) (U : State) (H : Heap) : Prop := ∃ (c : ClassId) (k : Class) (i : Nat) (f : Field) (a : Nat) (cell : Cell), U.vm.findClass C = some c ∧ U.fieldFound? C n d = some (c, k, i, f) ∧ f.isStatic = true ∧ k.statics = some a ∧ H[a]? = some cell ∧ cell.vm.isStatics = true ∧ cell.cls = c ∧ f.slot < cell.slots.size ∧ k.staticTypes[f.slot]? = some f.type ∧ ¬ A a
theorem vx_L.moved {C n d : String} {A : Nat → Prop} {u U : State} {H : Heap} (hvm : u.vm.Alike U.vm) (h : vx_L C n d A u H) : vx_L C n d A U H := by
  obtain ⟨c, k, i, f, a, cell, h1, h2, h3, h4, h5, h6, h7, h8, h9, h10⟩ := h
  obtain ⟨k', hi', he⟩ := State.fieldFound?_setVm hvm h2
  exact ⟨c, k', i, f, a, cell, by rw [hvm.findClass]; exact h1, hi', h3, by rw [he]; exact h4, h5, h6, h7, h8, by rw [he]; exact h9, h10⟩
theorem vx_L.kept {C n d : String} {A : Nat → Prop} {U : State} {H H1 : Heap} (h : vx_L C n d A U H) (hq : ∀ a : Nat, a < H.size → ¬ A a → H1[a]? = H[a]?) : vx_L C n d A U H1 := by
  obtain ⟨c, k, i, f, a, cell, h1, h2, h3, h4, h5, h6, h7, h8, h9, h10⟩ := h
  exact ⟨c, k, i, f, a, cell, h1, h2, h3, h4, by rw [hq a (Array.getElem?_eq_some_iff.mp h5).1 h10]; exact h5, h6, h7, h8, h9, h10⟩
theorem vx_L.narrow {C n d : String} {A B : Nat → Prop} {U : State} {H : Heap} (h : vx_L C n d A U H) (hAB : ∀ q, B q → A q) : vx_L C n d B U H := by
  obtain ⟨c, k, i, f, a, cell, h1, h2, h3, h4, h5, h6, h7, h8, h9, h10⟩ := h
  exact ⟨c, k, i, f, a, cell, h1, h2, h3, h4, h5, h6, h7, h8, h9, fun z => h10 (hAB _ z)⟩
theorem vx_L.word {C n d : String} {A : Nat → Prop} {s : State} {args : Array Value} (h : vx_L C n d A s s.heap) : (Cond.laysStatic C n d).before args s = true := by
  obtain ⟨c, k, i, f, a, cell, h1, h2, h3, h4, h5, h6, h7, h8, h9, -⟩ := h
  show (Cond.laysStatic C n d).holds args s none s [] = true
  exact Cond.laysStatic_of h1 h2 h3 h4 h5 h6 h7 h8 h9
/-- .. and what it holds: null or some reference -/
def vx_Zq (C n d : String) (A : Nat → Prop) (U : State) (H : Heap) : Prop := va_Zq C n d A U H ∧ vx_L C n d A U H
theorem vx_Zq.moved {C n d : String} {A : Nat → Prop} {u U : State} {H : Heap} (hvm : u.vm.Alike U.vm) (h : vx_Zq C n d A u H) : vx_Zq C n d A U H := ⟨va_Zq.moved hvm h.1, vx_L.moved hvm h.2⟩
theorem vx_Zq.kept {C n d : String} {A : Nat → Prop} {U : State} {H H1 : Heap} (h : vx_Zq C n d A U H) (hq : ∀ a : Nat, a < H.size → ¬ A a → H1[a]? = H[a]?) : vx_Zq C n d A U H1 := ⟨va_Zq.kept h.1 hq, vx_L.kept h.2 hq⟩
theorem vx_Zq.narrow {C n d : String} {A B : Nat → Prop} {U : State} {H : Heap} (h : vx_Zq C n d A U H) (hAB : ∀ q, B q → A q) : vx_Zq C n d B U H := ⟨va_Zq.narrow h.1 hAB, vx_L.narrow h.2 hAB⟩
theorem vx_Zqof {args : Array Value} {s : State} {C n d : String} {A : Nat → Prop} (hl : (Cond.laysStatic C n d).before args s = true) (hini : (Cond.initialized C).before args s = true) (h : (Cond.isRef (.static C n d)).before args s = true) (hA : ∀ a : Nat, a < s.heap.size → ¬ A a) : vx_Zq C n d A s s.heap := by
  refine ⟨va_Zqof hl hini h hA, ?_⟩
  obtain ⟨c, k, i, f, a, cell, h1, h2, h3, h4, h5, h6, h7, h8, h9⟩ := Cond.laysStatic_spec hl
  exact ⟨c, k, i, f, a, cell, h1, h2, h3, h4, h5, h6, h7, h8, h9, hA a (Array.getElem?_eq_some_iff.mp h5).1⟩
theorem vx_isRef {C n d : String} {v : Value} {A : Nat → Prop} {s : State} {args : Array Value} (h : va_Z C n d v A s s.heap) (hv : v.isRef = true) : (Cond.isRef (.static C n d)).before args s = true := by
  obtain ⟨cf, kf, fi, f, a, cell, h1, h2, h3, h4, h5, h6, h7, -⟩ := h
  have he : (Term.static C n d).eval args s none [] s = some v := by
    simp [Term.eval, State.fieldNamed?, h1, h2, h4, h5, h6, h7]
  simp only [Cond.before, Cond.holds, Cond.value, he]
  cases v <;> simp_all [Value.isRef]
theorem vx_isRefq {C n d : String} {A : Nat → Prop} {s : State} {args : Array Value} (h : va_Zq C n d A s s.heap) : (Cond.isRef (.static C n d)).before args s = true := by
  rcases h with h | ⟨t, h⟩
  · exact vx_isRef h rfl
  · exact vx_isRef h rfl
/-- the same frame, seen from here: as if the method were called anew in this heap -/
theorem vx_rebase {T : State} (X : Stand p l e R s m args below meth c T locs cells slots) {R' : Room} (hf : R'.frames ≤ R.frames) (hl : R'.locals ≤ R.locals) (hc : cells + R'.cells ≤ R.cells) (hs : slots + R'.slots ≤ R.slots) :
    Stand p l e R' ((T.setVm s.vm).setFrames (.invoking m args :: below)) m args below meth c T [] 0 0 := by
  have htop : (T.setVm s.vm).topJava?.isSome := X.here.top
  have hF : ((T.setVm s.vm).setFrames (.invoking m args :: below)).frames = .invoking m args :: below := State.frames_setFrames _ (State.cur_lt_of_top htop)
  obtain ⟨g₀, hg0⟩ := Option.isSome_iff_exists.mp htop
  obtain ⟨r, hr⟩ := State.topJava?_eq_some.mp hg0
  have hl9 : e.platform.stackLimits (T.setVm s.vm).me = e.platform.stackLimits s.me := X.limits
  have hb9 : (T.setVm s.vm).me.stackBytes = s.me.stackBytes := X.bytes
  refine ⟨X.admits, X.cas, X.clock, hF, ?_, X.hears, X.method, X.code, X.here, X.tail, X.warmed, ?_, ?_, ?_⟩
  · have h := X.room
    have hU : ((T.setVm s.vm).setFrames (.invoking m args :: below)).localsInUse = s.localsInUse := by
      rw [State.localsInUse_invoking hF (meth := meth) (c := c) X.method X.code, State.localsInUse_invoking X.frames X.method X.code]
    simp only [State.hasRoom, Bool.and_eq_true, decide_eq_true_eq] at h ⊢
    obtain ⟨⟨⟨⟨h1, h2, h3, h4, h5, h6⟩, h7⟩, h8⟩, h9⟩ := h
    rw [X.frames, List.length_cons] at h2 h3
    have q1 := X.heapSize
    have q2 := X.used
    simp only [hF, hU, List.length_cons, State.stackLimits_setFrames, State.stackBytes_setFrames, hl9, hb9]
    refine ⟨⟨⟨⟨by omega, by omega, by omega, by omega, by omega, h6⟩, ?_⟩, ?_⟩, X.book⟩
    · show T.heap.size + R'.cells ≤ e.platform.maxCells
      omega
    · show T.slotsUsed + R'.slots ≤ e.platform.maxSlots
      omega
  · rw [State.stackLimits_setFrames]; rfl
  · rw [State.stackBytes_setFrames]; rfl
  · refine ⟨?_, Nat.le_refl _, Nat.le_refl _, ?_, ?_, fun a c9 h9 => ⟨c9, h9, rfl, rfl, fun _ _ => rfl⟩⟩
    · obtain ⟨t, ht, -⟩ := State.frames_cons hr
      show T.setVm s.vm = { ((T.setVm s.vm).setFrames (.invoking m args :: below)).setFrames (T.setVm s.vm).frames with heap := T.heap, slotsUsed := T.slotsUsed }
      rw [State.setFrames_setFrames, State.setFrames_self ht]
      rfl
    · show T.slotsUsed = T.slotsUsed + ((T.heap.toList.drop T.heap.size).map (·.slots.size)).sum
      rw [List.drop_eq_nil_of_le (Nat.le_of_eq Array.length_toList)]
      rfl
    · show ((T.heap.toList.drop T.heap.size).map (·.slots.size)).sum ≤ 0
      rw [List.drop_eq_nil_of_le (Nat.le_of_eq Array.length_toList)]
      exact Nat.le_refl _
/-- 'throw new E()': new; dup; invokespecial; athrow -/
theorem vx_throw0 {cc : ByteArray} {pc : Nat} (hexec : p.tables.exec = Jvm.exec) (hb : c.code = cc) (hl : l.stackTraces = false) {own cls : String} {names : List String} {ik ic mc ms : Nat} {A : Nat → Prop}
    (hown : s.vm.findClass own = some m.cls) (hcls : Bundle.fit cls = true) (hnames : ∀ n ∈ names, Bundle.fit n = true)
    (hk : (Cond.classLink own ik cls).before args s = true) (hini : (Cond.initialized cls).before args s = true) (hat : ∀ w ∈ vx_at0 own ic cls names, w.before args s = true)
    (hgood : ∀ w ∈ Cond.classLink own ik cls :: Cond.initialized cls :: vx_at0 own ic cls names, vx_ot w = true)
    (hU : vx_Zq Bundle.tN "UNASSIGNED_STACK" Bundle.steD A s s.heap) (hN : vx_Zq Bundle.tN "SUPPRESSED_SENTINEL" Bundle.listD A s s.heap) (hS : va_S A s.heap H locs) (hsize : ls.size = c.maxLocals)
    (d0 : decode cc pc = .ok (.new ik, 3)) (d3 : decode cc (pc + 3) = .ok (.dup, 1)) (d4 : decode cc (pc + 4) = .ok (.invokespecial ic, 3)) (d7 : decode cc (pc + 7) = .ok (.athrow, 1))
    (hout : ∀ x ∈ c.exceptionTable.toList, covers x (pc + 7) = false)
    (hRframes : names.length + 3 < R.frames) (hRlocals : (rest.map fun v => v.category).sum + (13 * (names.length + 1) + 42) ≤ R.locals) (hRcells : cells + 1 ≤ R.cells) (hRslots : slots + 6 ≤ R.slots) (hlocks : meth.locks = false)
    (hx : ∀ t : State, s.vm.Alike t.vm → H.size ≤ t.heap.size → (∀ q : Nat, q < H.size → t.heap[q]? = H[q]?) → XC cls s t)
    (hf : ∀ z ∈ locs, free z.base) (hc : cells + 1 ≤ mc) (hs : slots + 6 ≤ ms) :
    W p l e R s m args below meth c H locs cells slots (vx_MQ below Qc XC args s mc ms free) (F0 m pc ls rest) := by
  intro T hT X
  have htr : e.platform.stackTraces = false := (show e.platform.stackTraces = l.stackTraces by rw [X.admits.platform]).trans hl
  have Y := vx_rebase X (R' := { frames := R.frames, locals := R.locals, cells := 1, slots := 6 }) (Nat.le_refl _) (Nat.le_refl _) hRcells hRslots
  obtain ⟨s', hA⟩ : ∃ z, z = (T.setVm s.vm).setFrames (.invoking m args :: below) := ⟨_, rfl⟩
  rw [← hA] at Y
  have hvm : s'.vm = s.vm := by rw [hA]; rfl
  have hhp : s'.heap = H := by rw [hA]; exact hT
  have hW0 : s.WarmedH s'.vm := by rw [hvm]; exact State.WarmedH.refl s
  have hat' : ∀ w ∈ vx_at0 own ic cls names, w.before args s' = true := fun w hw => vx_ot_at hW0 hvm.symm (hgood w (List.mem_cons_of_mem _ (List.mem_cons_of_mem _ hw))) (hat w hw)
  have hk' : (Cond.classLink own ik cls).before args s' = true := vx_ot_at hW0 hvm.symm (hgood _ List.mem_cons_self) hk
  have hini' : (Cond.initialized cls).before args s' = true := vx_ot_at hW0 hvm.symm (hgood _ (List.mem_cons_of_mem _ List.mem_cons_self)) hini
  have hU' : vx_Zq Bundle.tN "UNASSIGNED_STACK" Bundle.steD A s' s'.heap := by rw [hhp]; exact vx_Zq.moved hW0.alike (hU.kept hS.2.1)
  have hN' : vx_Zq Bundle.tN "SUPPRESSED_SENTINEL" Bundle.listD A s' s'.heap := by rw [hhp]; exact vx_Zq.moved hW0.alike (hN.kept hS.2.1)
  have h : ∀ w ∈ Bundle.ownAtoms0 own ic cls names, w.before args s' = true := vx_own hat' (vx_isRefq hU'.1) (vx_isRefq hN'.1) hU'.2.word hN'.2.word
  have hown' : s'.vm.findClass own = some m.cls := by rw [hvm]; exact hown
  have hins : (Cond.instantiable cls 6).before args s' = true := h _ (by simp [Bundle.ownAtoms0])
  obtain ⟨vm₁, cX, kX, hfX, hkX, -, -, X₁, st1⟩ := Y.newCold hexec (own := own) (C := cls) (index := ik) (n := 6) hown' hk' hins hini'
    (g := F0 m pc ls rest) rfl (by rw [hb]; exact d0) (Nat.le_refl _) (Nat.le_refl _)
  generalize hT1 : (T.setVm vm₁).pushCell { cls := cX, slots := kX.instanceTypes.map defaultValue, vm := .none } = T1 at X₁ st1
  have hcat : (Value.ref T.heap.size).category = 1 := rfl
  have hcellA : T1.heap[T.heap.size]? = some (freshCell cX kX) := by rw [← hT1]; exact State.heap_pushCell_size _ _
  have d3' : decode c.code (pc + 3) = .ok (.dup, 1) := by rw [hb]; exact d3
  obtain ⟨U, hsteps, hrun, hend, hW, hsame, ce, hce, hO⟩ := X₁.ctorThrow0 hexec htr (own := own) (cls := cls) (names := names) (ic := ic) hown' hcls hnames h (fun x hx => nomatch hx) hfX hkX hcellA (by rw [hhp, hT]; exact Nat.le_refl _)
    (g := { method := m, pc := pc + 4, locals := ls, stack := .ref T.heap.size :: .ref T.heap.size :: rest, locked := none }) rfl hsize rfl rfl (rest := rest) rfl
    (by rw [hb]; exact d4) (by rw [hb]; exact d7) hout hRframes (by simp only [List.map_cons, List.sum_cons, hcat]; omega) hlocks
  obtain ⟨f1, f2⟩ := vx_frame hsame
  rw [hhp] at f1 f2
  have hWs : s.WarmedH U.vm := State.WarmedH.trans hW0 hW
  have hcl : s.vm.findClass cls = some ce.cls := by
    have h9 := hO.cls
    rw [hvm] at h9
    exact h9
  have hall : s.sameButNew ({ U with vm := s.vm } : State) locs mc ms := by
    subst hA
    obtain ⟨e1, e2⟩ := hsame
    rw [State.setFrames_setFrames] at e1
    have h2 : (T.setVm s.vm).sameButNew ({ U with vm := s.vm } : State) [] (0 + 1) (0 + 6) := ⟨e1, e2⟩
    have h3 := X.same.trans h2
    rw [List.append_nil] at h3
    exact h3.mono hc hs
  refine ⟨U, ?_, .threw T.heap.size, hrun, hend, Or.inr ⟨T.heap.size, rfl, cls, ce, locs, hx U hWs.alike f1 (fun q hq => f2 q hq (fun z hz => nomatch hz)), hce, hO.vm, hcl, hWs, hall, hf⟩⟩
  refine st1 _ ?_
  show Steps p.tables e below (T1.setTop { method := m, pc := pc + 3, locals := ls, stack := .ref T.heap.size :: rest, locked := none }) _
  jvm_step X₁.here [X₁.here.top, hexec, d3', Value.category]
  exact hsteps
/-- 'throw new E("text")': new; dup; ldc; invokespecial; athrow -/
theorem vx_throwS {cc : ByteArray} {pc : Nat} (hexec : p.tables.exec = Jvm.exec) (hb : c.code = cc) (hl : l.stackTraces = false) {own cls text : String} {names : List String} {ik is ic mc ms sa : Nat} {A : Nat → Prop}
    (hown : s.vm.findClass own = some m.cls) (hcls : Bundle.fit cls = true) (hnames : ∀ n ∈ names, Bundle.fit n = true)
    (hk : (Cond.classLink own ik cls).before args s = true) (hini : (Cond.initialized cls).before args s = true) (hstr : vk_R own is text sa s) (hat : ∀ w ∈ vx_atS own ic cls names, w.before args s = true)
    (hgood : ∀ w ∈ Cond.classLink own ik cls :: Cond.initialized cls :: vx_atS own ic cls names, vx_ot w = true)
    (hU : vx_Zq Bundle.tN "UNASSIGNED_STACK" Bundle.steD A s s.heap) (hN : vx_Zq Bundle.tN "SUPPRESSED_SENTINEL" Bundle.listD A s s.heap) (hS : va_S A s.heap H locs) (hsize : ls.size = c.maxLocals)
    (d0 : decode cc pc = .ok (.new ik, 3)) (d3 : decode cc (pc + 3) = .ok (.dup, 1)) (d4 : decode cc (pc + 4) = .ok (.ldc is, 2)) (d6 : decode cc (pc + 6) = .ok (.invokespecial ic, 3)) (d9 : decode cc (pc + 9) = .ok (.athrow, 1))
    (hout : ∀ x ∈ c.exceptionTable.toList, covers x (pc + 9) = false)
    (hRframes : names.length + 3 < R.frames) (hRlocals : (rest.map fun v => v.category).sum + (13 * (names.length + 1) + 43) ≤ R.locals) (hRcells : cells + 1 ≤ R.cells) (hRslots : slots + 6 ≤ R.slots) (hlocks : meth.locks = false)
    (hx : ∀ t : State, s.vm.Alike t.vm → H.size ≤ t.heap.size → (∀ q : Nat, q < H.size → t.heap[q]? = H[q]?) → XC cls s t)
    (hf : ∀ z ∈ locs, free z.base) (hc : cells + 1 ≤ mc) (hs : slots + 6 ≤ ms) :
    W p l e R s m args below meth c H locs cells slots (vx_MQ below Qc XC args s mc ms free) (F0 m pc ls rest) := by
  intro T hT X
  have htr : e.platform.stackTraces = false := (show e.platform.stackTraces = l.stackTraces by rw [X.admits.platform]).trans hl
  have Y := vx_rebase X (R' := { frames := R.frames, locals := R.locals, cells := 1, slots := 6 }) (Nat.le_refl _) (Nat.le_refl _) hRcells hRslots
  obtain ⟨s', hA⟩ : ∃ z, z = (T.setVm s.vm).setFrames (.invoking m args :: below) := ⟨_, rfl⟩
  rw [← hA] at Y
  have hvm : s'.vm = s.vm := by rw [hA]; rfl
  have hhp : s'.heap = H := by rw [hA]; exact hT
  have hW0 : s.WarmedH s'.vm := by rw [hvm]; exact State.WarmedH.refl s
  have hat' : ∀ w ∈ vx_atS own ic cls names, w.before args s' = true := fun w hw => vx_ot_at hW0 hvm.symm (hgood w (List.mem_cons_of_mem _ (List.mem_cons_of_mem _ hw))) (hat w hw)
  have hk' : (Cond.classLink own ik cls).before args s' = true := vx_ot_at hW0 hvm.symm (hgood _ List.mem_cons_self) hk
  have hini' : (Cond.initialized cls).before args s' = true := vx_ot_at hW0 hvm.symm (hgood _ (List.mem_cons_of_mem _ List.mem_cons_self)) hini
  have hU' : vx_Zq Bundle.tN "UNASSIGNED_STACK" Bundle.steD A s' s'.heap := by rw [hhp]; exact vx_Zq.moved hW0.alike (hU.kept hS.2.1)
  have hN' : vx_Zq Bundle.tN "SUPPRESSED_SENTINEL" Bundle.listD A s' s'.heap := by rw [hhp]; exact vx_Zq.moved hW0.alike (hN.kept hS.2.1)
  have h : ∀ w ∈ Bundle.ownAtoms own ic cls names, w.before args s' = true := vx_own hat' (vx_isRefq hU'.1) (vx_isRefq hN'.1) hU'.2.word hN'.2.word
  have hown' : s'.vm.findClass own = some m.cls := by rw [hvm]; exact hown
  have hins : (Cond.instantiable cls 6).before args s' = true := h _ (by simp [Bundle.ownAtoms])
  obtain ⟨vm₁, cX, kX, hfX, hkX, -, -, X₁, st1⟩ := Y.newCold hexec (own := own) (C := cls) (index := ik) (n := 6) hown' hk' hins hini'
    (g := F0 m pc ls rest) rfl (by rw [hb]; exact d0) (Nat.le_refl _) (Nat.le_refl _)
  generalize hT1 : (T.setVm vm₁).pushCell { cls := cX, slots := kX.instanceTypes.map defaultValue, vm := .none } = T1 at X₁ st1
  have hcat : (Value.ref T.heap.size).category = 1 := rfl
  have hcellA : T1.heap[T.heap.size]? = some (freshCell cX kX) := by rw [← hT1]; exact State.heap_pushCell_size _ _
  have d3' : decode c.code (pc + 3) = .ok (.dup, 1) := by rw [hb]; exact d3
  have d4' : decode c.code (pc + 4) = .ok (.ldc is, 2) := by rw [hb]; exact d4
  have hstr' : vk_R own is text sa s' := vk_R.warm hW0 hstr
  obtain ⟨U, hsteps, hrun, hend, hW, hsame, ce, hce, hO⟩ := X₁.ctorThrowS hexec htr (own := own) (cls := cls) (names := names) (ic := ic) hown' hcls hnames h (fun x hx => nomatch hx) hfX hkX hcellA (by rw [hhp, hT]; exact Nat.le_refl _) (msg := .ref sa) rfl
    (g := { method := m, pc := pc + 6, locals := ls, stack := .ref sa :: .ref T.heap.size :: .ref T.heap.size :: rest, locked := none }) rfl hsize rfl rfl (rest := rest) rfl
    (by rw [hb]; exact d6) (by rw [hb]; exact d9) hout hRframes (by simp only [List.map_cons, List.sum_cons, hcat]; omega) hlocks
  obtain ⟨f1, f2⟩ := vx_frame hsame
  rw [hhp] at f1 f2
  have hWs : s.WarmedH U.vm := State.WarmedH.trans hW0 hW
  have hcl : s.vm.findClass cls = some ce.cls := by
    have h9 := hO.cls
    rw [hvm] at h9
    exact h9
  have hall : s.sameButNew ({ U with vm := s.vm } : State) locs mc ms := by
    subst hA
    obtain ⟨e1, e2⟩ := hsame
    rw [State.setFrames_setFrames] at e1
    have h2 : (T.setVm s.vm).sameButNew ({ U with vm := s.vm } : State) [] (0 + 1) (0 + 6) := ⟨e1, e2⟩
    have h3 := X.same.trans h2
    rw [List.append_nil] at h3
    exact h3.mono hc hs
  refine ⟨U, ?_, .threw T.heap.size, hrun, hend, Or.inr ⟨T.heap.size, rfl, cls, ce, locs, hx U hWs.alike f1 (fun q hq => f2 q hq (fun z hz => nomatch hz)), hce, hO.vm, hcl, hWs, hall, hf⟩⟩
  refine st1 _ ?_
  show Steps p.tables e below (T1.setTop { method := m, pc := pc + 3, locals := ls, stack := .ref T.heap.size :: rest, locked := none }) _
  jvm_step X₁.here [X₁.here.top, hexec, d3', Value.category]
  exact X₁.ldcString hexec (own := own) (text := text) (index := is) (a := sa) hown' hstr'.1 hstr'.2
    (g := { method := m, pc := pc + 4, locals := ls, stack := .ref T.heap.size :: .ref T.heap.size :: rest, locked := none }) rfl d4' _ hsteps
/-- 'throw new E("text")', the text by a wide index -/
theorem vx_throwSW {cc : ByteArray} {pc : Nat} (hexec : p.tables.exec = Jvm.exec) (hb : c.code = cc) (hl : l.stackTraces = false) {own cls text : String} {names : List String} {ik is ic mc ms sa : Nat} {A : Nat → Prop}
    (hown : s.vm.findClass own = some m.cls) (hcls : Bundle.fit cls = true) (hnames : ∀ n ∈ names, Bundle.fit n = true)
    (hk : (Cond.classLink own ik cls).before args s = true) (hini : (Cond.initialized cls).before args s = true) (hstr : vk_R own is text sa s) (hat : ∀ w ∈ vx_atS own ic cls names, w.before args s = true)
    (hgood : ∀ w ∈ Cond.classLink own ik cls :: Cond.initialized cls :: vx_atS own ic cls names, vx_ot w = true)
    (hU : vx_Zq Bundle.tN "UNASSIGNED_STACK" Bundle.steD A s s.heap) (hN : vx_Zq Bundle.tN "SUPPRESSED_SENTINEL" Bundle.listD A s s.heap) (hS : va_S A s.heap H locs) (hsize : ls.size = c.maxLocals)
    (d0 : decode cc pc = .ok (.new ik, 3)) (d3 : decode cc (pc + 3) = .ok (.dup, 1)) (d4 : decode cc (pc + 4) = .ok (.ldc_w is, 3)) (d7 : decode cc (pc + 7) = .ok (.invokespecial ic, 3)) (d10 : decode cc (pc + 10) = .ok (.athrow, 1))
    (hout : ∀ x ∈ c.exceptionTable.toList, covers x (pc + 10) = false)
    (hRframes : names.length + 3 < R.frames) (hRlocals : (rest.map fun v => v.category).sum + (13 * (names.length + 1) + 43) ≤ R.locals) (hRcells : cells + 1 ≤ R.cells) (hRslots : slots + 6 ≤ R.slots) (hlocks : meth.locks = false)
    (hx : ∀ t : State, s.vm.Alike t.vm → H.size ≤ t.heap.size → (∀ q : Nat, q < H.size → t.heap[q]? = H[q]?) → XC cls s t)
    (hf : ∀ z ∈ locs, free z.base) (hc : cells + 1 ≤ mc) (hs : slots + 6 ≤ ms) :
    W p l e R s m args below meth c H locs cells slots (vx_MQ below Qc XC args s mc ms free) (F0 m pc ls rest) := by
  intro T hT X
  have htr : e.platform.stackTraces = false := (show e.platform.stackTraces = l.stackTraces by rw [X.admits.platform]).trans hl
  have Y := vx_rebase X (R' := { frames := R.frames, locals := R.locals, cells := 1, slots := 6 }) (Nat.le_refl _) (Nat.le_refl _) hRcells hRslots
  obtain ⟨s', hA⟩ : ∃ z, z = (T.setVm s.vm).setFrames (.invoking m args :: below) := ⟨_, rfl⟩
  rw [← hA] at Y
  have hvm : s'.vm = s.vm := by rw [hA]; rfl
  have hhp : s'.heap = H := by rw [hA]; exact hT
  have hW0 : s.WarmedH s'.vm := by rw [hvm]; exact State.WarmedH.refl s
  have hat' : ∀ w ∈ vx_atS own ic cls names, w.before args s' = true := fun w hw => vx_ot_at hW0 hvm.symm (hgood w (List.mem_cons_of_mem _ (List.mem_cons_of_mem _ hw))) (hat w hw)
  have hk' : (Cond.classLink own ik cls).before args s' = true := vx_ot_at hW0 hvm.symm (hgood _ List.mem_cons_self) hk
  have hini' : (Cond.initialized cls).before args s' = true := vx_ot_at hW0 hvm.symm (hgood _ (List.mem_cons_of_mem _ List.mem_cons_self)) hini
  have hU' : vx_Zq Bundle.tN "UNASSIGNED_STACK" Bundle.steD A s' s'.heap := by rw [hhp]; exact vx_Zq.moved hW0.alike (hU.kept hS.2.1)
  have hN' : vx_Zq Bundle.tN "SUPPRESSED_SENTINEL" Bundle.listD A s' s'.heap := by rw [hhp]; exact vx_Zq.moved hW0.alike (hN.kept hS.2.1)
  have h : ∀ w ∈ Bundle.ownAtoms own ic cls names, w.before args s' = true := vx_own hat' (vx_isRefq hU'.1) (vx_isRefq hN'.1) hU'.2.word hN'.2.word
  have hown' : s'.vm.findClass own = some m.cls := by rw [hvm]; exact hown
  have hins : (Cond.instantiable cls 6).before args s' = true := h _ (by simp [Bundle.ownAtoms])
  obtain ⟨vm₁, cX, kX, hfX, hkX, -, -, X₁, st1⟩ := Y.newCold hexec (own := own) (C := cls) (index := ik) (n := 6) hown' hk' hins hini'
    (g := F0 m pc ls rest) rfl (by rw [hb]; exact d0) (Nat.le_refl _) (Nat.le_refl _)
  generalize hT1 : (T.setVm vm₁).pushCell { cls := cX, slots := kX.instanceTypes.map defaultValue, vm := .none } = T1 at X₁ st1
  have hcat : (Value.ref T.heap.size).category = 1 := rfl
  have hcellA : T1.heap[T.heap.size]? = some (freshCell cX kX) := by rw [← hT1]; exact State.heap_pushCell_size _ _
  have d3' : decode c.code (pc + 3) = .ok (.dup, 1) := by rw [hb]; exact d3
  have d4' : decode c.code (pc + 4) = .ok (.ldc_w is, 3) := by rw [hb]; exact d4
  have hstr' : vk_R own is text sa s' := vk_R.warm hW0 hstr
  obtain ⟨U, hsteps, hrun, hend, hW, hsame, ce, hce, hO⟩ := X₁.ctorThrowS hexec htr (own := own) (cls := cls) (names := names) (ic := ic) hown' hcls hnames h (fun x hx => nomatch hx) hfX hkX hcellA (by rw [hhp, hT]; exact Nat.le_refl _) (msg := .ref sa) rfl
    (g := { method := m, pc := pc + 7, locals := ls, stack := .ref sa :: .ref T.heap.size :: .ref T.heap.size :: rest, locked := none }) rfl hsize rfl rfl (rest := rest) rfl
    (by rw [hb]; exact d7) (by rw [hb]; exact d10) hout hRframes (by simp only [List.map_cons, List.sum_cons, hcat]; omega) hlocks
  obtain ⟨f1, f2⟩ := vx_frame hsame
  rw [hhp] at f1 f2
  have hWs : s.WarmedH U.vm := State.WarmedH.trans hW0 hW
  have hcl : s.vm.findClass cls = some ce.cls := by
    have h9 := hO.cls
    rw [hvm] at h9
    exact h9
  have hall : s.sameButNew ({ U with vm := s.vm } : State) locs mc ms := by
    subst hA
    obtain ⟨e1, e2⟩ := hsame
    rw [State.setFrames_setFrames] at e1
    have h2 : (T.setVm s.vm).sameButNew ({ U with vm := s.vm } : State) [] (0 + 1) (0 + 6) := ⟨e1, e2⟩
    have h3 := X.same.trans h2
    rw [List.append_nil] at h3
    exact h3.mono hc hs
  refine ⟨U, ?_, .threw T.heap.size, hrun, hend, Or.inr ⟨T.heap.size, rfl, cls, ce, locs, hx U hWs.alike f1 (fun q hq => f2 q hq (fun z hz => nomatch hz)), hce, hO.vm, hcl, hWs, hall, hf⟩⟩
  refine st1 _ ?_
  show Steps p.tables e below (T1.setTop { method := m, pc := pc + 3, locals := ls, stack := .ref T.heap.size :: rest, locked := none }) _
  jvm_step X₁.here [X₁.here.top, hexec, d3', Value.category]
  exact X₁.ldcStringW hexec (own := own) (text := text) (index := is) (a := sa) hown' hstr'.1 hstr'.2
    (g := { method := m, pc := pc + 4, locals := ls, stack := .ref T.heap.size :: .ref T.heap.size :: rest, locked := none }) rfl d4' _ hsteps
end Ends
section Bodies
variable {l : Launch}
theorem vx_ofW {y : MethodName} {ws ws' : List Cond} {rm : Room} {Pc : Array Value → State → Prop} {Qc : Array Value → State → Outcome → State → Prop} {XC : String → State → State → Prop} {mc ms : Nat} {free : Addr → Prop} {cc : ByteArray} {maxL : Nat} {ret : Option FieldType}
    (hy : plainName y.cls = true) (hw : ws = Cond.code y cc maxL ret :: ws')
    (body : ∀ p e s m args below meth c s₁, BodyLoose p l y (headSpec ws rm) cc maxL ret e s m args below meth c s₁ → c.maxLocals = maxL → (∀ x ∈ c.exceptionTable.toList, False) → Pc args s →
      W p l e (headSpec ws rm).room s m args below meth c s.heap [] 0 0 (vx_MQ below Qc XC args s mc ms free) (entryFrame m args maxL)) : vx_Met l y ws rm Pc Qc XC mc ms free := by
  refine MetFree.of_bodyS (code := cc) (maxLocals := maxL) (ret := ret) hy ?_ ?_
  · intro args s m h hn
    obtain ⟨meth, c, h1, h2, h3, h4, h5, h6, -, -⟩ := Cond.code_spec hn (atoms_spec (ws := ws) h _ (by rw [hw]; exact List.mem_cons_self))
    exact ⟨meth, c, h1, h2, h3, h4, h5, h6⟩
  · intro p e s m args below meth c s₁ B hml hP _
    have hh0 : s₁.heap = s.heap := by rw [B.state]; rfl
    have ht : ∀ x ∈ c.exceptionTable.toList, False := by
      obtain ⟨meth9, c9, h1, h2, -, -, -, -, h7, -⟩ := Cond.code_spec B.named (atoms_spec (ws := ws) B.pre _ (by rw [hw]; exact List.mem_cons_self))
      cases Option.some.inj (h1.symm.trans B.method)
      cases Option.some.inj (h2.symm.trans (Stand.of_body B).code)
      intro x hx
      rw [Array.isEmpty_iff.mp h7] at hx
      cases hx
    obtain ⟨t, a1, o, b1, b2, b3⟩ := body p e s m args below meth c s₁ B hml ht hP s₁ hh0 (Stand.of_body B)
    exact ⟨t, o, a1, b1, b2, b3⟩
/-- the table of a body with handlers -/
theorem vx_table {p : Program} {x y : MethodName} {S : Spec} {cc bytes : ByteArray} {maxL maxL' : Nat} {ret ret' : Option FieldType} {e : Env} {s s₁ : State} {m : MethodId} {args : Array Value} {below : List Frame} {meth : Method} {c : Code} {hh : List (Nat × Nat × Nat × Nat)}
    (B : BodyLoose p l y S cc maxL ret e s m args below meth c s₁) (h : (Cond.codeWith y bytes maxL' ret' hh).before args s = true) : c.exceptionTable.toList = tableOf hh := by
  obtain ⟨m9, meth9, c9, hn9, h1, h2, -, -, h6, -⟩ := Cond.codeWith_spec h
  cases Option.some.inj (hn9.symm.trans B.named)
  cases Option.some.inj (h1.symm.trans B.method)
  cases Option.some.inj (h2.symm.trans (Stand.of_body B).code)
  rw [← h6, table_eq]
end Bodies
end VXA
/-! ===== END ===== -/
/-! ===== BEGIN a static call of a method with an exception table ===== -/
section VXS
variable {p : Program} {l : Launch} {e : Env} {R : Room} {s : State} {m : MethodId} {args : Array Value} {below : List Frame} {meth : Method} {c : Code} {T : State} {H : Heap} {locs : List Loc} {cells slots : Nat}
abbrev vx_CSW (R : Room) (s : State) (args : Array Value) (own : String) (index : Nat) (y : MethodName) (bytes : ByteArray) (maxL : Nat) (ret : Option FieldType) (hh : List (Nat × Nat × Nat × Nat)) (ws : List Cond) (rm : Room) (mc ms n : Nat) : Prop :=
  (rm.cells = mc ∧ rm.slots = ms ∧ rm.frames + 1 ≤ R.frames ∧ 8 + (maxL + 11) + rm.locals ≤ R.locals ∧ (∀ w ∈ ws, ∀ (a' : Array Value) (U : State), s.WarmedH U.vm → w.before a' U = true) ∧ Cond.codeWith y bytes maxL ret hh ∈ ws) ∧
  (Cond.codeWith y bytes maxL ret hh).before args s = true ∧ (Cond.initialized y.cls).before args s = true ∧ (y.cls ≠ "java/lang/invoke/MethodHandle" ∧ y.cls ≠ "java/lang/invoke/VarHandle") ∧
  (∀ sig, parseMethodDescriptor y.desc = some sig → n = sig.parameters.length) ∧ (Cond.methodLink own index y).before args s = true ∧ (Cond.static y).before args s = true
theorem vx_cwSW {own : String} {index maxL mc ms : Nat} {y : MethodName} {bytes : ByteArray} {ret : Option FieldType} {hh : List (Nat × Nat × Nat × Nat)} {Ts ws ws' : List Cond} {rm : Room} (n : Nat) (ht : ∀ w ∈ Ts, w.before args s = true) (hT : GoodIn Ts (va_wsS own index y ws)) (hw : ws = Cond.codeWith y bytes maxL ret hh :: ws') (hrc : rm.cells = mc) (hrs : rm.slots = ms)
    (hd : y.cls ≠ "java/lang/invoke/MethodHandle" ∧ y.cls ≠ "java/lang/invoke/VarHandle" ∧ (parseMethodDescriptor y.desc).map (fun d => d.parameters.length) = some n) (hR : rm.frames + 1 ≤ R.frames ∧ 8 + (maxL + 11) + rm.locals ≤ R.locals) :
    vx_CSW R s args own index y bytes maxL ret hh ws rm mc ms n := by
  have ok : ∀ w ∈ va_wsS own index y ws, w.before args s = true := fun w h => ht w (hT w h).1
  have hG : GoodIn Ts ws := fun w h => hT w (by unfold va_wsS; exact List.mem_append_right _ h)
  have hc : Cond.codeWith y bytes maxL ret hh ∈ ws := by rw [hw]; exact List.mem_cons_self
  refine ⟨⟨hrc, hrs, hR.1, hR.2, pay_in ht hG, hc⟩, ht _ (hG _ hc).1, ok _ (by simp [va_wsS]), ⟨hd.1, hd.2.1⟩, fun sig h => ?_, ok _ (by simp [va_wsS]), ok _ (by simp [va_wsS])⟩
  have h2 := hd.2.2
  rw [h] at h2
  exact (Option.some.inj h2).symm
theorem vx_callSW (X : Stand p l e R s m args below meth c T locs cells slots) (hexec : p.tables.exec = Jvm.exec) {own : String} {index : Nat} {y : MethodName} {bytes : ByteArray} {maxL : Nat} {ret : Option FieldType} {hh : List (Nat × Nat × Nat × Nat)}
    (hown : s.vm.findClass own = some m.cls) (hlink : (Cond.methodLink own index y).before args s = true) (hstat : (Cond.static y).before args s = true) (hinit : (Cond.initialized y.cls).before args s = true)
    (hcode : (Cond.codeWith y bytes maxL ret hh).before args s = true) (hy : y.cls ≠ "java/lang/invoke/MethodHandle" ∧ y.cls ≠ "java/lang/invoke/VarHandle")
    {W9 : Nat} {Pre : Pt → Array Value → Prop} {Post : Pt → Array Value → Option Value → Pt → Prop} (hK : Back l R p e below s args y 3 W9 Pre Post)
    {g : JFrame} (hg : g.method = m) (hsize : g.locals.size = c.maxLocals) {argsL rest : List Value} (hlen : ∀ sig, parseMethodDescriptor y.desc = some sig → argsL.length = sig.parameters.length)
    (hstack : g.stack = argsL.reverse ++ rest) (hW : 2 * g.monitorRoom + (rest.map fun v => v.category).sum ≤ W9) (hdg : decode c.code g.pc = .ok (.invokestatic index, 3))
    (hpre : ∀ vm₁, s.WarmedH vm₁ → Pre ⟨T.setVm vm₁, locs, cells, slots⟩ argsL.toArray) :
    ∃ (v : Option Value) (vm₁ : Vm) (B : Pt), s.WarmedH vm₁ ∧ Stand p l e R s m args below meth c B.U B.locs B.cells B.slots ∧ Post ⟨T.setVm vm₁, locs, cells, slots⟩ argsL.toArray v B ∧
      ∀ target, Steps p.tables e below (B.U.setTop { g with pc := g.pc + 3, stack := v.toList ++ rest }) target → Steps p.tables e below (T.setTop g) target := by
  obtain ⟨mk, methM, cM, hnamed, hmethM, -, -, -, -, -, -, hsigM⟩ := Cond.codeWith_spec hcode
  have hstatic : methM.isStatic = true := Cond.static_spec hnamed hmethM hstat
  obtain ⟨kP, hkP, -⟩ := className_of_methodNamed hnamed
  have hinitP : kP.init = .initialized := Cond.initialized_spec (findClass_of_methodNamed hnamed) hkP hinit
  obtain ⟨vm₁, X₁, hstep₁⟩ := X.invokestatic hexec hown hlink hnamed hmethM hstatic hkP hinitP hy (g := g) hg (argsL := argsL) (rest := rest) (hlen _ hsigM) hstack hdg
  obtain ⟨v, B, X', hpost, hsteps⟩ := hK m meth c ⟨T.setVm vm₁, locs, cells, slots⟩ { g with stack := rest } (.invokestatic index) mk argsL.toArray X₁ hg hsize hdg hW (X₁.named hnamed) (hpre vm₁ X₁.warmed)
  exact ⟨v, vm₁, B, X₁.warmed, X', hpost, fun target h => hstep₁ _ fun acts => by rw [doInvoke_state]; exact hsteps.trans h⟩
theorem vx_runSW {y : MethodName} {bytes cc : ByteArray} {maxL nL mc ms n index : Nat} {ret : Option FieldType} {hh : List (Nat × Nat × Nat × Nat)} {ws : List Cond} {rm : Room} {Pc : Array Value → State → Prop} {Qc : Array Value → State → Outcome → State → Prop} {free : Addr → Prop} {Ts : List Cond} {own : String} {As rest : List Value} {g : JFrame}
    (S : CallFix p m c cc nL s args Ts own) (hM : Met l y ws rm Pc Qc mc ms free) (cw : vx_CSW R s args own index y bytes maxL ret hh ws rm mc ms n) (hp : PreS s H Pc As)
    (hg : g.method = m) (hn : As.length = n) (hsize : g.locals.size = nL) (hstack : g.stack = As.reverse ++ rest) (hW : 2 * g.monitorRoom + (rest.map fun v => v.category).sum ≤ 8) (hdg : decode cc g.pc = .ok (.invokestatic index, 3)) (hf : cells + mc ≤ R.cells ∧ slots + ms ≤ R.slots) :
    va_Run p l e R s m args below meth c H locs cells slots mc ms g rest (Qc As.toArray) (free) := by
  obtain ⟨⟨hrc, hrs, hfr, hlo, hws, hcw⟩, hcode, hini, hy, hlen, hl, hstt⟩ := cw
  have hK : Back l R p e below s args y 3 8 (PreOf R mc ms Pc) (PostOf Qc mc ms free) := va_backW (hh := hh) (bytes := bytes) (maxL := maxL) (ret := ret) hM hp.1 hrc hrs hfr hlo hws hcw (fun a' U hW => word_at hW (Or.inl (by first | rfl | simp [Cond.onTables, Cond.keeps, Cond.steady])) hini)
  obtain ⟨hx, hb, hml, ho, -⟩ := S
  intro T hT X
  obtain ⟨v, vm₁, ⟨U', l2, c2, s2⟩, hW₁, X', ⟨g', mk, t, L, e1, e2, hq, h1, hL, h2, h3⟩, st⟩ := vx_callSW X hx (hh := hh) (bytes := bytes) (maxL := maxL) (ret := ret) ho hl hstt hini hcode hy hK hg (hsize.trans hml.symm) (argsL := As) (rest := rest) (fun sig h => hn.trans (hlen sig h)) hstack hW (by rw [hb]; exact hdg)
    (fun vm₁ hW₁ => ⟨hf.1, hf.2, hp.2 (T.setVm vm₁) hT hW₁⟩)
  dsimp only [Pt.U, Pt.locs, Pt.cells, Pt.slots] at X' e1 e2 h1 h2 h3 st
  subst h1; subst h2; subst h3
  exact ⟨v, (T.setVm vm₁).calling g' mk As.toArray, t, U', L, hT, X', hL, e1, e2, hq, st⟩
/-- not caught here, past rows that name other classes: it goes on to the caller -/
theorem vx_outP {p : Program} {l : Launch} {e : Env} {R : Room} {s : State} {m : MethodId} {args : Array Value} {below : List Frame} {meth : Method} {c : Code} {H : Heap} {locs : List Loc} {cells slots : Nat} {free : Addr → Prop} {ls : Array Slot} {rest : List Value} {Qc : Array Value → State → Outcome → State → Prop} {XC : String → State → State → Prop}
    {pc : Nat} {own E : String} {ce : Cell} {q : Addr} {mc ms : Nat} (hown : s.vm.findClass own = some m.cls) (hlocks : meth.locks = false)
    (hpass : ∀ z ∈ c.exceptionTable.toList, covers z pc = false ∨ (z.catchType ≠ 0 ∧ ∃ nm : String, (Cond.classLink own z.catchType nm).before args s = true ∧ va_Nc E nm s)) (hcell : H[q]? = some ce) (hv : ce.vm = .none) (hcl : s.vm.findClass E = some ce.cls)
    (hx : ∀ t : State, t.heap = H → s.vm.Alike t.vm → XC E s t) (hf : ∀ z ∈ locs, free z.base) (hc : cells ≤ mc) (hs : slots ≤ ms) :
    vx_W p l e R s m args below meth c H locs cells slots (vx_MQ below Qc XC args s mc ms free) (F0 m pc ls rest) q := by
  intro T hT X
  have hpl : e.platform.magicAccessors = ({} : Platform).magicAccessors := by rw [X.admits.platform]
  obtain ⟨vm', hW', X', st⟩ := X.outThrough hlocks q (g := F0 m pc ls rest) rfl rfl rfl (cell := ce) (by rw [hT]; exact hcell) (by rw [hv]; rfl)
    (by obtain ⟨k9, h9, -⟩ := Vm.findClass_spec hcl; exact ⟨k9, h9⟩) (fun z hz => by
      rcases hpass z hz with h | ⟨hz0, nm, hl1, hn1⟩
      · exact Or.inl h
      · obtain ⟨c6, hc6, hcl6⟩ := Cond.classLink_spec hown hl1 e.platform hpl
        obtain ⟨a8, b8, h1, h2, h3⟩ := hn1
        cases Option.some.inj (h1.symm.trans hcl)
        cases Option.some.inj (h2.symm.trans hc6)
        exact Or.inr ⟨hz0, _, hcl6, h3⟩)
  obtain ⟨g₀, hfr⟩ := X'.frames_eq
  have hcell9 : ((T.setVm vm').setFrames (.throwing q :: below)).heap[q]? = some ce := by
    show T.heap[q]? = some ce
    rw [hT]; exact hcell
  have hend : Ended ((T.setVm vm').setFrames (.throwing q :: below)) below (.threw q) := State.frames_setFrames _ (State.cur_lt_of_frames hfr)
  refine ⟨(T.setVm vm').setFrames (.throwing q :: below), ?_, .threw q, X'.here.running, hend, Or.inr ⟨q, rfl, E, ce, locs, hx _ hT (X'.ends _).1.alike, hcell9, hv, hcl, (X'.ends _).1, (X'.ends _).2.mono hc hs, hf⟩⟩
  rw [X.pushThrowing_eq]
  exact st
/-- a thing of a world lies in the heap -/
theorem vx_lt {D : va_G} {cl : List vw_C} {ws : va_W} {H1 : Heap} (h : va_P D cl ws H1) {k : Nat} {q : Nat × va_E} (hk : ws[k]? = some q) : q.1 < H1.size := (h k q hk).lt
end VXS
/-! ===== END ===== -/
/-! ===== BEGIN methods with a table of their own: called by a name, returning or throwing ===== -/
section VXH
/-! vx_backW, vx_callVX, vx_callSX, vx_callVW, vx_runVW, vx_runVX, vx_runSX, vx_ofWH follow the same proofs as their sisters above (Free/Laws.lean, Shelf42/LK1.lean); vx_outP calls Shelf42/NT130.lean (outThrough). -/
section
variable {l : Launch} {R : Room} {p : Program} {e : Env} {below : List Frame} {s : State} {sargs : Array Value} {y : MethodName} {len W9 : Nat}
theorem vx_backW {ws : List Cond} {rm : Room} {Pc : Array Value → State → Prop} {Qc : Array Value → State → Outcome → State → Prop} {XC : String → State → State → Prop} {mc ms : Nat} {free : Addr → Prop} {bytes : ByteArray} {maxL : Nat} {ret : Option FieldType} {hh : List (Nat × Nat × Nat × Nat)}
    (hM : vx_Met l y ws rm Pc Qc XC mc ms free) (hblind : FrameBlind Pc) (hrc : rm.cells = mc) (hrs : rm.slots = ms)
    (hframes : rm.frames + 1 ≤ R.frames) (hlocals : W9 + (maxL + 11) + rm.locals ≤ R.locals)
    (hws : ∀ w ∈ ws, ∀ a' U, s.WarmedH U.vm → w.before a' U = true) (hcode : Cond.codeWith y bytes maxL ret hh ∈ ws) (hinit : ∀ a' U, s.WarmedH U.vm → (Cond.initialized y.cls).before a' U = true) :
    vx_Back l R p e below s sargs y len W9 (PreOf R mc ms Pc) (PostOf Qc mc ms free) (vx_Post XC mc ms free) := by
  intro m meth c A g ig mk a X hg hsize hdg hW hn hp
  have h1 : (headSpec ws rm).pre.before a A.U = true := atoms_intro fun w hw => hws w hw _ _ X.warmed
  have h2 : (Cond.codeWith y bytes maxL ret hh).before a A.U = true := hws _ hcode _ _ X.warmed
  have h3 : (Cond.initialized y.cls).before a A.U = true := hinit _ _ X.warmed
  have h4 : A.cells + (headSpec ws rm).room.cells ≤ R.cells := by rw [show (headSpec ws rm).room.cells = mc from hrc]; exact hp.1
  have h5 : A.slots + (headSpec ws rm).room.slots ≤ R.slots := by rw [show (headSpec ws rm).room.slots = ms from hrs]; exact hp.2.1
  have hPc : Pc a (A.U.calling g mk a) := hblind _ _ _ _ hp.2.2
  obtain ⟨U, Ls, c0, s0⟩ := A
  dsimp only [Pt.U, Pt.locs, Pt.cells, Pt.slots] at h1 h2 h3 h4 h5 X hn hPc ⊢
  obtain ⟨m9, methY, cY, hn9, hmY, hcY, -, hlY, -⟩ := Cond.codeWith_spec h2
  cases Option.some.inj (hn9.symm.trans hn)
  obtain ⟨kY, hkY, -⟩ := className_of_methodNamed hn
  have hinitY : kY.init = .initialized := Cond.initialized_spec (findClass_of_methodNamed hn) hkY h3
  have h : At U g.method c below := by rw [hg]; exact X.here
  have hlocals9 : W9 + (maxL + 11) + (headSpec ws rm).room.locals ≤ R.locals := hlocals
  have happ : (headSpec ws rm).appliesLoose y e.platform (U.calling g mk a) = true :=
    Spec.appliesLoose_calling (g := g) h hdg hn hkY hinitY
      (X.room_calling (g := g) (R' := (headSpec ws rm).room) hsize hmY hcY hframes (by rw [hlY]; omega) h4 h5) h1
  obtain ⟨mid, hmid⟩ := h.above
  have hfr : (U.setTop g).frames = (.java g :: mid) ++ below := by rw [State.frames_setTop' g h.top, hmid]; rfl
  obtain ⟨o, s₂, hsteps, -, hend, hq⟩ := Steps.callFree hM p X.admits X.cas X.clock (acts := []) hfr happ hPc trivial
  have hq' : vx_Q Qc XC mc ms free a (U.calling g mk a) o s₂ := hq
  rw [State.frames_setTop' g h.top] at hend
  obtain ⟨g₀, hg0⟩ := Option.isSome_iff_exists.mp h.top
  obtain ⟨r, hr⟩ := State.topJava?_eq_some.mp hg0
  have hr' : (({ U with heap := s₂.heap, slotsUsed := s₂.slotsUsed } : State).setVm s₂.vm).frames = .java g₀ :: r := hr
  rcases hq' with ⟨hqc, L, hfe, hL⟩ | ⟨q, rfl, E, ce, L, hx, hce, hcv, hcl, hW₂, hsm, hL⟩
  · obtain ⟨⟨v, rfl⟩, hW₂, e2, q2, q3, q4, q5, q6⟩ := id hfe
    have e3 : s₂ = ({ (U.calling g mk a).setFrames s₂.frames with heap := s₂.heap, slotsUsed := s₂.slotsUsed } : State).setVm s₂.vm := by
      have : s₂ = ({ s₂ with vm := (U.calling g mk a).vm } : State).setVm s₂.vm := rfl
      rw [e2] at this
      exact this
    obtain ⟨c₂, i₂, len₂, hc₂, hd₂, hf₂⟩ := hend
    have hW' : U.WarmedH s₂.vm := hW₂
    have hcc : c₂ = c := by
      have h1 : s₂.code? g.method = U.code? g.method := by
        rw [State.code?_eq, State.code?_eq, hW'.alike.method?]
      exact Option.some.inj (hc₂.symm.trans (h1.trans h.code))
    subst hcc
    have hlen : len₂ = len := by rw [hdg] at hd₂; cases hd₂; rfl
    subst hlen
    have hs₂ : s₂ = (({ U with heap := s₂.heap, slotsUsed := s₂.slotsUsed } : State).setVm s₂.vm).setTop { g with pc := g.pc + len₂, stack := v.toList ++ g.stack } := by
      refine e3.trans ?_
      rw [hf₂, State.calling_eq h.top, State.setFrames_setFrames, State.setTop_of_frames _ hr', hr]
      rfl
    have hsame : U.sameButNew ({ U with heap := s₂.heap, slotsUsed := s₂.slotsUsed } : State) L mc ms := by
      refine ⟨?_, q2, q3, q4, q5, q6⟩
      obtain ⟨t, ht, -⟩ := State.frames_cons hr
      show ({ U with heap := s₂.heap, slotsUsed := s₂.slotsUsed } : State) = { U.setFrames U.frames with heap := s₂.heap, slotsUsed := s₂.slotsUsed }
      rw [State.setFrames_self ht]
    subst hg
    refine Or.inl ⟨v, ⟨(({ U with heap := s₂.heap, slotsUsed := s₂.slotsUsed } : State).setVm s₂.vm), Ls ++ L, c0 + mc, s0 + ms⟩,
      ⟨X.admits, X.cas, X.clock, X.frames, X.room, X.hears, X.method, X.code, (X.here.setHeapUsed s₂.heap s₂.slotsUsed).setVm hW'.alike, X.tail, State.WarmedH.trans X.warmed hW', X.limits, X.bytes, X.same.trans (hsame.setVm s.vm)⟩,
      ⟨g, mk, s₂, L, rfl, rfl, hqc, rfl, hL, rfl, rfl⟩, ?_⟩
    show Steps p.tables e below _ ((({ U with heap := s₂.heap, slotsUsed := s₂.slotsUsed } : State).setVm s₂.vm).setTop { g with pc := g.pc + len₂, stack := v.toList ++ g.stack })
    rw [← hs₂]
    exact hsteps
  · obtain ⟨e2, q2, q3, q4, q5, q6⟩ := id hsm
    have e3 : s₂ = ({ (U.calling g mk a).setFrames s₂.frames with heap := s₂.heap, slotsUsed := s₂.slotsUsed } : State).setVm s₂.vm := by
      have : s₂ = ({ s₂ with vm := (U.calling g mk a).vm } : State).setVm s₂.vm := rfl
      rw [e2] at this
      exact this
    have hf₂ : s₂.frames = .throwing q :: .java g :: U.frames.tail := hend
    have hW' : U.WarmedH s₂.vm := hW₂
    have hs₂ : s₂ = ((({ U with heap := s₂.heap, slotsUsed := s₂.slotsUsed } : State).setVm s₂.vm).setTop g).pushFrame (.throwing q) := by
      refine e3.trans ?_
      rw [hf₂, State.calling_eq h.top, State.setFrames_setFrames, State.pushFrame, State.frames_setTop _ hr', State.setTop_of_frames _ hr', State.setFrames_setFrames, hr]
      rfl
    have hsame : U.sameButNew ({ U with heap := s₂.heap, slotsUsed := s₂.slotsUsed } : State) L mc ms := by
      refine ⟨?_, q2, q3, q4, q5, q6⟩
      obtain ⟨t, ht, -⟩ := State.frames_cons hr
      show ({ U with heap := s₂.heap, slotsUsed := s₂.slotsUsed } : State) = { U.setFrames U.frames with heap := s₂.heap, slotsUsed := s₂.slotsUsed }
      rw [State.setFrames_self ht]
    subst hg
    refine Or.inr ⟨q, ⟨(({ U with heap := s₂.heap, slotsUsed := s₂.slotsUsed } : State).setVm s₂.vm), Ls ++ L, c0 + mc, s0 + ms⟩,
      ⟨X.admits, X.cas, X.clock, X.frames, X.room, X.hears, X.method, X.code, (X.here.setHeapUsed s₂.heap s₂.slotsUsed).setVm hW'.alike, X.tail, State.WarmedH.trans X.warmed hW', X.limits, X.bytes, X.same.trans (hsame.setVm s.vm)⟩,
      ⟨g, mk, s₂, L, E, ce, rfl, rfl, hx, hce, hcv, hcl, rfl, hL, rfl, rfl⟩, ?_⟩
    show Steps p.tables e below _ (((({ U with heap := s₂.heap, slotsUsed := s₂.slotsUsed } : State).setVm s₂.vm).setTop g).pushFrame (.throwing q))
    rw [← hs₂]
    exact hsteps
end
variable {p : Program} {l : Launch} {e : Env} {R : Room} {s : State} {m : MethodId} {args : Array Value} {below : List Frame} {meth : Method} {c : Code} {T : State} {H : Heap} {locs : List Loc} {cells slots : Nat}
theorem vx_callVX (X : Stand p l e R s m args below meth c T locs cells slots) (hexec : p.tables.exec = Jvm.exec) {own C : String} {index : Nat} {y : MethodName} {bytes : ByteArray} {maxL : Nat} {ret : Option FieldType} {hh : List (Nat × Nat × Nat × Nat)}
    (hown : s.vm.findClass own = some m.cls) (hlink : (Cond.methodLink own index y).before args s = true) (hinst : (Cond.instanceMethod y).before args s = true) (hsel : (Cond.selects C y y).before args s = true)
    (hcode : (Cond.codeWith y bytes maxL ret hh).before args s = true) (hy : y.cls ≠ "java/lang/invoke/MethodHandle" ∧ y.cls ≠ "java/lang/invoke/VarHandle")
    {W9 : Nat} {Pre : Pt → Array Value → Prop} {Post : Pt → Array Value → Option Value → Pt → Prop} {PostX : Pt → Array Value → Addr → Pt → Prop} (hK : vx_Back l R p e below s args y 3 W9 Pre Post PostX)
    {b : Addr} {cellB : Cell} (hcell : T.heap[b]? = some cellB) (hobj : cellB.vm.isStatics = false) (hcls : s.vm.findClass C = some cellB.cls)
    {g : JFrame} (hg : g.method = m) (hsize : g.locals.size = c.maxLocals) {argsL rest : List Value} (hlen : ∀ sig, parseMethodDescriptor y.desc = some sig → argsL.length = sig.parameters.length)
    (hstack : g.stack = argsL.reverse ++ .ref b :: rest) (hW : 2 * g.monitorRoom + (rest.map fun v => v.category).sum ≤ W9) (hdg : decode c.code g.pc = .ok (.invokevirtual index, 3))
    (hpre : ∀ vm₁, s.WarmedH vm₁ → Pre ⟨T.setVm vm₁, locs, cells, slots⟩ (Value.ref b :: argsL).toArray) :
    (∃ (v : Option Value) (vm₁ : Vm) (B : Pt), s.WarmedH vm₁ ∧ Stand p l e R s m args below meth c B.U B.locs B.cells B.slots ∧ Post ⟨T.setVm vm₁, locs, cells, slots⟩ (Value.ref b :: argsL).toArray v B ∧
      ∀ target, Steps p.tables e below (B.U.setTop { g with pc := g.pc + 3, stack := v.toList ++ rest }) target → Steps p.tables e below (T.setTop g) target) ∨
    (∃ (q : Addr) (vm₁ : Vm) (B : Pt), s.WarmedH vm₁ ∧ Stand p l e R s m args below meth c B.U B.locs B.cells B.slots ∧ PostX ⟨T.setVm vm₁, locs, cells, slots⟩ (Value.ref b :: argsL).toArray q B ∧
      Steps p.tables e below (T.setTop g) ((B.U.setTop { g with stack := rest }).pushFrame (.throwing q))) := by
  obtain ⟨mk, methM, hnamed, hmethM, hstM, habM⟩ := Cond.instanceMethod_spec hinst
  obtain ⟨m8, methM', cM, hn8, hmethM', -, -, -, -, -, -, hsigM⟩ := Cond.codeWith_spec hcode
  cases Option.some.inj (hn8.symm.trans hnamed)
  cases hmethM.symm.trans hmethM'
  obtain ⟨c2, r2, m2, q1, q2, q3, q4, kP, hkP, hkPi⟩ := Cond.selects_spec hsel
  cases hcls.symm.trans q1
  cases (State.methodFound?_of_named hnamed hy).symm.trans q2
  cases hnamed.symm.trans q3
  have hselP : selectMethod e.platform s.vm cellB.cls mk = .method mk := by rw [Launch.admits_selectMethod X.admits]; exact q4
  obtain ⟨vm₁, X₁, hstep₁⟩ := X.invokevirtual hexec hown hlink hnamed hmethM hstM hkP hkPi hy (a := b) (cell := cellB) hcell
    (fun z h => by rw [h] at hobj; cases hobj) hselP hmethM habM hkP hkPi (g := g) hg (argsL := argsL) (rest := rest) (hlen _ hsigM) hstack hdg
  rcases hK m meth c ⟨T.setVm vm₁, locs, cells, slots⟩ { g with stack := rest } (.invokevirtual index) mk (Value.ref b :: argsL).toArray X₁ hg hsize hdg hW (X₁.named hnamed) (hpre vm₁ X₁.warmed) with ⟨v, B, X', hpost, hsteps⟩ | ⟨q, B, X', hpost, hsteps⟩
  · exact Or.inl ⟨v, vm₁, B, X₁.warmed, X', hpost, fun target h => hstep₁ _ fun acts => by rw [doInvoke_state]; exact hsteps.trans h⟩
  · exact Or.inr ⟨q, vm₁, B, X₁.warmed, X', hpost, hstep₁ _ fun acts => by rw [doInvoke_state]; exact hsteps⟩
theorem vx_callSX (X : Stand p l e R s m args below meth c T locs cells slots) (hexec : p.tables.exec = Jvm.exec) {own : String} {index : Nat} {y : MethodName} {bytes : ByteArray} {maxL : Nat} {ret : Option FieldType} {hh : List (Nat × Nat × Nat × Nat)}
    (hown : s.vm.findClass own = some m.cls) (hlink : (Cond.methodLink own index y).before args s = true) (hstat : (Cond.static y).before args s = true) (hinit : (Cond.initialized y.cls).before args s = true)
    (hcode : (Cond.codeWith y bytes maxL ret hh).before args s = true) (hy : y.cls ≠ "java/lang/invoke/MethodHandle" ∧ y.cls ≠ "java/lang/invoke/VarHandle")
    {W9 : Nat} {Pre : Pt → Array Value → Prop} {Post : Pt → Array Value → Option Value → Pt → Prop} {PostX : Pt → Array Value → Addr → Pt → Prop} (hK : vx_Back l R p e below s args y 3 W9 Pre Post PostX)
    {g : JFrame} (hg : g.method = m) (hsize : g.locals.size = c.maxLocals) {argsL rest : List Value} (hlen : ∀ sig, parseMethodDescriptor y.desc = some sig → argsL.length = sig.parameters.length)
    (hstack : g.stack = argsL.reverse ++ rest) (hW : 2 * g.monitorRoom + (rest.map fun v => v.category).sum ≤ W9) (hdg : decode c.code g.pc = .ok (.invokestatic index, 3))
    (hpre : ∀ vm₁, s.WarmedH vm₁ → Pre ⟨T.setVm vm₁, locs, cells, slots⟩ argsL.toArray) :
    (∃ (v : Option Value) (vm₁ : Vm) (B : Pt), s.WarmedH vm₁ ∧ Stand p l e R s m args below meth c B.U B.locs B.cells B.slots ∧ Post ⟨T.setVm vm₁, locs, cells, slots⟩ argsL.toArray v B ∧
      ∀ target, Steps p.tables e below (B.U.setTop { g with pc := g.pc + 3, stack := v.toList ++ rest }) target → Steps p.tables e below (T.setTop g) target) ∨
    (∃ (q : Addr) (vm₁ : Vm) (B : Pt), s.WarmedH vm₁ ∧ Stand p l e R s m args below meth c B.U B.locs B.cells B.slots ∧ PostX ⟨T.setVm vm₁, locs, cells, slots⟩ argsL.toArray q B ∧
      Steps p.tables e below (T.setTop g) ((B.U.setTop { g with stack := rest }).pushFrame (.throwing q))) := by
  obtain ⟨mk, methM, cM, hnamed, hmethM, -, -, -, -, -, -, hsigM⟩ := Cond.codeWith_spec hcode
  have hstatic : methM.isStatic = true := Cond.static_spec hnamed hmethM hstat
  obtain ⟨kP, hkP, -⟩ := className_of_methodNamed hnamed
  have hinitP : kP.init = .initialized := Cond.initialized_spec (findClass_of_methodNamed hnamed) hkP hinit
  obtain ⟨vm₁, X₁, hstep₁⟩ := X.invokestatic hexec hown hlink hnamed hmethM hstatic hkP hinitP hy (g := g) hg (argsL := argsL) (rest := rest) (hlen _ hsigM) hstack hdg
  rcases hK m meth c ⟨T.setVm vm₁, locs, cells, slots⟩ { g with stack := rest } (.invokestatic index) mk argsL.toArray X₁ hg hsize hdg hW (X₁.named hnamed) (hpre vm₁ X₁.warmed) with ⟨v, B, X', hpost, hsteps⟩ | ⟨q, B, X', hpost, hsteps⟩
  · exact Or.inl ⟨v, vm₁, B, X₁.warmed, X', hpost, fun target h => hstep₁ _ fun acts => by rw [doInvoke_state]; exact hsteps.trans h⟩
  · exact Or.inr ⟨q, vm₁, B, X₁.warmed, X', hpost, hstep₁ _ fun acts => by rw [doInvoke_state]; exact hsteps⟩
theorem vx_callVW (X : Stand p l e R s m args below meth c T locs cells slots) (hexec : p.tables.exec = Jvm.exec) {own C : String} {index : Nat} {y : MethodName} {bytes : ByteArray} {maxL : Nat} {ret : Option FieldType} {hh : List (Nat × Nat × Nat × Nat)}
    (hown : s.vm.findClass own = some m.cls) (hlink : (Cond.methodLink own index y).before args s = true) (hinst : (Cond.instanceMethod y).before args s = true) (hsel : (Cond.selects C y y).before args s = true)
    (hcode : (Cond.codeWith y bytes maxL ret hh).before args s = true) (hy : y.cls ≠ "java/lang/invoke/MethodHandle" ∧ y.cls ≠ "java/lang/invoke/VarHandle")
    {W9 : Nat} {Pre : Pt → Array Value → Prop} {Post : Pt → Array Value → Option Value → Pt → Prop} (hK : Back l R p e below s args y 3 W9 Pre Post)
    {b : Addr} {cellB : Cell} (hcell : T.heap[b]? = some cellB) (hobj : cellB.vm.isStatics = false) (hcls : s.vm.findClass C = some cellB.cls)
    {g : JFrame} (hg : g.method = m) (hsize : g.locals.size = c.maxLocals) {argsL rest : List Value} (hlen : ∀ sig, parseMethodDescriptor y.desc = some sig → argsL.length = sig.parameters.length)
    (hstack : g.stack = argsL.reverse ++ .ref b :: rest) (hW : 2 * g.monitorRoom + (rest.map fun v => v.category).sum ≤ W9) (hdg : decode c.code g.pc = .ok (.invokevirtual index, 3))
    (hpre : ∀ vm₁, s.WarmedH vm₁ → Pre ⟨T.setVm vm₁, locs, cells, slots⟩ (Value.ref b :: argsL).toArray) :
    ∃ (v : Option Value) (vm₁ : Vm) (B : Pt), s.WarmedH vm₁ ∧ Stand p l e R s m args below meth c B.U B.locs B.cells B.slots ∧ Post ⟨T.setVm vm₁, locs, cells, slots⟩ (Value.ref b :: argsL).toArray v B ∧
      ∀ target, Steps p.tables e below (B.U.setTop { g with pc := g.pc + 3, stack := v.toList ++ rest }) target → Steps p.tables e below (T.setTop g) target := by
  obtain ⟨mk, methM, hnamed, hmethM, hstM, habM⟩ := Cond.instanceMethod_spec hinst
  obtain ⟨m8, methM', cM, hn8, hmethM', -, -, -, -, -, -, hsigM⟩ := Cond.codeWith_spec hcode
  cases Option.some.inj (hn8.symm.trans hnamed)
  cases hmethM.symm.trans hmethM'
  obtain ⟨c2, r2, m2, q1, q2, q3, q4, kP, hkP, hkPi⟩ := Cond.selects_spec hsel
  cases hcls.symm.trans q1
  cases (State.methodFound?_of_named hnamed hy).symm.trans q2
  cases hnamed.symm.trans q3
  have hselP : selectMethod e.platform s.vm cellB.cls mk = .method mk := by rw [Launch.admits_selectMethod X.admits]; exact q4
  obtain ⟨vm₁, X₁, hstep₁⟩ := X.invokevirtual hexec hown hlink hnamed hmethM hstM hkP hkPi hy (a := b) (cell := cellB) hcell
    (fun z h => by rw [h] at hobj; cases hobj) hselP hmethM habM hkP hkPi (g := g) hg (argsL := argsL) (rest := rest) (hlen _ hsigM) hstack hdg
  obtain ⟨v, B, X', hpost, hsteps⟩ := hK m meth c ⟨T.setVm vm₁, locs, cells, slots⟩ { g with stack := rest } (.invokevirtual index) mk (Value.ref b :: argsL).toArray X₁ hg hsize hdg hW (X₁.named hnamed) (hpre vm₁ X₁.warmed)
  exact ⟨v, vm₁, B, X₁.warmed, X', hpost, fun target h => hstep₁ _ fun acts => by rw [doInvoke_state]; exact hsteps.trans h⟩
abbrev vx_CVW (R : Room) (s : State) (args : Array Value) (own C : String) (index : Nat) (y : MethodName) (bytes : ByteArray) (maxL : Nat) (ret : Option FieldType) (hh : List (Nat × Nat × Nat × Nat)) (ws : List Cond) (rm : Room) (mc ms n : Nat) : Prop :=
  (rm.cells = mc ∧ rm.slots = ms ∧ rm.frames + 1 ≤ R.frames ∧ 8 + (maxL + 11) + rm.locals ≤ R.locals ∧ (∀ w ∈ ws, ∀ (a' : Array Value) (U : State), s.WarmedH U.vm → w.before a' U = true) ∧ Cond.codeWith y bytes maxL ret hh ∈ ws) ∧
  (Cond.codeWith y bytes maxL ret hh).before args s = true ∧ (Cond.initialized y.cls).before args s = true ∧ (y.cls ≠ "java/lang/invoke/MethodHandle" ∧ y.cls ≠ "java/lang/invoke/VarHandle") ∧
  (∀ sig, parseMethodDescriptor y.desc = some sig → n = sig.parameters.length) ∧ (Cond.methodLink own index y).before args s = true ∧ (Cond.instanceMethod y).before args s = true ∧ (Cond.selects C y y).before args s = true
theorem vx_cwVW {own C : String} {index maxL mc ms : Nat} {y : MethodName} {bytes : ByteArray} {ret : Option FieldType} {hh : List (Nat × Nat × Nat × Nat)} {Ts ws ws' : List Cond} {rm : Room} (n : Nat) (ht : ∀ w ∈ Ts, w.before args s = true) (hT : GoodIn Ts (wsV own index C y ws)) (hw : ws = Cond.codeWith y bytes maxL ret hh :: ws') (hrc : rm.cells = mc) (hrs : rm.slots = ms)
    (hd : y.cls = C ∧ y.cls ≠ "java/lang/invoke/MethodHandle" ∧ y.cls ≠ "java/lang/invoke/VarHandle" ∧ (parseMethodDescriptor y.desc).map (fun d => d.parameters.length) = some n) (hR : rm.frames + 1 ≤ R.frames ∧ 8 + (maxL + 11) + rm.locals ≤ R.locals) :
    vx_CVW R s args own C index y bytes maxL ret hh ws rm mc ms n := by
  obtain ⟨hC, hd⟩ := hd
  subst hC
  have ok : ∀ w ∈ wsV own index y.cls y ws, w.before args s = true := fun w h => ht w (hT w h).1
  have hG : GoodIn Ts ws := fun w h => hT w (by unfold wsV; exact List.mem_append_right _ h)
  have hc : Cond.codeWith y bytes maxL ret hh ∈ ws := by rw [hw]; exact List.mem_cons_self
  refine ⟨⟨hrc, hrs, hR.1, hR.2, pay_in ht hG, hc⟩, ht _ (hG _ hc).1, ok _ (by simp [wsV]), ⟨hd.1, hd.2.1⟩, fun sig h => ?_, ok _ (by simp [wsV]), ok _ (by simp [wsV]), ok _ (by simp [wsV])⟩
  have h2 := hd.2.2
  rw [h] at h2
  exact (Option.some.inj h2).symm
theorem vx_runVW {y : MethodName} {bytes cc : ByteArray} {maxL nL mc ms n index : Nat} {ret : Option FieldType} {hh : List (Nat × Nat × Nat × Nat)} {ws : List Cond} {rm : Room} {Pc : Array Value → State → Prop} {Qc : Array Value → State → Outcome → State → Prop} {free : Addr → Prop} {Ts : List Cond} {own C : String} {b : Addr} {As rest : List Value} {g : JFrame}
    (S : CallFix p m c cc nL s args Ts own) (hM : Met l y ws rm Pc Qc mc ms free) (cw : vx_CVW R s args own C index y bytes maxL ret hh ws rm mc ms n) (hp : PreV s H C b Pc As)
    (hg : g.method = m) (hn : As.length = n) (hsize : g.locals.size = nL) (hstack : g.stack = As.reverse ++ .ref b :: rest) (hW : 2 * g.monitorRoom + (rest.map fun v => v.category).sum ≤ 8) (hdg : decode cc g.pc = .ok (.invokevirtual index, 3)) (hf : cells + mc ≤ R.cells ∧ slots + ms ≤ R.slots) :
    va_Run p l e R s m args below meth c H locs cells slots mc ms g rest (Qc (Value.ref b :: As).toArray) free := by
  obtain ⟨⟨hrc, hrs, hfr, hlo, hws, hcw⟩, hcode, hini, hy, hlen, hl, hin, hse⟩ := cw
  have hK : Back l R p e below s args y 3 8 (PreOf R mc ms Pc) (PostOf Qc mc ms free) := va_backW (hh := hh) (bytes := bytes) (maxL := maxL) (ret := ret) hM hp.1 hrc hrs hfr hlo hws hcw (fun a' U hW => word_at hW (Or.inl (by first | rfl | simp [Cond.onTables, Cond.keeps, Cond.steady])) hini)
  obtain ⟨hx, hb, hml, ho, -⟩ := S
  obtain ⟨-, ⟨cellB, hcB, hoB, hclB⟩, hPc⟩ := hp
  intro T hT X
  obtain ⟨v, vm₁, ⟨U', l2, c2, s2⟩, hW₁, X', ⟨g', mk, t, L, e1, e2, hq, h1, hL, h2, h3⟩, st⟩ := vx_callVW X hx (C := C) (hh := hh) (bytes := bytes) (maxL := maxL) (ret := ret) ho hl hin hse hcode hy hK (by rw [hT]; exact hcB) hoB hclB hg (hsize.trans hml.symm) (argsL := As) (rest := rest) (fun sig h => hn.trans (hlen sig h)) hstack hW (by rw [hb]; exact hdg)
    (fun vm₁ hW₁ => ⟨hf.1, hf.2, hPc (T.setVm vm₁) hT hW₁⟩)
  dsimp only [Pt.U, Pt.locs, Pt.cells, Pt.slots] at X' e1 e2 h1 h2 h3 st
  subst h1; subst h2; subst h3
  exact ⟨v, (T.setVm vm₁).calling g' mk (Value.ref b :: As).toArray, t, U', L, hT, X', hL, e1, e2, hq, st⟩
section
variable {y : MethodName} {bytes cc : ByteArray} {maxL nL mc ms n index : Nat} {ret : Option FieldType} {ws : List Cond} {rm : Room} {Pc : Array Value → State → Prop} {Qc : Array Value → State → Outcome → State → Prop} {XC : String → State → State → Prop} {free : Addr → Prop} {Ts : List Cond} {own C : String} {b : Addr} {As rest : List Value} {g : JFrame}
theorem vx_runVX {hh : List (Nat × Nat × Nat × Nat)} (S : CallFix p m c cc nL s args Ts own) (hM : vx_Met l y ws rm Pc Qc XC mc ms free) (cw : vx_CVW R s args own C index y bytes maxL ret hh ws rm mc ms n) (hp : PreV s H C b Pc As)
    (hg : g.method = m) (hn : As.length = n) (hsize : g.locals.size = nL) (hstack : g.stack = As.reverse ++ .ref b :: rest) (hW : 2 * g.monitorRoom + (rest.map fun v => v.category).sum ≤ 8) (hdg : decode cc g.pc = .ok (.invokevirtual index, 3)) (hf : cells + mc ≤ R.cells ∧ slots + ms ≤ R.slots) :
    vx_Run p l e R s m args below meth c H locs cells slots mc ms g rest (Qc (Value.ref b :: As).toArray) XC free := by
  obtain ⟨⟨hrc, hrs, hfr, hlo, hws, hcw⟩, hcode, hini, hy, hlen, hl, hin, hse⟩ := cw
  have hK : vx_Back l R p e below s args y 3 8 (PreOf R mc ms Pc) (PostOf Qc mc ms free) (vx_Post XC mc ms free) := vx_backW (hh := hh) (bytes := bytes) (maxL := maxL) (ret := ret) hM hp.1 hrc hrs hfr hlo hws hcw (fun a' U hW => word_at hW (Or.inl (by first | rfl | simp [Cond.onTables, Cond.keeps, Cond.steady])) hini)
  obtain ⟨hx, hb, hml, ho, -⟩ := S
  obtain ⟨-, ⟨cellB, hcB, hoB, hclB⟩, hPc⟩ := hp
  intro T hT X
  rcases vx_callVX X hx (C := C) (hh := hh) (bytes := bytes) (maxL := maxL) (ret := ret) ho hl hin hse hcode hy hK (by rw [hT]; exact hcB) hoB hclB hg (hsize.trans hml.symm) (argsL := As) (rest := rest) (fun sig h => hn.trans (hlen sig h)) hstack hW (by rw [hb]; exact hdg)
    (fun vm₁ hW₁ => ⟨hf.1, hf.2, hPc (T.setVm vm₁) hT hW₁⟩) with ⟨v, vm₁, ⟨U', l2, c2, s2⟩, hW₁, X', ⟨g', mk, t, L, e1, e2, hq, h1, hL, h2, h3⟩, st⟩ | ⟨q, vm₁, ⟨U', l2, c2, s2⟩, hW₁, X', ⟨g', mk, t, L, E, ce, e1, e2, hq, hce, hcv, hcl, h1, hL, h2, h3⟩, st⟩
  · dsimp only [Pt.U, Pt.locs, Pt.cells, Pt.slots] at X' e1 e2 h1 h2 h3 st
    subst h1; subst h2; subst h3
    exact Or.inl ⟨v, (T.setVm vm₁).calling g' mk (Value.ref b :: As).toArray, t, U', L, hT, X', hL, e1, e2, hq, st⟩
  · dsimp only [Pt.U, Pt.locs, Pt.cells, Pt.slots] at X' e1 e2 h1 h2 h3 st hcl
    subst h1; subst h2; subst h3
    exact Or.inr ⟨q, (T.setVm vm₁).calling g' mk (Value.ref b :: As).toArray, t, U', L, E, ce, hT, X', hL, e1, e2, hq, hce, hcv, vx_cls hW₁ hcl, st⟩
theorem vx_runSX {hh : List (Nat × Nat × Nat × Nat)} (S : CallFix p m c cc nL s args Ts own) (hM : vx_Met l y ws rm Pc Qc XC mc ms free) (cw : vx_CSW R s args own index y bytes maxL ret hh ws rm mc ms n) (hp : PreS s H Pc As)
    (hg : g.method = m) (hn : As.length = n) (hsize : g.locals.size = nL) (hstack : g.stack = As.reverse ++ rest) (hW : 2 * g.monitorRoom + (rest.map fun v => v.category).sum ≤ 8) (hdg : decode cc g.pc = .ok (.invokestatic index, 3)) (hf : cells + mc ≤ R.cells ∧ slots + ms ≤ R.slots) :
    vx_Run p l e R s m args below meth c H locs cells slots mc ms g rest (Qc As.toArray) XC free := by
  obtain ⟨⟨hrc, hrs, hfr, hlo, hws, hcw⟩, hcode, hini, hy, hlen, hl, hstt⟩ := cw
  have hK : vx_Back l R p e below s args y 3 8 (PreOf R mc ms Pc) (PostOf Qc mc ms free) (vx_Post XC mc ms free) := vx_backW (hh := hh) (bytes := bytes) (maxL := maxL) (ret := ret) hM hp.1 hrc hrs hfr hlo hws hcw (fun a' U hW => word_at hW (Or.inl (by first | rfl | simp [Cond.onTables, Cond.keeps, Cond.steady])) hini)
  obtain ⟨hx, hb, hml, ho, -⟩ := S
  intro T hT X
  rcases vx_callSX X hx (hh := hh) (bytes := bytes) (maxL := maxL) (ret := ret) ho hl hstt hini hcode hy hK hg (hsize.trans hml.symm) (argsL := As) (rest := rest) (fun sig h => hn.trans (hlen sig h)) hstack hW (by rw [hb]; exact hdg)
    (fun vm₁ hW₁ => ⟨hf.1, hf.2, hp.2 (T.setVm vm₁) hT hW₁⟩) with ⟨v, vm₁, ⟨U', l2, c2, s2⟩, hW₁, X', ⟨g', mk, t, L, e1, e2, hq, h1, hL, h2, h3⟩, st⟩ | ⟨q, vm₁, ⟨U', l2, c2, s2⟩, hW₁, X', ⟨g', mk, t, L, E, ce, e1, e2, hq, hce, hcv, hcl, h1, hL, h2, h3⟩, st⟩
  · dsimp only [Pt.U, Pt.locs, Pt.cells, Pt.slots] at X' e1 e2 h1 h2 h3 st
    subst h1; subst h2; subst h3
    exact Or.inl ⟨v, (T.setVm vm₁).calling g' mk As.toArray, t, U', L, hT, X', hL, e1, e2, hq, st⟩
  · dsimp only [Pt.U, Pt.locs, Pt.cells, Pt.slots] at X' e1 e2 h1 h2 h3 st hcl
    subst h1; subst h2; subst h3
    exact Or.inr ⟨q, (T.setVm vm₁).calling g' mk As.toArray, t, U', L, E, ce, hT, X', hL, e1, e2, hq, hce, hcv, vx_cls hW₁ hcl, st⟩
end
end VXH
theorem vx_ofWH {l : Launch} {y : MethodName} {ws ws' : List Cond} {rm : Room} {Pc : Array Value → State → Prop} {Qc : Array Value → State → Outcome → State → Prop} {XC : String → State → State → Prop} {mc ms : Nat} {free : Addr → Prop} {cc : ByteArray} {maxL : Nat} {ret : Option FieldType} {hh : List (Nat × Nat × Nat × Nat)}
    (hy : plainName y.cls = true) (hw : ws = Cond.codeWith y cc maxL ret hh :: ws')
    (body : ∀ p e s m args below meth c s₁, BodyLoose p l y (headSpec ws rm) cc maxL ret e s m args below meth c s₁ → c.maxLocals = maxL → Pc args s →
      W p l e (headSpec ws rm).room s m args below meth c s.heap [] 0 0 (vx_MQ below Qc XC args s mc ms free) (entryFrame m args maxL)) : vx_Met l y ws rm Pc Qc XC mc ms free := by
  refine MetFree.of_bodyS (code := cc) (maxLocals := maxL) (ret := ret) hy ?_ ?_
  · intro args s m h hn
    obtain ⟨m9, meth, c, hn9, h1, h2, h3, h4, -, h5, h6, -⟩ := Cond.codeWith_spec (atoms_spec (ws := ws) h _ (by rw [hw]; exact List.mem_cons_self))
    cases hn.symm.trans hn9
    exact ⟨meth, c, h1, h2, h3, h4, h5, h6⟩
  · intro p e s m args below meth c s₁ B hml hP _
    have hh0 : s₁.heap = s.heap := by rw [B.state]; rfl
    obtain ⟨t, a1, o, b1, b2, b3⟩ := body p e s m args below meth c s₁ B hml hP s₁ hh0 (Stand.of_body B)
    exact ⟨t, o, a1, b1, b2, b3⟩
/-! ===== END ===== -/
end
section
/-! ===== BEGIN printed: names, fields, word lists, decode rows ===== -/
def RX0 : String := "LayeredTable$Entries"
def TX0 : u_T := fun k => match k with
  | 0 => ("LayeredTable$Entries", "cards", "[I", true)
  | 1 => ("LayeredTable$Entries", "triggers", "[Z", true)
  | 2 => ("LayeredTable$Entries", "players", "[I", true)
  | 3 => ("LayeredTable$Entries", "targets", "[I", true)
  | 4 => ("LayeredTable$Entries", "ids", "[I", true)
  | _ => ("LayeredTable$Entries", "size", "I", false)
def tyX0 : Nat → FieldType := fun k => match k with
  | 0 => .array .int
  | 1 => .array .boolean
  | 2 => .array .int
  | 3 => .array .int
  | 4 => .array .int
  | _ => .int
abbrev wsX00 : List Cond := u_ws RX0 TX0 6
theorem nmX0 : ∀ a, a < 6 → ∀ b, b < 6 → a ≠ b → (TX0 a).2.1 ≠ (TX0 b).2.1 := by decide +kernel
theorem tyX0_ok : ∀ k, k < 6 → parseFieldDescriptor (TX0 k).2.2.1 = some (tyX0 k) := by decide +kernel
abbrev cX0_init : ByteArray := prog_2_method_1_code
def yX0_init : MethodName := ⟨RX0, "<init>", "()V"⟩
abbrev cX0_has : ByteArray := prog_2_method_2_code
def yX0_has : MethodName := ⟨RX0, "has", "(I)Z"⟩
abbrev cX0_indexOf : ByteArray := prog_2_method_3_code
def yX0_indexOf : MethodName := ⟨RX0, "indexOf", "(I)I"⟩
abbrev cX0_push : ByteArray := prog_2_method_4_code
def yX0_push : MethodName := ⟨RX0, "push", "(IZIII)V"⟩
abbrev cX0_remove : ByteArray := prog_2_method_5_code
def yX0_remove : MethodName := ⟨RX0, "remove", "(I)V"⟩
abbrev cX0_placeOf : ByteArray := prog_2_method_6_code
def yX0_placeOf : MethodName := ⟨RX0, "placeOf", "(I)I"⟩
def RX1 : String := "LayeredTable$Memory"
def TX1 : u_T := fun k => match k with
  | 0 => ("LayeredTable$Memory", "state", "[I", true)
  | 1 => ("LayeredTable$Memory", "kept", "[[I", true)
  | 2 => ("LayeredTable$Memory", "length", "I", false)
  | 3 => ("LayeredTable$Memory", "size", "I", false)
  | _ => ("LayeredTable$Memory", "next", "I", false)
def tyX1 : Nat → FieldType := fun k => match k with
  | 0 => .array .int
  | 1 => .array (.array .int)
  | 2 => .int
  | 3 => .int
  | _ => .int
abbrev wsX10 : List Cond := u_ws RX1 TX1 5
theorem nmX1 : ∀ a, a < 5 → ∀ b, b < 5 → a ≠ b → (TX1 a).2.1 ≠ (TX1 b).2.1 := by decide +kernel
theorem tyX1_ok : ∀ k, k < 5 → parseFieldDescriptor (TX1 k).2.2.1 = some (tyX1 k) := by decide +kernel
abbrev cX1_init : ByteArray := prog_3_method_1_code
def yX1_init : MethodName := ⟨RX1, "<init>", "()V"⟩
abbrev cX1_forget : ByteArray := prog_3_method_2_code
def yX1_forget : MethodName := ⟨RX1, "forget", "()V"⟩
abbrev cX1_start : ByteArray := prog_3_method_3_code
def yX1_start : MethodName := ⟨RX1, "start", "(II)V"⟩
abbrev cX1_write : ByteArray := prog_3_method_4_code
def yX1_write : MethodName := ⟨RX1, "write", "(IZII)V"⟩
abbrev cX1_knowsState : ByteArray := prog_3_method_5_code
def yX1_knowsState : MethodName := ⟨RX1, "knowsState", "()Z"⟩
abbrev cX1_isState : ByteArray := prog_3_method_6_code
def yX1_isState : MethodName := ⟨RX1, "isState", "([I)Z"⟩
abbrev cX1_keepState : ByteArray := prog_3_method_7_code
def yX1_keepState : MethodName := ⟨RX1, "keepState", "()V"⟩
def RX2 : String := "LayeredTable$Things"
def TX2 : u_T := fun k => match k with
  | 0 => ("LayeredTable$Things", "cards", "[I", true)
  | 1 => ("LayeredTable$Things", "players", "[I", true)
  | 2 => ("LayeredTable$Things", "targets", "[I", true)
  | 3 => ("LayeredTable$Things", "ids", "[I", true)
  | _ => ("LayeredTable$Things", "size", "I", false)
def tyX2 : Nat → FieldType := fun k => match k with
  | 0 => .array .int
  | 1 => .array .int
  | 2 => .array .int
  | 3 => .array .int
  | _ => .int
abbrev wsX20 : List Cond := u_ws RX2 TX2 5
theorem nmX2 : ∀ a, a < 5 → ∀ b, b < 5 → a ≠ b → (TX2 a).2.1 ≠ (TX2 b).2.1 := by decide +kernel
theorem tyX2_ok : ∀ k, k < 5 → parseFieldDescriptor (TX2 k).2.2.1 = some (tyX2 k) := by decide +kernel
abbrev cX2_init : ByteArray := prog_4_method_1_code
def yX2_init : MethodName := ⟨RX2, "<init>", "()V"⟩
abbrev cX2_has : ByteArray := prog_4_method_2_code
def yX2_has : MethodName := ⟨RX2, "has", "(I)Z"⟩
abbrev cX2_add : ByteArray := prog_4_method_3_code
def yX2_add : MethodName := ⟨RX2, "add", "(IIII)Z"⟩
abbrev cX2_remove : ByteArray := prog_4_method_4_code
def yX2_remove : MethodName := ⟨RX2, "remove", "(I)Z"⟩
abbrev cX2_placeOf : ByteArray := prog_4_method_5_code
def yX2_placeOf : MethodName := ⟨RX2, "placeOf", "(I)I"⟩
abbrev cX2_firstOf : ByteArray := prog_4_method_6_code
def yX2_firstOf : MethodName := ⟨RX2, "firstOf", "(I)I"⟩
def RX3 : String := "LayeredTable$View"
def TX3 : u_T := fun k => match k with
  | 0 => ("LayeredTable$View", "controllers", "[I", true)
  | 1 => ("LayeredTable$View", "kinds", "[I", true)
  | 2 => ("LayeredTable$View", "strengths", "[I", true)
  | 3 => ("LayeredTable$View", "kindsBefore", "[I", true)
  | _ => ("LayeredTable$View", "strengthsBefore", "[I", true)
def tyX3 : Nat → FieldType := fun k => match k with
  | 0 => .array .int
  | 1 => .array .int
  | 2 => .array .int
  | 3 => .array .int
  | _ => .array .int
abbrev wsX30 : List Cond := u_ws RX3 TX3 5
theorem nmX3 : ∀ a, a < 5 → ∀ b, b < 5 → a ≠ b → (TX3 a).2.1 ≠ (TX3 b).2.1 := by decide +kernel
theorem tyX3_ok : ∀ k, k < 5 → parseFieldDescriptor (TX3 k).2.2.1 = some (tyX3 k) := by decide +kernel
abbrev cX3_init : ByteArray := prog_5_method_1_code
def yX3_init : MethodName := ⟨RX3, "<init>", "()V"⟩
abbrev cX3_find : ByteArray := prog_5_method_2_code
def yX3_find : MethodName := ⟨RX3, "find", "(LLayeredTable$Things;I)V"⟩
abbrev cX3_goThrough : ByteArray := prog_5_method_3_code
def yX3_goThrough : MethodName := ⟨RX3, "goThrough", "(LLayeredTable$Things;I)V"⟩
abbrev cX3_takes : ByteArray := prog_5_method_4_code
def yX3_takes : MethodName := ⟨RX3, "takes", "(LLayeredTable$Things;II)Z"⟩
abbrev cX3_change : ByteArray := prog_5_method_5_code
def yX3_change : MethodName := ⟨RX3, "change", "(LLayeredTable$Things;II)V"⟩
def RX4 : String := "LayeredTable"
def TX4 : u_T := fun k => match k with
  | 0 => ("LayeredTable", "purses", "[I", true)
  | 1 => ("LayeredTable", "table", "LLayeredTable$Things;", true)
  | 2 => ("LayeredTable", "pile", "LLayeredTable$Entries;", true)
  | 3 => ("LayeredTable", "view", "LLayeredTable$View;", true)
  | 4 => ("LayeredTable", "memory", "LLayeredTable$Memory;", true)
  | 5 => ("LayeredTable", "turnPlayer", "I", false)
  | 6 => ("LayeredTable", "actingPlayer", "I", false)
  | 7 => ("LayeredTable", "passes", "I", false)
  | 8 => ("LayeredTable", "roundCount", "I", false)
  | 9 => ("LayeredTable", "loopCount", "I", false)
  | _ => ("LayeredTable", "nextId", "I", false)
def tyX4 : Nat → FieldType := fun k => match k with
  | 0 => .array .int
  | 1 => .object "LayeredTable$Things"
  | 2 => .object "LayeredTable$Entries"
  | 3 => .object "LayeredTable$View"
  | 4 => .object "LayeredTable$Memory"
  | 5 => .int
  | 6 => .int
  | 7 => .int
  | 8 => .int
  | 9 => .int
  | _ => .int
abbrev wsX40 : List Cond := u_ws RX4 TX4 11
theorem nmX4 : ∀ a, a < 11 → ∀ b, b < 11 → a ≠ b → (TX4 a).2.1 ≠ (TX4 b).2.1 := by decide +kernel
theorem tyX4_ok : ∀ k, k < 11 → parseFieldDescriptor (TX4 k).2.2.1 = some (tyX4 k) := by decide +kernel
abbrev cX4_init : ByteArray := prog_1_method_1_code
def yX4_init : MethodName := ⟨RX4, "<init>", "()V"⟩
abbrev cX4_play : ByteArray := prog_1_method_2_code
def yX4_play : MethodName := ⟨RX4, "play", "(II)I"⟩
abbrev cX4_obstacle : ByteArray := prog_1_method_3_code
def yX4_obstacle : MethodName := ⟨RX4, "obstacle", "(II)I"⟩
abbrev cX4_pass : ByteArray := prog_1_method_4_code
def yX4_pass : MethodName := ⟨RX4, "pass", "()I"⟩
abbrev cX4_settle : ByteArray := prog_1_method_5_code
def yX4_settle : MethodName := ⟨RX4, "settle", "(I)I"⟩
abbrev cX4_turn : ByteArray := prog_1_method_6_code
def yX4_turn : MethodName := ⟨RX4, "turn", "()I"⟩
abbrev cX4_acting : ByteArray := prog_1_method_7_code
def yX4_acting : MethodName := ⟨RX4, "acting", "()I"⟩
abbrev cX4_rounds : ByteArray := prog_1_method_8_code
def yX4_rounds : MethodName := ⟨RX4, "rounds", "()I"⟩
abbrev cX4_loops : ByteArray := prog_1_method_9_code
def yX4_loops : MethodName := ⟨RX4, "loops", "()I"⟩
abbrev cX4_coins : ByteArray := prog_1_method_10_code
def yX4_coins : MethodName := ⟨RX4, "coins", "(I)I"⟩
abbrev cX4_things : ByteArray := prog_1_method_11_code
def yX4_things : MethodName := ⟨RX4, "things", "()I"⟩
abbrev cX4_cardOf : ByteArray := prog_1_method_12_code
def yX4_cardOf : MethodName := ⟨RX4, "cardOf", "(I)I"⟩
abbrev cX4_controllerOf : ByteArray := prog_1_method_13_code
def yX4_controllerOf : MethodName := ⟨RX4, "controllerOf", "(II)I"⟩
abbrev cX4_kindsOf : ByteArray := prog_1_method_14_code
def yX4_kindsOf : MethodName := ⟨RX4, "kindsOf", "(II)I"⟩
abbrev cX4_strengthOf : ByteArray := prog_1_method_15_code
def yX4_strengthOf : MethodName := ⟨RX4, "strengthOf", "(II)I"⟩
abbrev cX4_power : ByteArray := prog_1_method_16_code
def yX4_power : MethodName := ⟨RX4, "power", "(I)I"⟩
abbrev cX4_stack : ByteArray := prog_1_method_17_code
def yX4_stack : MethodName := ⟨RX4, "stack", "()I"⟩
abbrev cX4_entryCard : ByteArray := prog_1_method_18_code
def yX4_entryCard : MethodName := ⟨RX4, "entryCard", "(I)I"⟩
abbrev cX4_isTrigger : ByteArray := prog_1_method_19_code
def yX4_isTrigger : MethodName := ⟨RX4, "isTrigger", "(I)Z"⟩
abbrev cX4_entryPlayer : ByteArray := prog_1_method_20_code
def yX4_entryPlayer : MethodName := ⟨RX4, "entryPlayer", "(I)I"⟩
abbrev cX4_entryTarget : ByteArray := prog_1_method_21_code
def yX4_entryTarget : MethodName := ⟨RX4, "entryTarget", "(I)I"⟩
abbrev cX4_requireThingAndLayer : ByteArray := prog_1_method_22_code
def yX4_requireThingAndLayer : MethodName := ⟨RX4, "requireThingAndLayer", "(II)V"⟩
abbrev cX4_nextPlayer : ByteArray := prog_1_method_23_code
def yX4_nextPlayer : MethodName := ⟨RX4, "nextPlayer", "(I)I"⟩
abbrev cX4_costOf : ByteArray := prog_1_method_24_code
def yX4_costOf : MethodName := ⟨RX4, "costOf", "(I)I"⟩
abbrev cX4_layerOf : ByteArray := prog_1_method_25_code
def yX4_layerOf : MethodName := ⟨RX4, "layerOf", "(I)I"⟩
abbrev cX4_isThing : ByteArray := prog_1_method_26_code
def yX4_isThing : MethodName := ⟨RX4, "isThing", "(I)Z"⟩
abbrev cX4_newId : ByteArray := prog_1_method_27_code
def yX4_newId : MethodName := ⟨RX4, "newId", "()I"⟩
abbrev cX4_coinsOf : ByteArray := prog_1_method_28_code
def yX4_coinsOf : MethodName := ⟨RX4, "coinsOf", "(I)I"⟩
abbrev cX4_pay : ByteArray := prog_1_method_29_code
def yX4_pay : MethodName := ⟨RX4, "pay", "(II)V"⟩
abbrev cX4_findObstacle : ByteArray := prog_1_method_30_code
def yX4_findObstacle : MethodName := ⟨RX4, "findObstacle", "(II)I"⟩
abbrev cX4_hasTarget : ByteArray := prog_1_method_31_code
def yX4_hasTarget : MethodName := ⟨RX4, "hasTarget", "(II)Z"⟩
abbrev cX4_targetId : ByteArray := prog_1_method_32_code
def yX4_targetId : MethodName := ⟨RX4, "targetId", "(II)I"⟩
abbrev cX4_targetPlace : ByteArray := prog_1_method_33_code
def yX4_targetPlace : MethodName := ⟨RX4, "targetPlace", "(I)I"⟩
abbrev cX4_beginTurn : ByteArray := prog_1_method_34_code
def yX4_beginTurn : MethodName := ⟨RX4, "beginTurn", "()V"⟩
abbrev cX4_resolveTop : ByteArray := prog_1_method_35_code
def yX4_resolveTop : MethodName := ⟨RX4, "resolveTop", "()V"⟩
abbrev cX4_cardEffect : ByteArray := prog_1_method_36_code
def yX4_cardEffect : MethodName := ⟨RX4, "cardEffect", "(III)I"⟩
abbrev cX4_triggerEffect : ByteArray := prog_1_method_37_code
def yX4_triggerEffect : MethodName := ⟨RX4, "triggerEffect", "(II)I"⟩
abbrev cX4_strike : ByteArray := prog_1_method_38_code
def yX4_strike : MethodName := ⟨RX4, "strike", "(I)I"⟩
abbrev cX4_enter : ByteArray := prog_1_method_39_code
def yX4_enter : MethodName := ⟨RX4, "enter", "(III)I"⟩
abbrev cX4_leave : ByteArray := prog_1_method_40_code
def yX4_leave : MethodName := ⟨RX4, "leave", "(I)I"⟩
abbrev cX4_raiseTriggers : ByteArray := prog_1_method_41_code
def yX4_raiseTriggers : MethodName := ⟨RX4, "raiseTriggers", "(I)V"⟩
abbrev cX4_hasTrigger : ByteArray := prog_1_method_42_code
def yX4_hasTrigger : MethodName := ⟨RX4, "hasTrigger", "(III)Z"⟩
abbrev cX4_breakLoop : ByteArray := prog_1_method_43_code
def yX4_breakLoop : MethodName := ⟨RX4, "breakLoop", "()V"⟩
def RX5 : String := "LayeredTableModel"
def TX5 : u_T := fun k => match k with
  | 0 => ("LayeredTableModel", "turn", "I", false)
  | 1 => ("LayeredTableModel", "acting", "I", false)
  | 2 => ("LayeredTableModel", "passes", "I", false)
  | 3 => ("LayeredTableModel", "rounds", "I", false)
  | 4 => ("LayeredTableModel", "loops", "I", false)
  | 5 => ("LayeredTableModel", "coins", "[I", true)
  | 6 => ("LayeredTableModel", "things", "I", false)
  | 7 => ("LayeredTableModel", "card", "[I", true)
  | 8 => ("LayeredTableModel", "owner", "[I", true)
  | 9 => ("LayeredTableModel", "name", "[I", true)
  | 10 => ("LayeredTableModel", "aim", "[I", true)
  | 11 => ("LayeredTableModel", "names", "I", false)
  | 12 => ("LayeredTableModel", "height", "I", false)
  | 13 => ("LayeredTableModel", "put", "[I", true)
  | 14 => ("LayeredTableModel", "triggered", "[Z", true)
  | 15 => ("LayeredTableModel", "whose", "[I", true)
  | 16 => ("LayeredTableModel", "mark", "[I", true)
  | 17 => ("LayeredTableModel", "target", "[I", true)
  | 18 => ("LayeredTableModel", "controller", "[I", true)
  | 19 => ("LayeredTableModel", "kinds", "[I", true)
  | 20 => ("LayeredTableModel", "strength", "[I", true)
  | 21 => ("LayeredTableModel", "kindsThen", "[I", true)
  | 22 => ("LayeredTableModel", "strengthThen", "[I", true)
  | 23 => ("LayeredTableModel", "known", "I", false)
  | 24 => ("LayeredTableModel", "states", "[I", true)
  | 25 => ("LayeredTableModel", "state", "[I", true)
  | _ => ("LayeredTableModel", "thrown", "I", false)
def tyX5 : Nat → FieldType := fun k => match k with
  | 0 => .int
  | 1 => .int
  | 2 => .int
  | 3 => .int
  | 4 => .int
  | 5 => .array .int
  | 6 => .int
  | 7 => .array .int
  | 8 => .array .int
  | 9 => .array .int
  | 10 => .array .int
  | 11 => .int
  | 12 => .int
  | 13 => .array .int
  | 14 => .array .boolean
  | 15 => .array .int
  | 16 => .array .int
  | 17 => .array .int
  | 18 => .array .int
  | 19 => .array .int
  | 20 => .array .int
  | 21 => .array .int
  | 22 => .array .int
  | 23 => .int
  | 24 => .array .int
  | 25 => .array .int
  | _ => .int
abbrev wsX50 : List Cond := u_ws RX5 TX5 27
theorem nmX5 : ∀ a, a < 27 → ∀ b, b < 27 → a ≠ b → (TX5 a).2.1 ≠ (TX5 b).2.1 := by decide +kernel
theorem tyX5_ok : ∀ k, k < 27 → parseFieldDescriptor (TX5 k).2.2.1 = some (tyX5 k) := by decide +kernel
abbrev cX5_init : ByteArray := prog_7_method_1_code
def yX5_init : MethodName := ⟨RX5, "<init>", "()V"⟩
abbrev cX5_thrown : ByteArray := prog_7_method_2_code
def yX5_thrown : MethodName := ⟨RX5, "thrown", "()I"⟩
abbrev cX5_isIn : ByteArray := prog_7_method_3_code
def yX5_isIn : MethodName := ⟨RX5, "isIn", "(III)Z"⟩
abbrev cX5_cost : ByteArray := prog_7_method_4_code
def yX5_cost : MethodName := ⟨RX5, "cost", "(I)I"⟩
abbrev cX5_thingOf : ByteArray := prog_7_method_5_code
def yX5_thingOf : MethodName := ⟨RX5, "thingOf", "(I)I"⟩
abbrev cX5_entryOf : ByteArray := prog_7_method_6_code
def yX5_entryOf : MethodName := ⟨RX5, "entryOf", "(I)I"⟩
abbrev cX5_layer : ByteArray := prog_7_method_7_code
def yX5_layer : MethodName := ⟨RX5, "layer", "(II)V"⟩
abbrev cX5_lays : ByteArray := prog_7_method_8_code
def yX5_lays : MethodName := ⟨RX5, "lays", "(I)V"⟩
abbrev cX5_triggers : ByteArray := prog_7_method_9_code
def yX5_triggers : MethodName := ⟨RX5, "triggers", "(II)V"⟩
abbrev cX5_triggersOf : ByteArray := prog_7_method_10_code
def yX5_triggersOf : MethodName := ⟨RX5, "triggersOf", "(III)V"⟩
abbrev cX5_enters : ByteArray := prog_7_method_11_code
def yX5_enters : MethodName := ⟨RX5, "enters", "(III)V"⟩
abbrev cX5_leaves : ByteArray := prog_7_method_12_code
def yX5_leaves : MethodName := ⟨RX5, "leaves", "(I)V"⟩
abbrev cX5_begins : ByteArray := prog_7_method_13_code
def yX5_begins : MethodName := ⟨RX5, "begins", "()V"⟩
abbrev cX5_removes : ByteArray := prog_7_method_14_code
def yX5_removes : MethodName := ⟨RX5, "removes", "(I)V"⟩
abbrev cX5_firstBeast : ByteArray := prog_7_method_15_code
def yX5_firstBeast : MethodName := ⟨RX5, "firstBeast", "()I"⟩
abbrev cX5_trigger : ByteArray := prog_7_method_16_code
def yX5_trigger : MethodName := ⟨RX5, "trigger", "(II)V"⟩
abbrev cX5_strikes : ByteArray := prog_7_method_17_code
def yX5_strikes : MethodName := ⟨RX5, "strikes", "(I)V"⟩
abbrev cX5_targetOf : ByteArray := prog_7_method_18_code
def yX5_targetOf : MethodName := ⟨RX5, "targetOf", "(I)I"⟩
abbrev cX5_laysState : ByteArray := prog_7_method_19_code
def yX5_laysState : MethodName := ⟨RX5, "laysState", "()V"⟩
abbrev cX5_remembers : ByteArray := prog_7_method_20_code
def yX5_remembers : MethodName := ⟨RX5, "remembers", "()V"⟩
abbrev cX5_resolves : ByteArray := prog_7_method_21_code
def yX5_resolves : MethodName := ⟨RX5, "resolves", "()V"⟩
abbrev cX5_obstacleOf : ByteArray := prog_7_method_22_code
def yX5_obstacleOf : MethodName := ⟨RX5, "obstacleOf", "(II)I"⟩
abbrev cX5_play : ByteArray := prog_7_method_23_code
def yX5_play : MethodName := ⟨RX5, "play", "(II)I"⟩
abbrev cX5_obstacle : ByteArray := prog_7_method_24_code
def yX5_obstacle : MethodName := ⟨RX5, "obstacle", "(II)I"⟩
abbrev cX5_pass : ByteArray := prog_7_method_25_code
def yX5_pass : MethodName := ⟨RX5, "pass", "()I"⟩
abbrev cX5_settle : ByteArray := prog_7_method_26_code
def yX5_settle : MethodName := ⟨RX5, "settle", "(I)I"⟩
abbrev cX5_turn : ByteArray := prog_7_method_27_code
def yX5_turn : MethodName := ⟨RX5, "turn", "()I"⟩
abbrev cX5_acting : ByteArray := prog_7_method_28_code
def yX5_acting : MethodName := ⟨RX5, "acting", "()I"⟩
abbrev cX5_rounds : ByteArray := prog_7_method_29_code
def yX5_rounds : MethodName := ⟨RX5, "rounds", "()I"⟩
abbrev cX5_loops : ByteArray := prog_7_method_30_code
def yX5_loops : MethodName := ⟨RX5, "loops", "()I"⟩
abbrev cX5_coins : ByteArray := prog_7_method_31_code
def yX5_coins : MethodName := ⟨RX5, "coins", "(I)I"⟩
abbrev cX5_things : ByteArray := prog_7_method_32_code
def yX5_things : MethodName := ⟨RX5, "things", "()I"⟩
abbrev cX5_cardOf : ByteArray := prog_7_method_33_code
def yX5_cardOf : MethodName := ⟨RX5, "cardOf", "(I)I"⟩
abbrev cX5_isLaid : ByteArray := prog_7_method_34_code
def yX5_isLaid : MethodName := ⟨RX5, "isLaid", "(II)Z"⟩
abbrev cX5_controllerOf : ByteArray := prog_7_method_35_code
def yX5_controllerOf : MethodName := ⟨RX5, "controllerOf", "(II)I"⟩
abbrev cX5_kindsOf : ByteArray := prog_7_method_36_code
def yX5_kindsOf : MethodName := ⟨RX5, "kindsOf", "(II)I"⟩
abbrev cX5_strengthOf : ByteArray := prog_7_method_37_code
def yX5_strengthOf : MethodName := ⟨RX5, "strengthOf", "(II)I"⟩
abbrev cX5_power : ByteArray := prog_7_method_38_code
def yX5_power : MethodName := ⟨RX5, "power", "(I)I"⟩
abbrev cX5_stack : ByteArray := prog_7_method_39_code
def yX5_stack : MethodName := ⟨RX5, "stack", "()I"⟩
abbrev cX5_isEntry : ByteArray := prog_7_method_40_code
def yX5_isEntry : MethodName := ⟨RX5, "isEntry", "(I)Z"⟩
abbrev cX5_entryCard : ByteArray := prog_7_method_41_code
def yX5_entryCard : MethodName := ⟨RX5, "entryCard", "(I)I"⟩
abbrev cX5_isTrigger : ByteArray := prog_7_method_42_code
def yX5_isTrigger : MethodName := ⟨RX5, "isTrigger", "(I)Z"⟩
abbrev cX5_entryPlayer : ByteArray := prog_7_method_43_code
def yX5_entryPlayer : MethodName := ⟨RX5, "entryPlayer", "(I)I"⟩
abbrev cX5_entryTarget : ByteArray := prog_7_method_44_code
def yX5_entryTarget : MethodName := ⟨RX5, "entryTarget", "(I)I"⟩
def RJ0 : String := "java/lang/String"
def TJ0 : u_T := fun k => match k with
  | _ => ("", "", "", false)
def tyJ0 : Nat → FieldType := fun k => match k with
  | _ => .int
abbrev wsJ00 : List Cond := u_ws RJ0 TJ0 0
theorem nmJ0 : ∀ a, a < 0 → ∀ b, b < 0 → a ≠ b → (TJ0 a).2.1 ≠ (TJ0 b).2.1 := by decide +kernel
theorem tyJ0_ok : ∀ k, k < 0 → parseFieldDescriptor (TJ0 k).2.2.1 = some (tyJ0 k) := by decide +kernel
def RJ10 : String := "java/lang/System"
def TJ10 : u_T := fun k => match k with
  | _ => ("", "", "", false)
def tyJ10 : Nat → FieldType := fun k => match k with
  | _ => .int
abbrev wsJ100 : List Cond := u_ws RJ10 TJ10 0
theorem nmJ10 : ∀ a, a < 0 → ∀ b, b < 0 → a ≠ b → (TJ10 a).2.1 ≠ (TJ10 b).2.1 := by decide +kernel
theorem tyJ10_ok : ∀ k, k < 0 → parseFieldDescriptor (TJ10 k).2.2.1 = some (tyJ10 k) := by decide +kernel
def RL : String := "LayeredTableLaw"
abbrev cL_play : ByteArray := method_3_code
def yL_play : MethodName := ⟨RL, "play", "(LLayeredTable;II[J)I"⟩
abbrev cL_obstacle : ByteArray := method_4_code
def yL_obstacle : MethodName := ⟨RL, "obstacle", "(LLayeredTable;II[J)I"⟩
abbrev cL_settle : ByteArray := method_5_code
def yL_settle : MethodName := ⟨RL, "settle", "(LLayeredTable;I[J)I"⟩
abbrev cL_coins : ByteArray := method_6_code
def yL_coins : MethodName := ⟨RL, "coins", "(LLayeredTable;I[J)I"⟩
abbrev cL_cardOf : ByteArray := method_7_code
def yL_cardOf : MethodName := ⟨RL, "cardOf", "(LLayeredTable;I[J)I"⟩
abbrev cL_controllerOf : ByteArray := method_8_code
def yL_controllerOf : MethodName := ⟨RL, "controllerOf", "(LLayeredTable;II[J)I"⟩
abbrev cL_kindsOf : ByteArray := method_9_code
def yL_kindsOf : MethodName := ⟨RL, "kindsOf", "(LLayeredTable;II[J)I"⟩
abbrev cL_strengthOf : ByteArray := method_10_code
def yL_strengthOf : MethodName := ⟨RL, "strengthOf", "(LLayeredTable;II[J)I"⟩
abbrev cL_power : ByteArray := method_11_code
def yL_power : MethodName := ⟨RL, "power", "(LLayeredTable;I[J)I"⟩
abbrev cL_entryCard : ByteArray := method_12_code
def yL_entryCard : MethodName := ⟨RL, "entryCard", "(LLayeredTable;I[J)I"⟩
abbrev cL_isTrigger : ByteArray := method_13_code
def yL_isTrigger : MethodName := ⟨RL, "isTrigger", "(LLayeredTable;I[J)I"⟩
abbrev cL_entryPlayer : ByteArray := method_14_code
def yL_entryPlayer : MethodName := ⟨RL, "entryPlayer", "(LLayeredTable;I[J)I"⟩
abbrev cL_entryTarget : ByteArray := method_15_code
def yL_entryTarget : MethodName := ⟨RL, "entryTarget", "(LLayeredTable;I[J)I"⟩
abbrev cL_law : ByteArray := code
def yL_law : MethodName := ⟨RL, "law", "([I)Z"⟩
def wsX0_init : List Cond := .code yX0_init cX0_init 1 none :: ([.methodLink RX0 3 objectInit, .instanceMethod objectInit, .code objectInit ⟨#[0xb1]⟩ 1 none, .arrayClass .int, .fieldLink RX0 9 "LayeredTable$Entries" "cards" "[I", .arrayClass .boolean, .fieldLink RX0 15 "LayeredTable$Entries" "triggers" "[Z", .fieldLink RX0 19 "LayeredTable$Entries" "players" "[I", .fieldLink RX0 22 "LayeredTable$Entries" "targets" "[I", .fieldLink RX0 25 "LayeredTable$Entries" "ids" "[I"] ++ wsX00)
def wsX0_has : List Cond := .code yX0_has cX0_has 2 (some .boolean) :: ([.fieldLink RX0 28 "LayeredTable$Entries" "size" "I"] ++ wsX00)
def wsX0_indexOf : List Cond := .code yX0_indexOf cX0_indexOf 2 (some .int) :: ([.fieldLink RX0 28 "LayeredTable$Entries" "size" "I", .methodLink RX0 32 yX0_has, .instanceMethod yX0_has, .selects RX0 yX0_has yX0_has, .initialized RX0, .code yX0_has cX0_has 2 (some .boolean)] ++ wsX00)
def wsX0_push : List Cond := .code yX0_push cX0_push 6 none :: ([.fieldLink RX0 28 "LayeredTable$Entries" "size" "I", .fieldLink RX0 9 "LayeredTable$Entries" "cards" "[I", .fieldLink RX0 15 "LayeredTable$Entries" "triggers" "[Z", .fieldLink RX0 19 "LayeredTable$Entries" "players" "[I", .fieldLink RX0 22 "LayeredTable$Entries" "targets" "[I", .fieldLink RX0 25 "LayeredTable$Entries" "ids" "[I"] ++ wsX00)
def wsX0_remove : List Cond := .code yX0_remove cX0_remove 3 none :: ([.fieldLink RX0 28 "LayeredTable$Entries" "size" "I", .fieldLink RX0 9 "LayeredTable$Entries" "cards" "[I", .fieldLink RX0 15 "LayeredTable$Entries" "triggers" "[Z", .fieldLink RX0 19 "LayeredTable$Entries" "players" "[I", .fieldLink RX0 22 "LayeredTable$Entries" "targets" "[I", .fieldLink RX0 25 "LayeredTable$Entries" "ids" "[I"] ++ wsX00)
def wsX0_placeOf : List Cond := .code yX0_placeOf cX0_placeOf 3 (some .int) :: ([.fieldLink RX0 28 "LayeredTable$Entries" "size" "I", .fieldLink RX0 25 "LayeredTable$Entries" "ids" "[I"] ++ wsX00)
def wsX1_init : List Cond := .code yX1_init cX1_init 1 none :: ([.methodLink RX1 3 objectInit, .instanceMethod objectInit, .code objectInit ⟨#[0xb1]⟩ 1 none, .arrayClass .int, .fieldLink RX1 11 "LayeredTable$Memory" "state" "[I", .classLink RX1 15 "[[I", .fieldLink RX1 17 "LayeredTable$Memory" "kept" "[[I"] ++ wsX10)
def wsX1_forget : List Cond := .code yX1_forget cX1_forget 1 none :: ([.fieldLink RX1 20 "LayeredTable$Memory" "size" "I", .fieldLink RX1 24 "LayeredTable$Memory" "next" "I"] ++ wsX10)
def wsX1_start : List Cond := .code yX1_start cX1_start 3 none :: ([.fieldLink RX1 11 "LayeredTable$Memory" "state" "[I", .fieldLink RX1 27 "LayeredTable$Memory" "length" "I"] ++ wsX10)
def wsX1_write : List Cond := .code yX1_write cX1_write 5 none :: ([.fieldLink RX1 27 "LayeredTable$Memory" "length" "I", .fieldLink RX1 11 "LayeredTable$Memory" "state" "[I"] ++ wsX10)
def wsX1_isState : List Cond := .code yX1_isState cX1_isState 3 (some .boolean) :: ([.fieldLink RX1 27 "LayeredTable$Memory" "length" "I", .fieldLink RX1 11 "LayeredTable$Memory" "state" "[I"] ++ wsX10)
def wsX1_knowsState : List Cond := .code yX1_knowsState cX1_knowsState 2 (some .boolean) :: ([.fieldLink RX1 20 "LayeredTable$Memory" "size" "I", .fieldLink RX1 17 "LayeredTable$Memory" "kept" "[[I", .methodLink RX1 30 yX1_isState, .instanceMethod yX1_isState, .selects RX1 yX1_isState yX1_isState, .initialized RX1, .code yX1_isState cX1_isState 3 (some .boolean), .fieldLink RX1 27 "LayeredTable$Memory" "length" "I", .fieldLink RX1 11 "LayeredTable$Memory" "state" "[I"] ++ wsX10)
def wsX1_keepState : List Cond := .code yX1_keepState cX1_keepState 1 none :: ([.fieldLink RX1 11 "LayeredTable$Memory" "state" "[I", .fieldLink RX1 17 "LayeredTable$Memory" "kept" "[[I", .fieldLink RX1 24 "LayeredTable$Memory" "next" "I", .methodLink RX1 34 arraycopyName, .native arraycopyName, .static arraycopyName, .initialized "java/lang/System", .fieldLink RX1 20 "LayeredTable$Memory" "size" "I"] ++ wsX10)
def wsX2_init : List Cond := .code yX2_init cX2_init 1 none :: ([.methodLink RX2 3 objectInit, .instanceMethod objectInit, .code objectInit ⟨#[0xb1]⟩ 1 none, .arrayClass .int, .fieldLink RX2 9 "LayeredTable$Things" "cards" "[I", .fieldLink RX2 15 "LayeredTable$Things" "players" "[I", .fieldLink RX2 18 "LayeredTable$Things" "targets" "[I", .fieldLink RX2 21 "LayeredTable$Things" "ids" "[I"] ++ wsX20)
def wsX2_has : List Cond := .code yX2_has cX2_has 2 (some .boolean) :: ([.fieldLink RX2 24 "LayeredTable$Things" "size" "I"] ++ wsX20)
def wsX2_add : List Cond := .code yX2_add cX2_add 5 (some .boolean) :: ([.fieldLink RX2 24 "LayeredTable$Things" "size" "I", .fieldLink RX2 9 "LayeredTable$Things" "cards" "[I", .fieldLink RX2 15 "LayeredTable$Things" "players" "[I", .fieldLink RX2 18 "LayeredTable$Things" "targets" "[I", .fieldLink RX2 21 "LayeredTable$Things" "ids" "[I"] ++ wsX20)
def wsX2_remove : List Cond := .code yX2_remove cX2_remove 3 (some .boolean) :: ([.fieldLink RX2 24 "LayeredTable$Things" "size" "I", .fieldLink RX2 9 "LayeredTable$Things" "cards" "[I", .fieldLink RX2 15 "LayeredTable$Things" "players" "[I", .fieldLink RX2 18 "LayeredTable$Things" "targets" "[I", .fieldLink RX2 21 "LayeredTable$Things" "ids" "[I", .methodLink RX2 28 yX2_has, .instanceMethod yX2_has, .selects RX2 yX2_has yX2_has, .initialized RX2, .code yX2_has cX2_has 2 (some .boolean)] ++ wsX20)
def wsX2_placeOf : List Cond := .code yX2_placeOf cX2_placeOf 3 (some .int) :: ([.fieldLink RX2 24 "LayeredTable$Things" "size" "I", .fieldLink RX2 21 "LayeredTable$Things" "ids" "[I"] ++ wsX20)
def wsX2_firstOf : List Cond := .code yX2_firstOf cX2_firstOf 3 (some .int) :: ([.fieldLink RX2 24 "LayeredTable$Things" "size" "I", .fieldLink RX2 9 "LayeredTable$Things" "cards" "[I"] ++ wsX20)
def wsX3_init : List Cond := .code yX3_init cX3_init 1 none :: ([.methodLink RX3 3 objectInit, .instanceMethod objectInit, .code objectInit ⟨#[0xb1]⟩ 1 none, .arrayClass .int, .fieldLink RX3 9 "LayeredTable$View" "controllers" "[I", .fieldLink RX3 15 "LayeredTable$View" "kinds" "[I", .fieldLink RX3 18 "LayeredTable$View" "strengths" "[I", .fieldLink RX3 21 "LayeredTable$View" "kindsBefore" "[I", .fieldLink RX3 24 "LayeredTable$View" "strengthsBefore" "[I"] ++ wsX30)
def wsX4_layerOf : List Cond := .code yX4_layerOf cX4_layerOf 1 (some .int) :: ([.fieldLink RX4 162 "LayeredTable" "LAYER_OF" "[I"])
def wsX3_takes : List Cond := .code yX3_takes cX3_takes 5 (some .boolean) :: ([.fieldLink RX3 21 "LayeredTable$View" "kindsBefore" "[I", .fieldLink RX3 33 "LayeredTable$Things" "cards" "[I", .fieldLink RX3 55 "LayeredTable$Things" "ids" "[I", .fieldLink RX3 58 "LayeredTable$Things" "targets" "[I", .fieldLink RX3 9 "LayeredTable$View" "controllers" "[I", .fieldLink RX3 24 "LayeredTable$View" "strengthsBefore" "[I"] ++ wsX30 ++ wsX20)
def wsX3_change : List Cond := .code yX3_change cX3_change 4 none :: ([.fieldLink RX3 33 "LayeredTable$Things" "cards" "[I", .fieldLink RX3 9 "LayeredTable$View" "controllers" "[I", .fieldLink RX3 36 "LayeredTable$Things" "players" "[I", .fieldLink RX3 15 "LayeredTable$View" "kinds" "[I", .fieldLink RX3 18 "LayeredTable$View" "strengths" "[I"] ++ wsX20 ++ wsX30)
def wsX3_goThrough : List Cond := .code yX3_goThrough cX3_goThrough 6 none :: ([.fieldLink RX3 27 "LayeredTable$Things" "size" "I", .fieldLink RX3 21 "LayeredTable$View" "kindsBefore" "[I", .fieldLink RX3 15 "LayeredTable$View" "kinds" "[I", .fieldLink RX3 24 "LayeredTable$View" "strengthsBefore" "[I", .fieldLink RX3 18 "LayeredTable$View" "strengths" "[I", .fieldLink RX3 33 "LayeredTable$Things" "cards" "[I", .static yX4_layerOf, .initialized RX4, .code yX4_layerOf cX4_layerOf 1 (some .int), .fieldLink RX4 162 "LayeredTable" "LAYER_OF" "[I", .methodLink RX3 47 yX3_takes, .instanceMethod yX3_takes, .selects RX3 yX3_takes yX3_takes, .initialized RX3, .code yX3_takes cX3_takes 5 (some .boolean), .fieldLink RX3 55 "LayeredTable$Things" "ids" "[I", .fieldLink RX3 58 "LayeredTable$Things" "targets" "[I", .fieldLink RX3 9 "LayeredTable$View" "controllers" "[I", .methodLink RX3 51 yX3_change, .instanceMethod yX3_change, .selects RX3 yX3_change yX3_change, .code yX3_change cX3_change 4 none, .fieldLink RX3 36 "LayeredTable$Things" "players" "[I"] ++ wsX20 ++ wsX30)
def wsX3_find_r1 : List Cond := [Cond.fieldLink RX3 27 "LayeredTable$Things" "size" "I", Cond.fieldLink RX3 33 "LayeredTable$Things" "cards" "[I", Cond.fieldLink RX3 9 "LayeredTable$View" "controllers" "[I", Cond.fieldLink RX3 36 "LayeredTable$Things" "players" "[I", Cond.fieldLink RX3 15 "LayeredTable$View" "kinds" "[I", Cond.fieldLink RX3 18 "LayeredTable$View" "strengths" "[I", Cond.methodLink RX3 39 yX3_goThrough, Cond.instanceMethod yX3_goThrough, Cond.selects RX3 yX3_goThrough yX3_goThrough, Cond.initialized RX3, Cond.code yX3_goThrough cX3_goThrough 6 none, Cond.fieldLink RX3 21 "LayeredTable$View" "kindsBefore" "[I", Cond.fieldLink RX3 24 "LayeredTable$View" "strengthsBefore" "[I", Cond.static yX4_layerOf, Cond.initialized RX4, Cond.code yX4_layerOf cX4_layerOf 1 (some .int), Cond.fieldLink RX4 162 "LayeredTable" "LAYER_OF" "[I", Cond.methodLink RX3 47 yX3_takes, Cond.instanceMethod yX3_takes, Cond.selects RX3 yX3_takes yX3_takes, Cond.code yX3_takes cX3_takes 5 (some .boolean), Cond.fieldLink RX3 55 "LayeredTable$Things" "ids" "[I", Cond.fieldLink RX3 58 "LayeredTable$Things" "targets" "[I", Cond.methodLink RX3 51 yX3_change]
def wsX3_find_r2 : List Cond := [Cond.instanceMethod yX3_change, Cond.selects RX3 yX3_change yX3_change, Cond.code yX3_change cX3_change 4 none]
def wsX3_find : List Cond := .code yX3_find cX3_find 5 none :: ((wsX3_find_r1 ++ wsX3_find_r2) ++ wsX20 ++ wsX30)
def wsX4_init_r1 : List Cond := [Cond.methodLink RX4 1 objectInit, Cond.instanceMethod objectInit, Cond.code objectInit ⟨#[0xb1]⟩ 1 none, Cond.arrayClass .int, Cond.fieldLink RX4 9 "LayeredTable" "purses" "[I", Cond.classLink RX4 13 RX2, Cond.instantiable RX2 5, Cond.initialized RX2, Cond.fieldLink RX4 16 "LayeredTable" "table" "LLayeredTable$Things;", Cond.classLink RX4 20 RX0, Cond.instantiable RX0 6, Cond.initialized RX0, Cond.fieldLink RX4 23 "LayeredTable" "pile" "LLayeredTable$Entries;", Cond.classLink RX4 27 RX3, Cond.instantiable RX3 5, Cond.initialized RX3, Cond.fieldLink RX4 30 "LayeredTable" "view" "LLayeredTable$View;", Cond.classLink RX4 34 RX1, Cond.instantiable RX1 5, Cond.initialized RX1, Cond.fieldLink RX4 37 "LayeredTable" "memory" "LLayeredTable$Memory;", Cond.instanceMethod yX2_init, Cond.code yX2_init cX2_init 1 none, Cond.methodLink RX2 3 objectInit]
def wsX4_init_r2 : List Cond := [Cond.fieldLink RX2 9 "LayeredTable$Things" "cards" "[I", Cond.fieldLink RX2 15 "LayeredTable$Things" "players" "[I", Cond.fieldLink RX2 18 "LayeredTable$Things" "targets" "[I", Cond.fieldLink RX2 21 "LayeredTable$Things" "ids" "[I", Cond.instanceMethod yX0_init, Cond.code yX0_init cX0_init 1 none, Cond.methodLink RX0 3 objectInit, Cond.fieldLink RX0 9 "LayeredTable$Entries" "cards" "[I", Cond.arrayClass .boolean, Cond.fieldLink RX0 15 "LayeredTable$Entries" "triggers" "[Z", Cond.fieldLink RX0 19 "LayeredTable$Entries" "players" "[I", Cond.fieldLink RX0 22 "LayeredTable$Entries" "targets" "[I", Cond.fieldLink RX0 25 "LayeredTable$Entries" "ids" "[I", Cond.instanceMethod yX3_init, Cond.code yX3_init cX3_init 1 none, Cond.methodLink RX3 3 objectInit, Cond.fieldLink RX3 9 "LayeredTable$View" "controllers" "[I", Cond.fieldLink RX3 15 "LayeredTable$View" "kinds" "[I", Cond.fieldLink RX3 18 "LayeredTable$View" "strengths" "[I", Cond.fieldLink RX3 21 "LayeredTable$View" "kindsBefore" "[I", Cond.fieldLink RX3 24 "LayeredTable$View" "strengthsBefore" "[I", Cond.instanceMethod yX1_init, Cond.code yX1_init cX1_init 1 none, Cond.methodLink RX1 3 objectInit]
def wsX4_init_r3 : List Cond := [Cond.fieldLink RX1 11 "LayeredTable$Memory" "state" "[I", Cond.classLink RX1 15 "[[I", Cond.fieldLink RX1 17 "LayeredTable$Memory" "kept" "[[I"]
def wsX4_init : List Cond := .code yX4_init cX4_init 2 none :: ((wsX4_init_r1 ++ (wsX4_init_r2 ++ wsX4_init_r3)) ++ wsX40 ++ wsX20 ++ wsX00 ++ wsX30 ++ wsX10)
def wsX4_isThing : List Cond := .code yX4_isThing cX4_isThing 1 (some .boolean) :: ([])
def wsX4_coinsOf : List Cond := .code yX4_coinsOf cX4_coinsOf 2 (some .int) :: ([.fieldLink RX4 9 "LayeredTable" "purses" "[I"] ++ wsX40)
def wsX4_costOf : List Cond := .code yX4_costOf cX4_costOf 1 (some .int) :: ([.fieldLink RX4 159 "LayeredTable" "COST_OF" "[I"])
def wsX4_hasTarget : List Cond := .code yX4_hasTarget cX4_hasTarget 3 (some .boolean) :: ([.fieldLink RX4 16 "LayeredTable" "table" "LLayeredTable$Things;", .fieldLink RX4 23 "LayeredTable" "pile" "LLayeredTable$Entries;", .fieldLink RX4 147 "LayeredTable$Entries" "triggers" "[Z", .methodLink RX4 115 yX2_has, .instanceMethod yX2_has, .selects RX2 yX2_has yX2_has, .initialized RX2, .code yX2_has cX2_has 2 (some .boolean), .fieldLink RX2 24 "LayeredTable$Things" "size" "I", .methodLink RX4 140 yX0_has, .instanceMethod yX0_has, .selects RX0 yX0_has yX0_has, .initialized RX0, .code yX0_has cX0_has 2 (some .boolean), .fieldLink RX0 28 "LayeredTable$Entries" "size" "I", .methodLink RX4 144 yX0_indexOf, .instanceMethod yX0_indexOf, .selects RX0 yX0_indexOf yX0_indexOf, .code yX0_indexOf cX0_indexOf 2 (some .int), .methodLink RX0 32 yX0_has] ++ wsX40 ++ wsX00 ++ wsX20)
def wsX4_findObstacle_r1 : List Cond := [Cond.fieldLink RX4 23 "LayeredTable" "pile" "LLayeredTable$Entries;", Cond.fieldLink RX4 89 "LayeredTable$Entries" "size" "I", Cond.fieldLink RX4 57 "LayeredTable" "actingPlayer" "I", Cond.fieldLink RX4 103 "LayeredTable" "turnPlayer" "I", Cond.methodLink RX4 168 yX4_isThing, Cond.static yX4_isThing, Cond.initialized RX4, Cond.code yX4_isThing cX4_isThing 1 (some .boolean), Cond.methodLink RX4 171 yX4_coinsOf, Cond.instanceMethod yX4_coinsOf, Cond.selects RX4 yX4_coinsOf yX4_coinsOf, Cond.code yX4_coinsOf cX4_coinsOf 2 (some .int), Cond.fieldLink RX4 9 "LayeredTable" "purses" "[I", Cond.methodLink RX4 61 yX4_costOf, Cond.static yX4_costOf, Cond.code yX4_costOf cX4_costOf 1 (some .int), Cond.fieldLink RX4 159 "LayeredTable" "COST_OF" "[I", Cond.methodLink RX4 174 yX4_hasTarget, Cond.instanceMethod yX4_hasTarget, Cond.selects RX4 yX4_hasTarget yX4_hasTarget, Cond.code yX4_hasTarget cX4_hasTarget 3 (some .boolean), Cond.fieldLink RX4 16 "LayeredTable" "table" "LLayeredTable$Things;", Cond.fieldLink RX4 147 "LayeredTable$Entries" "triggers" "[Z", Cond.methodLink RX4 115 yX2_has]
def wsX4_findObstacle_r2 : List Cond := [Cond.instanceMethod yX2_has, Cond.selects RX2 yX2_has yX2_has, Cond.initialized RX2, Cond.code yX2_has cX2_has 2 (some .boolean), Cond.fieldLink RX2 24 "LayeredTable$Things" "size" "I", Cond.methodLink RX4 140 yX0_has, Cond.instanceMethod yX0_has, Cond.selects RX0 yX0_has yX0_has, Cond.initialized RX0, Cond.code yX0_has cX0_has 2 (some .boolean), Cond.fieldLink RX0 28 "LayeredTable$Entries" "size" "I", Cond.methodLink RX4 144 yX0_indexOf, Cond.instanceMethod yX0_indexOf, Cond.selects RX0 yX0_indexOf yX0_indexOf, Cond.code yX0_indexOf cX0_indexOf 2 (some .int), Cond.methodLink RX0 32 yX0_has]
def wsX4_findObstacle : List Cond := .code yX4_findObstacle cX4_findObstacle 3 (some .int) :: ((wsX4_findObstacle_r1 ++ wsX4_findObstacle_r2) ++ wsX40 ++ wsX00 ++ wsX20)
def wsX4_pay : List Cond := .code yX4_pay cX4_pay 3 none :: ([.fieldLink RX4 9 "LayeredTable" "purses" "[I"] ++ wsX40)
def wsX4_targetId : List Cond := .code yX4_targetId cX4_targetId 3 (some .int) :: ([.fieldLink RX4 16 "LayeredTable" "table" "LLayeredTable$Things;", .fieldLink RX4 178 "LayeredTable$Things" "ids" "[I", .fieldLink RX4 23 "LayeredTable" "pile" "LLayeredTable$Entries;", .fieldLink RX4 181 "LayeredTable$Entries" "ids" "[I", .methodLink RX4 115 yX2_has, .instanceMethod yX2_has, .selects RX2 yX2_has yX2_has, .initialized RX2, .code yX2_has cX2_has 2 (some .boolean), .fieldLink RX2 24 "LayeredTable$Things" "size" "I", .methodLink RX4 140 yX0_has, .instanceMethod yX0_has, .selects RX0 yX0_has yX0_has, .initialized RX0, .code yX0_has cX0_has 2 (some .boolean), .fieldLink RX0 28 "LayeredTable$Entries" "size" "I", .methodLink RX4 144 yX0_indexOf, .instanceMethod yX0_indexOf, .selects RX0 yX0_indexOf yX0_indexOf, .code yX0_indexOf cX0_indexOf 2 (some .int), .methodLink RX0 32 yX0_has] ++ wsX40 ++ wsX20 ++ wsX00)
def wsX4_newId : List Cond := .code yX4_newId cX4_newId 2 (some .int) :: ([.fieldLink RX4 165 "LayeredTable" "nextId" "I"] ++ wsX40)
def wsX4_nextPlayer : List Cond := .code yX4_nextPlayer cX4_nextPlayer 1 (some .int) :: ([])
def wsX4_play_r1 : List Cond := [Cond.classLink RX4 41 "java/lang/IndexOutOfBoundsException", Cond.initialized "java/lang/IndexOutOfBoundsException", Cond.classLink RX4 52 "java/lang/IllegalStateException", Cond.initialized "java/lang/IllegalStateException", Cond.fieldLink RX4 57 "LayeredTable" "actingPlayer" "I", Cond.fieldLink RX4 23 "LayeredTable" "pile" "LLayeredTable$Entries;", Cond.fieldLink RX4 37 "LayeredTable" "memory" "LLayeredTable$Memory;", Cond.fieldLink RX4 83 "LayeredTable" "passes" "I", Cond.fieldLink RX4 89 "LayeredTable$Entries" "size" "I", Cond.methodLink RX4 48 yX4_findObstacle, Cond.instanceMethod yX4_findObstacle, Cond.selects RX4 yX4_findObstacle yX4_findObstacle, Cond.initialized RX4, Cond.code yX4_findObstacle cX4_findObstacle 3 (some .int), Cond.fieldLink RX4 103 "LayeredTable" "turnPlayer" "I", Cond.methodLink RX4 168 yX4_isThing, Cond.static yX4_isThing, Cond.code yX4_isThing cX4_isThing 1 (some .boolean), Cond.methodLink RX4 171 yX4_coinsOf, Cond.instanceMethod yX4_coinsOf, Cond.selects RX4 yX4_coinsOf yX4_coinsOf, Cond.code yX4_coinsOf cX4_coinsOf 2 (some .int), Cond.fieldLink RX4 9 "LayeredTable" "purses" "[I", Cond.methodLink RX4 61 yX4_costOf]
def wsX4_play_r2 : List Cond := [Cond.static yX4_costOf, Cond.code yX4_costOf cX4_costOf 1 (some .int), Cond.fieldLink RX4 159 "LayeredTable" "COST_OF" "[I", Cond.methodLink RX4 174 yX4_hasTarget, Cond.instanceMethod yX4_hasTarget, Cond.selects RX4 yX4_hasTarget yX4_hasTarget, Cond.code yX4_hasTarget cX4_hasTarget 3 (some .boolean), Cond.fieldLink RX4 16 "LayeredTable" "table" "LLayeredTable$Things;", Cond.fieldLink RX4 147 "LayeredTable$Entries" "triggers" "[Z", Cond.methodLink RX4 115 yX2_has, Cond.instanceMethod yX2_has, Cond.selects RX2 yX2_has yX2_has, Cond.initialized RX2, Cond.code yX2_has cX2_has 2 (some .boolean), Cond.fieldLink RX2 24 "LayeredTable$Things" "size" "I", Cond.methodLink RX4 140 yX0_has, Cond.instanceMethod yX0_has, Cond.selects RX0 yX0_has yX0_has, Cond.initialized RX0, Cond.code yX0_has cX0_has 2 (some .boolean), Cond.fieldLink RX0 28 "LayeredTable$Entries" "size" "I", Cond.methodLink RX4 144 yX0_indexOf, Cond.instanceMethod yX0_indexOf, Cond.selects RX0 yX0_indexOf yX0_indexOf]
def wsX4_play_r3 : List Cond := [Cond.code yX0_indexOf cX0_indexOf 2 (some .int), Cond.methodLink RX0 32 yX0_has, Cond.methodLink RX4 65 yX4_pay, Cond.instanceMethod yX4_pay, Cond.selects RX4 yX4_pay yX4_pay, Cond.code yX4_pay cX4_pay 3 none, Cond.methodLink RX4 69 yX4_targetId, Cond.instanceMethod yX4_targetId, Cond.selects RX4 yX4_targetId yX4_targetId, Cond.code yX4_targetId cX4_targetId 3 (some .int), Cond.fieldLink RX4 178 "LayeredTable$Things" "ids" "[I", Cond.fieldLink RX4 181 "LayeredTable$Entries" "ids" "[I", Cond.methodLink RX4 72 yX4_newId, Cond.instanceMethod yX4_newId, Cond.selects RX4 yX4_newId yX4_newId, Cond.code yX4_newId cX4_newId 2 (some .int), Cond.fieldLink RX4 165 "LayeredTable" "nextId" "I", Cond.methodLink RX4 76 yX0_push, Cond.instanceMethod yX0_push, Cond.selects RX0 yX0_push yX0_push, Cond.code yX0_push cX0_push 6 none, Cond.fieldLink RX0 9 "LayeredTable$Entries" "cards" "[I", Cond.fieldLink RX0 15 "LayeredTable$Entries" "triggers" "[Z", Cond.fieldLink RX0 19 "LayeredTable$Entries" "players" "[I"]
def wsX4_play_r4 : List Cond := [Cond.fieldLink RX0 22 "LayeredTable$Entries" "targets" "[I", Cond.fieldLink RX0 25 "LayeredTable$Entries" "ids" "[I", Cond.methodLink RX4 80 yX1_forget, Cond.instanceMethod yX1_forget, Cond.selects RX1 yX1_forget yX1_forget, Cond.initialized RX1, Cond.code yX1_forget cX1_forget 1 none, Cond.fieldLink RX1 20 "LayeredTable$Memory" "size" "I", Cond.fieldLink RX1 24 "LayeredTable$Memory" "next" "I", Cond.methodLink RX4 86 yX4_nextPlayer, Cond.static yX4_nextPlayer, Cond.code yX4_nextPlayer cX4_nextPlayer 1 (some .int)]
def wsX4_play : List Cond := .code yX4_play cX4_play 3 (some .int) :: ((wsX4_play_r1 ++ (wsX4_play_r2 ++ (wsX4_play_r3 ++ wsX4_play_r4))) ++ wsX40 ++ wsX00 ++ wsX20 ++ wsX10 ++ (vx_atS RX4 45 "java/lang/IndexOutOfBoundsException" ["java/lang/RuntimeException", "java/lang/Exception"]).filter goodWord ++ (vx_atS RX4 56 "java/lang/IllegalStateException" ["java/lang/RuntimeException", "java/lang/Exception"]).filter goodWord)
def wsX4_obstacle_r1 : List Cond := [Cond.classLink RX4 41 "java/lang/IndexOutOfBoundsException", Cond.initialized "java/lang/IndexOutOfBoundsException", Cond.methodLink RX4 48 yX4_findObstacle, Cond.instanceMethod yX4_findObstacle, Cond.selects RX4 yX4_findObstacle yX4_findObstacle, Cond.initialized RX4, Cond.code yX4_findObstacle cX4_findObstacle 3 (some .int), Cond.fieldLink RX4 23 "LayeredTable" "pile" "LLayeredTable$Entries;", Cond.fieldLink RX4 89 "LayeredTable$Entries" "size" "I", Cond.fieldLink RX4 57 "LayeredTable" "actingPlayer" "I", Cond.fieldLink RX4 103 "LayeredTable" "turnPlayer" "I", Cond.methodLink RX4 168 yX4_isThing, Cond.static yX4_isThing, Cond.code yX4_isThing cX4_isThing 1 (some .boolean), Cond.methodLink RX4 171 yX4_coinsOf, Cond.instanceMethod yX4_coinsOf, Cond.selects RX4 yX4_coinsOf yX4_coinsOf, Cond.code yX4_coinsOf cX4_coinsOf 2 (some .int), Cond.fieldLink RX4 9 "LayeredTable" "purses" "[I", Cond.methodLink RX4 61 yX4_costOf, Cond.static yX4_costOf, Cond.code yX4_costOf cX4_costOf 1 (some .int), Cond.fieldLink RX4 159 "LayeredTable" "COST_OF" "[I", Cond.methodLink RX4 174 yX4_hasTarget]
def wsX4_obstacle_r2 : List Cond := [Cond.instanceMethod yX4_hasTarget, Cond.selects RX4 yX4_hasTarget yX4_hasTarget, Cond.code yX4_hasTarget cX4_hasTarget 3 (some .boolean), Cond.fieldLink RX4 16 "LayeredTable" "table" "LLayeredTable$Things;", Cond.fieldLink RX4 147 "LayeredTable$Entries" "triggers" "[Z", Cond.methodLink RX4 115 yX2_has, Cond.instanceMethod yX2_has, Cond.selects RX2 yX2_has yX2_has, Cond.initialized RX2, Cond.code yX2_has cX2_has 2 (some .boolean), Cond.fieldLink RX2 24 "LayeredTable$Things" "size" "I", Cond.methodLink RX4 140 yX0_has, Cond.instanceMethod yX0_has, Cond.selects RX0 yX0_has yX0_has, Cond.initialized RX0, Cond.code yX0_has cX0_has 2 (some .boolean), Cond.fieldLink RX0 28 "LayeredTable$Entries" "size" "I", Cond.methodLink RX4 144 yX0_indexOf, Cond.instanceMethod yX0_indexOf, Cond.selects RX0 yX0_indexOf yX0_indexOf, Cond.code yX0_indexOf cX0_indexOf 2 (some .int), Cond.methodLink RX0 32 yX0_has]
def wsX4_obstacle : List Cond := .code yX4_obstacle cX4_obstacle 3 (some .int) :: ((wsX4_obstacle_r1 ++ wsX4_obstacle_r2) ++ wsX40 ++ wsX00 ++ wsX20 ++ (vx_atS RX4 45 "java/lang/IndexOutOfBoundsException" ["java/lang/RuntimeException", "java/lang/Exception"]).filter goodWord)
def wsX4_enter : List Cond := .code yX4_enter cX4_enter 4 (some .int) :: ([.fieldLink RX4 16 "LayeredTable" "table" "LLayeredTable$Things;", .methodLink RX4 72 yX4_newId, .instanceMethod yX4_newId, .selects RX4 yX4_newId yX4_newId, .initialized RX4, .code yX4_newId cX4_newId 2 (some .int), .fieldLink RX4 165 "LayeredTable" "nextId" "I", .methodLink RX4 218 yX2_add, .instanceMethod yX2_add, .selects RX2 yX2_add yX2_add, .initialized RX2, .code yX2_add cX2_add 5 (some .boolean), .fieldLink RX2 24 "LayeredTable$Things" "size" "I", .fieldLink RX2 9 "LayeredTable$Things" "cards" "[I", .fieldLink RX2 15 "LayeredTable$Things" "players" "[I", .fieldLink RX2 18 "LayeredTable$Things" "targets" "[I", .fieldLink RX2 21 "LayeredTable$Things" "ids" "[I"] ++ wsX40 ++ wsX20)
def wsX4_leave : List Cond := .code yX4_leave cX4_leave 2 (some .int) :: ([.fieldLink RX4 16 "LayeredTable" "table" "LLayeredTable$Things;", .methodLink RX4 222 yX2_remove, .instanceMethod yX2_remove, .selects RX2 yX2_remove yX2_remove, .initialized RX2, .code yX2_remove cX2_remove 3 (some .boolean), .fieldLink RX2 24 "LayeredTable$Things" "size" "I", .fieldLink RX2 9 "LayeredTable$Things" "cards" "[I", .fieldLink RX2 15 "LayeredTable$Things" "players" "[I", .fieldLink RX2 18 "LayeredTable$Things" "targets" "[I", .fieldLink RX2 21 "LayeredTable$Things" "ids" "[I", .methodLink RX2 28 yX2_has, .instanceMethod yX2_has, .selects RX2 yX2_has yX2_has, .code yX2_has cX2_has 2 (some .boolean)] ++ wsX40 ++ wsX20)
def wsX4_triggerEffect_r1 : List Cond := [Cond.fieldLink RX4 16 "LayeredTable" "table" "LLayeredTable$Things;", Cond.methodLink RX4 65 yX4_pay, Cond.instanceMethod yX4_pay, Cond.selects RX4 yX4_pay yX4_pay, Cond.initialized RX4, Cond.code yX4_pay cX4_pay 3 none, Cond.fieldLink RX4 9 "LayeredTable" "purses" "[I", Cond.methodLink RX4 206 yX4_enter, Cond.instanceMethod yX4_enter, Cond.selects RX4 yX4_enter yX4_enter, Cond.code yX4_enter cX4_enter 4 (some .int), Cond.methodLink RX4 72 yX4_newId, Cond.instanceMethod yX4_newId, Cond.selects RX4 yX4_newId yX4_newId, Cond.code yX4_newId cX4_newId 2 (some .int), Cond.fieldLink RX4 165 "LayeredTable" "nextId" "I", Cond.methodLink RX4 218 yX2_add, Cond.instanceMethod yX2_add, Cond.selects RX2 yX2_add yX2_add, Cond.initialized RX2, Cond.code yX2_add cX2_add 5 (some .boolean), Cond.fieldLink RX2 24 "LayeredTable$Things" "size" "I", Cond.fieldLink RX2 9 "LayeredTable$Things" "cards" "[I", Cond.fieldLink RX2 15 "LayeredTable$Things" "players" "[I"]
def wsX4_triggerEffect_r2 : List Cond := [Cond.fieldLink RX2 18 "LayeredTable$Things" "targets" "[I", Cond.fieldLink RX2 21 "LayeredTable$Things" "ids" "[I", Cond.methodLink RX4 212 yX2_firstOf, Cond.instanceMethod yX2_firstOf, Cond.selects RX2 yX2_firstOf yX2_firstOf, Cond.code yX2_firstOf cX2_firstOf 3 (some .int), Cond.methodLink RX4 215 yX4_leave, Cond.instanceMethod yX4_leave, Cond.selects RX4 yX4_leave yX4_leave, Cond.code yX4_leave cX4_leave 2 (some .int), Cond.methodLink RX4 222 yX2_remove, Cond.instanceMethod yX2_remove, Cond.selects RX2 yX2_remove yX2_remove, Cond.code yX2_remove cX2_remove 3 (some .boolean), Cond.methodLink RX2 28 yX2_has, Cond.instanceMethod yX2_has, Cond.selects RX2 yX2_has yX2_has, Cond.code yX2_has cX2_has 2 (some .boolean)]
def wsX4_triggerEffect : List Cond := .code yX4_triggerEffect cX4_triggerEffect 3 (some .int) :: ((wsX4_triggerEffect_r1 ++ wsX4_triggerEffect_r2) ++ wsX40 ++ wsX20)
def wsX4_strike_r1 : List Cond := [Cond.fieldLink RX4 16 "LayeredTable" "table" "LLayeredTable$Things;", Cond.fieldLink RX4 30 "LayeredTable" "view" "LLayeredTable$View;", Cond.fieldLink RX4 137 "LayeredTable$View" "strengths" "[I", Cond.methodLink RX4 115 yX2_has, Cond.instanceMethod yX2_has, Cond.selects RX2 yX2_has yX2_has, Cond.initialized RX2, Cond.code yX2_has cX2_has 2 (some .boolean), Cond.fieldLink RX2 24 "LayeredTable$Things" "size" "I", Cond.methodLink RX4 127 yX3_find, Cond.instanceMethod yX3_find, Cond.selects RX3 yX3_find yX3_find, Cond.initialized RX3, Cond.code yX3_find cX3_find 5 none, Cond.fieldLink RX3 27 "LayeredTable$Things" "size" "I", Cond.fieldLink RX3 33 "LayeredTable$Things" "cards" "[I", Cond.fieldLink RX3 9 "LayeredTable$View" "controllers" "[I", Cond.fieldLink RX3 36 "LayeredTable$Things" "players" "[I", Cond.fieldLink RX3 15 "LayeredTable$View" "kinds" "[I", Cond.fieldLink RX3 18 "LayeredTable$View" "strengths" "[I", Cond.methodLink RX3 39 yX3_goThrough, Cond.instanceMethod yX3_goThrough, Cond.selects RX3 yX3_goThrough yX3_goThrough, Cond.code yX3_goThrough cX3_goThrough 6 none]
def wsX4_strike_r2 : List Cond := [Cond.fieldLink RX3 21 "LayeredTable$View" "kindsBefore" "[I", Cond.fieldLink RX3 24 "LayeredTable$View" "strengthsBefore" "[I", Cond.static yX4_layerOf, Cond.initialized RX4, Cond.code yX4_layerOf cX4_layerOf 1 (some .int), Cond.fieldLink RX4 162 "LayeredTable" "LAYER_OF" "[I", Cond.methodLink RX3 47 yX3_takes, Cond.instanceMethod yX3_takes, Cond.selects RX3 yX3_takes yX3_takes, Cond.code yX3_takes cX3_takes 5 (some .boolean), Cond.fieldLink RX3 55 "LayeredTable$Things" "ids" "[I", Cond.fieldLink RX3 58 "LayeredTable$Things" "targets" "[I", Cond.methodLink RX3 51 yX3_change, Cond.instanceMethod yX3_change, Cond.selects RX3 yX3_change yX3_change, Cond.code yX3_change cX3_change 4 none, Cond.methodLink RX4 215 yX4_leave, Cond.instanceMethod yX4_leave, Cond.selects RX4 yX4_leave yX4_leave, Cond.code yX4_leave cX4_leave 2 (some .int), Cond.methodLink RX4 222 yX2_remove, Cond.instanceMethod yX2_remove, Cond.selects RX2 yX2_remove yX2_remove, Cond.code yX2_remove cX2_remove 3 (some .boolean)]
def wsX4_strike_r3 : List Cond := [Cond.fieldLink RX2 9 "LayeredTable$Things" "cards" "[I", Cond.fieldLink RX2 15 "LayeredTable$Things" "players" "[I", Cond.fieldLink RX2 18 "LayeredTable$Things" "targets" "[I", Cond.fieldLink RX2 21 "LayeredTable$Things" "ids" "[I", Cond.methodLink RX2 28 yX2_has]
def wsX4_strike : List Cond := .code yX4_strike cX4_strike 2 (some .int) :: ((wsX4_strike_r1 ++ (wsX4_strike_r2 ++ wsX4_strike_r3)) ++ wsX40 ++ wsX30 ++ wsX20)
def wsX4_cardEffect_r1 : List Cond := [Cond.fieldLink RX4 16 "LayeredTable" "table" "LLayeredTable$Things;", Cond.fieldLink RX4 23 "LayeredTable" "pile" "LLayeredTable$Entries;", Cond.methodLink RX4 168 yX4_isThing, Cond.static yX4_isThing, Cond.initialized RX4, Cond.code yX4_isThing cX4_isThing 1 (some .boolean), Cond.methodLink RX4 206 yX4_enter, Cond.instanceMethod yX4_enter, Cond.selects RX4 yX4_enter yX4_enter, Cond.code yX4_enter cX4_enter 4 (some .int), Cond.methodLink RX4 72 yX4_newId, Cond.instanceMethod yX4_newId, Cond.selects RX4 yX4_newId yX4_newId, Cond.code yX4_newId cX4_newId 2 (some .int), Cond.fieldLink RX4 165 "LayeredTable" "nextId" "I", Cond.methodLink RX4 218 yX2_add, Cond.instanceMethod yX2_add, Cond.selects RX2 yX2_add yX2_add, Cond.initialized RX2, Cond.code yX2_add cX2_add 5 (some .boolean), Cond.fieldLink RX2 24 "LayeredTable$Things" "size" "I", Cond.fieldLink RX2 9 "LayeredTable$Things" "cards" "[I", Cond.fieldLink RX2 15 "LayeredTable$Things" "players" "[I", Cond.fieldLink RX2 18 "LayeredTable$Things" "targets" "[I"]
def wsX4_cardEffect_r2 : List Cond := [Cond.fieldLink RX2 21 "LayeredTable$Things" "ids" "[I", Cond.methodLink RX4 188 yX2_placeOf, Cond.instanceMethod yX2_placeOf, Cond.selects RX2 yX2_placeOf yX2_placeOf, Cond.code yX2_placeOf cX2_placeOf 3 (some .int), Cond.methodLink RX4 209 yX4_strike, Cond.instanceMethod yX4_strike, Cond.selects RX4 yX4_strike yX4_strike, Cond.code yX4_strike cX4_strike 2 (some .int), Cond.fieldLink RX4 30 "LayeredTable" "view" "LLayeredTable$View;", Cond.fieldLink RX4 137 "LayeredTable$View" "strengths" "[I", Cond.methodLink RX4 115 yX2_has, Cond.instanceMethod yX2_has, Cond.selects RX2 yX2_has yX2_has, Cond.code yX2_has cX2_has 2 (some .boolean), Cond.methodLink RX4 127 yX3_find, Cond.instanceMethod yX3_find, Cond.selects RX3 yX3_find yX3_find, Cond.initialized RX3, Cond.code yX3_find cX3_find 5 none, Cond.fieldLink RX3 27 "LayeredTable$Things" "size" "I", Cond.fieldLink RX3 33 "LayeredTable$Things" "cards" "[I", Cond.fieldLink RX3 9 "LayeredTable$View" "controllers" "[I", Cond.fieldLink RX3 36 "LayeredTable$Things" "players" "[I"]
def wsX4_cardEffect_r3 : List Cond := [Cond.fieldLink RX3 15 "LayeredTable$View" "kinds" "[I", Cond.fieldLink RX3 18 "LayeredTable$View" "strengths" "[I", Cond.methodLink RX3 39 yX3_goThrough, Cond.instanceMethod yX3_goThrough, Cond.selects RX3 yX3_goThrough yX3_goThrough, Cond.code yX3_goThrough cX3_goThrough 6 none, Cond.fieldLink RX3 21 "LayeredTable$View" "kindsBefore" "[I", Cond.fieldLink RX3 24 "LayeredTable$View" "strengthsBefore" "[I", Cond.static yX4_layerOf, Cond.code yX4_layerOf cX4_layerOf 1 (some .int), Cond.fieldLink RX4 162 "LayeredTable" "LAYER_OF" "[I", Cond.methodLink RX3 47 yX3_takes, Cond.instanceMethod yX3_takes, Cond.selects RX3 yX3_takes yX3_takes, Cond.code yX3_takes cX3_takes 5 (some .boolean), Cond.fieldLink RX3 55 "LayeredTable$Things" "ids" "[I", Cond.fieldLink RX3 58 "LayeredTable$Things" "targets" "[I", Cond.methodLink RX3 51 yX3_change, Cond.instanceMethod yX3_change, Cond.selects RX3 yX3_change yX3_change, Cond.code yX3_change cX3_change 4 none, Cond.methodLink RX4 215 yX4_leave, Cond.instanceMethod yX4_leave, Cond.selects RX4 yX4_leave yX4_leave]
def wsX4_cardEffect_r4 : List Cond := [Cond.code yX4_leave cX4_leave 2 (some .int), Cond.methodLink RX4 222 yX2_remove, Cond.instanceMethod yX2_remove, Cond.selects RX2 yX2_remove yX2_remove, Cond.code yX2_remove cX2_remove 3 (some .boolean), Cond.methodLink RX2 28 yX2_has, Cond.methodLink RX4 185 yX0_placeOf, Cond.instanceMethod yX0_placeOf, Cond.selects RX0 yX0_placeOf yX0_placeOf, Cond.initialized RX0, Cond.code yX0_placeOf cX0_placeOf 3 (some .int), Cond.fieldLink RX0 28 "LayeredTable$Entries" "size" "I", Cond.fieldLink RX0 25 "LayeredTable$Entries" "ids" "[I", Cond.methodLink RX4 144 yX0_indexOf, Cond.instanceMethod yX0_indexOf, Cond.selects RX0 yX0_indexOf yX0_indexOf, Cond.code yX0_indexOf cX0_indexOf 2 (some .int), Cond.methodLink RX0 32 yX0_has, Cond.instanceMethod yX0_has, Cond.selects RX0 yX0_has yX0_has, Cond.code yX0_has cX0_has 2 (some .boolean), Cond.methodLink RX4 193 yX0_remove, Cond.instanceMethod yX0_remove, Cond.selects RX0 yX0_remove yX0_remove]
def wsX4_cardEffect_r5 : List Cond := [Cond.code yX0_remove cX0_remove 3 none, Cond.fieldLink RX0 9 "LayeredTable$Entries" "cards" "[I", Cond.fieldLink RX0 15 "LayeredTable$Entries" "triggers" "[Z", Cond.fieldLink RX0 19 "LayeredTable$Entries" "players" "[I", Cond.fieldLink RX0 22 "LayeredTable$Entries" "targets" "[I"]
def wsX4_cardEffect : List Cond := .code yX4_cardEffect cX4_cardEffect 4 (some .int) :: ((wsX4_cardEffect_r1 ++ (wsX4_cardEffect_r2 ++ (wsX4_cardEffect_r3 ++ (wsX4_cardEffect_r4 ++ wsX4_cardEffect_r5)))) ++ wsX40 ++ wsX20 ++ wsX30 ++ wsX00)
def wsX4_hasTrigger : List Cond := .code yX4_hasTrigger cX4_hasTrigger 4 (some .boolean) :: ([.fieldLink RX4 103 "LayeredTable" "turnPlayer" "I"] ++ wsX40)
def wsX4_raiseTriggers_r1 : List Cond := [Cond.fieldLink RX4 30 "LayeredTable" "view" "LLayeredTable$View;", Cond.fieldLink RX4 16 "LayeredTable" "table" "LLayeredTable$Things;", Cond.fieldLink RX4 114 "LayeredTable$Things" "size" "I", Cond.fieldLink RX4 103 "LayeredTable" "turnPlayer" "I", Cond.fieldLink RX4 121 "LayeredTable$Things" "cards" "[I", Cond.fieldLink RX4 131 "LayeredTable$View" "controllers" "[I", Cond.fieldLink RX4 23 "LayeredTable" "pile" "LLayeredTable$Entries;", Cond.methodLink RX4 127 yX3_find, Cond.instanceMethod yX3_find, Cond.selects RX3 yX3_find yX3_find, Cond.initialized RX3, Cond.code yX3_find cX3_find 5 none, Cond.fieldLink RX3 27 "LayeredTable$Things" "size" "I", Cond.fieldLink RX3 33 "LayeredTable$Things" "cards" "[I", Cond.fieldLink RX3 9 "LayeredTable$View" "controllers" "[I", Cond.fieldLink RX3 36 "LayeredTable$Things" "players" "[I", Cond.fieldLink RX3 15 "LayeredTable$View" "kinds" "[I", Cond.fieldLink RX3 18 "LayeredTable$View" "strengths" "[I", Cond.methodLink RX3 39 yX3_goThrough, Cond.instanceMethod yX3_goThrough, Cond.selects RX3 yX3_goThrough yX3_goThrough, Cond.code yX3_goThrough cX3_goThrough 6 none, Cond.fieldLink RX3 21 "LayeredTable$View" "kindsBefore" "[I", Cond.fieldLink RX3 24 "LayeredTable$View" "strengthsBefore" "[I"]
def wsX4_raiseTriggers_r2 : List Cond := [Cond.static yX4_layerOf, Cond.initialized RX4, Cond.code yX4_layerOf cX4_layerOf 1 (some .int), Cond.fieldLink RX4 162 "LayeredTable" "LAYER_OF" "[I", Cond.methodLink RX3 47 yX3_takes, Cond.instanceMethod yX3_takes, Cond.selects RX3 yX3_takes yX3_takes, Cond.code yX3_takes cX3_takes 5 (some .boolean), Cond.fieldLink RX3 55 "LayeredTable$Things" "ids" "[I", Cond.fieldLink RX3 58 "LayeredTable$Things" "targets" "[I", Cond.methodLink RX3 51 yX3_change, Cond.instanceMethod yX3_change, Cond.selects RX3 yX3_change yX3_change, Cond.code yX3_change cX3_change 4 none, Cond.methodLink RX4 224 yX4_hasTrigger, Cond.instanceMethod yX4_hasTrigger, Cond.selects RX4 yX4_hasTrigger yX4_hasTrigger, Cond.code yX4_hasTrigger cX4_hasTrigger 4 (some .boolean), Cond.methodLink RX4 72 yX4_newId, Cond.instanceMethod yX4_newId, Cond.selects RX4 yX4_newId yX4_newId, Cond.code yX4_newId cX4_newId 2 (some .int), Cond.fieldLink RX4 165 "LayeredTable" "nextId" "I", Cond.methodLink RX4 76 yX0_push]
def wsX4_raiseTriggers_r3 : List Cond := [Cond.instanceMethod yX0_push, Cond.selects RX0 yX0_push yX0_push, Cond.initialized RX0, Cond.code yX0_push cX0_push 6 none, Cond.fieldLink RX0 28 "LayeredTable$Entries" "size" "I", Cond.fieldLink RX0 9 "LayeredTable$Entries" "cards" "[I", Cond.fieldLink RX0 15 "LayeredTable$Entries" "triggers" "[Z", Cond.fieldLink RX0 19 "LayeredTable$Entries" "players" "[I", Cond.fieldLink RX0 22 "LayeredTable$Entries" "targets" "[I", Cond.fieldLink RX0 25 "LayeredTable$Entries" "ids" "[I", Cond.methodLink RX4 86 yX4_nextPlayer, Cond.static yX4_nextPlayer, Cond.code yX4_nextPlayer cX4_nextPlayer 1 (some .int)]
def wsX4_raiseTriggers : List Cond := .code yX4_raiseTriggers cX4_raiseTriggers 7 none :: ((wsX4_raiseTriggers_r1 ++ (wsX4_raiseTriggers_r2 ++ wsX4_raiseTriggers_r3)) ++ wsX40 ++ wsX20 ++ wsX30 ++ wsX00)
def wsX4_targetPlace : List Cond := .code yX4_targetPlace cX4_targetPlace 3 (some .int) :: ([.fieldLink RX4 23 "LayeredTable" "pile" "LLayeredTable$Entries;", .fieldLink RX4 89 "LayeredTable$Entries" "size" "I", .fieldLink RX4 182 "LayeredTable$Entries" "targets" "[I", .fieldLink RX4 143 "LayeredTable$Entries" "cards" "[I", .fieldLink RX4 16 "LayeredTable" "table" "LLayeredTable$Things;", .methodLink RX4 185 yX0_placeOf, .instanceMethod yX0_placeOf, .selects RX0 yX0_placeOf yX0_placeOf, .initialized RX0, .code yX0_placeOf cX0_placeOf 3 (some .int), .fieldLink RX0 28 "LayeredTable$Entries" "size" "I", .fieldLink RX0 25 "LayeredTable$Entries" "ids" "[I", .methodLink RX4 188 yX2_placeOf, .instanceMethod yX2_placeOf, .selects RX2 yX2_placeOf yX2_placeOf, .initialized RX2, .code yX2_placeOf cX2_placeOf 3 (some .int), .fieldLink RX2 24 "LayeredTable$Things" "size" "I", .fieldLink RX2 21 "LayeredTable$Things" "ids" "[I"] ++ wsX40 ++ wsX00 ++ wsX20)
def wsX4_breakLoop_r1 : List Cond := [Cond.fieldLink RX4 37 "LayeredTable" "memory" "LLayeredTable$Memory;", Cond.fieldLink RX4 16 "LayeredTable" "table" "LLayeredTable$Things;", Cond.fieldLink RX4 114 "LayeredTable$Things" "size" "I", Cond.fieldLink RX4 23 "LayeredTable" "pile" "LLayeredTable$Entries;", Cond.fieldLink RX4 89 "LayeredTable$Entries" "size" "I", Cond.fieldLink RX4 121 "LayeredTable$Things" "cards" "[I", Cond.fieldLink RX4 231 "LayeredTable$Things" "players" "[I", Cond.fieldLink RX4 232 "LayeredTable$Things" "targets" "[I", Cond.fieldLink RX4 143 "LayeredTable$Entries" "cards" "[I", Cond.fieldLink RX4 147 "LayeredTable$Entries" "triggers" "[Z", Cond.fieldLink RX4 151 "LayeredTable$Entries" "players" "[I", Cond.fieldLink RX4 109 "LayeredTable" "loopCount" "I", Cond.methodLink RX4 228 yX1_start, Cond.instanceMethod yX1_start, Cond.selects RX1 yX1_start yX1_start, Cond.initialized RX1, Cond.code yX1_start cX1_start 3 none, Cond.fieldLink RX1 11 "LayeredTable$Memory" "state" "[I", Cond.fieldLink RX1 27 "LayeredTable$Memory" "length" "I", Cond.methodLink RX4 188 yX2_placeOf, Cond.instanceMethod yX2_placeOf, Cond.selects RX2 yX2_placeOf yX2_placeOf, Cond.initialized RX2, Cond.code yX2_placeOf cX2_placeOf 3 (some .int)]
def wsX4_breakLoop_r2 : List Cond := [Cond.fieldLink RX2 24 "LayeredTable$Things" "size" "I", Cond.fieldLink RX2 21 "LayeredTable$Things" "ids" "[I", Cond.methodLink RX4 233 yX1_write, Cond.instanceMethod yX1_write, Cond.selects RX1 yX1_write yX1_write, Cond.code yX1_write cX1_write 5 none, Cond.methodLink RX4 154 yX4_targetPlace, Cond.instanceMethod yX4_targetPlace, Cond.selects RX4 yX4_targetPlace yX4_targetPlace, Cond.initialized RX4, Cond.code yX4_targetPlace cX4_targetPlace 3 (some .int), Cond.fieldLink RX4 182 "LayeredTable$Entries" "targets" "[I", Cond.methodLink RX4 185 yX0_placeOf, Cond.instanceMethod yX0_placeOf, Cond.selects RX0 yX0_placeOf yX0_placeOf, Cond.initialized RX0, Cond.code yX0_placeOf cX0_placeOf 3 (some .int), Cond.fieldLink RX0 28 "LayeredTable$Entries" "size" "I", Cond.fieldLink RX0 25 "LayeredTable$Entries" "ids" "[I", Cond.methodLink RX4 237 yX1_knowsState, Cond.instanceMethod yX1_knowsState, Cond.selects RX1 yX1_knowsState yX1_knowsState, Cond.code yX1_knowsState cX1_knowsState 2 (some .boolean), Cond.fieldLink RX1 20 "LayeredTable$Memory" "size" "I"]
def wsX4_breakLoop_r3 : List Cond := [Cond.fieldLink RX1 17 "LayeredTable$Memory" "kept" "[[I", Cond.methodLink RX1 30 yX1_isState, Cond.instanceMethod yX1_isState, Cond.selects RX1 yX1_isState yX1_isState, Cond.code yX1_isState cX1_isState 3 (some .boolean), Cond.methodLink RX4 80 yX1_forget, Cond.instanceMethod yX1_forget, Cond.selects RX1 yX1_forget yX1_forget, Cond.code yX1_forget cX1_forget 1 none, Cond.fieldLink RX1 24 "LayeredTable$Memory" "next" "I", Cond.methodLink RX4 241 yX1_keepState, Cond.instanceMethod yX1_keepState, Cond.selects RX1 yX1_keepState yX1_keepState, Cond.code yX1_keepState cX1_keepState 1 none, Cond.methodLink RX1 34 arraycopyName, Cond.native arraycopyName, Cond.static arraycopyName, Cond.initialized "java/lang/System"]
def wsX4_breakLoop : List Cond := .code yX4_breakLoop cX4_breakLoop 2 none :: ((wsX4_breakLoop_r1 ++ (wsX4_breakLoop_r2 ++ wsX4_breakLoop_r3)) ++ wsX40 ++ wsX20 ++ wsX00 ++ wsX10)
def wsX4_resolveTop_r1 : List Cond := [Cond.fieldLink RX4 23 "LayeredTable" "pile" "LLayeredTable$Entries;", Cond.fieldLink RX4 89 "LayeredTable$Entries" "size" "I", Cond.fieldLink RX4 143 "LayeredTable$Entries" "cards" "[I", Cond.fieldLink RX4 147 "LayeredTable$Entries" "triggers" "[Z", Cond.fieldLink RX4 151 "LayeredTable$Entries" "players" "[I", Cond.fieldLink RX4 182 "LayeredTable$Entries" "targets" "[I", Cond.fieldLink RX4 83 "LayeredTable" "passes" "I", Cond.fieldLink RX4 103 "LayeredTable" "turnPlayer" "I", Cond.fieldLink RX4 57 "LayeredTable" "actingPlayer" "I", Cond.methodLink RX4 193 yX0_remove, Cond.instanceMethod yX0_remove, Cond.selects RX0 yX0_remove yX0_remove, Cond.initialized RX0, Cond.code yX0_remove cX0_remove 3 none, Cond.fieldLink RX0 28 "LayeredTable$Entries" "size" "I", Cond.fieldLink RX0 9 "LayeredTable$Entries" "cards" "[I", Cond.fieldLink RX0 15 "LayeredTable$Entries" "triggers" "[Z", Cond.fieldLink RX0 19 "LayeredTable$Entries" "players" "[I", Cond.fieldLink RX0 22 "LayeredTable$Entries" "targets" "[I", Cond.fieldLink RX0 25 "LayeredTable$Entries" "ids" "[I", Cond.methodLink RX4 196 yX4_triggerEffect, Cond.instanceMethod yX4_triggerEffect, Cond.selects RX4 yX4_triggerEffect yX4_triggerEffect, Cond.initialized RX4]
def wsX4_resolveTop_r2 : List Cond := [Cond.code yX4_triggerEffect cX4_triggerEffect 3 (some .int), Cond.fieldLink RX4 16 "LayeredTable" "table" "LLayeredTable$Things;", Cond.methodLink RX4 65 yX4_pay, Cond.instanceMethod yX4_pay, Cond.selects RX4 yX4_pay yX4_pay, Cond.code yX4_pay cX4_pay 3 none, Cond.fieldLink RX4 9 "LayeredTable" "purses" "[I", Cond.methodLink RX4 206 yX4_enter, Cond.instanceMethod yX4_enter, Cond.selects RX4 yX4_enter yX4_enter, Cond.code yX4_enter cX4_enter 4 (some .int), Cond.methodLink RX4 72 yX4_newId, Cond.instanceMethod yX4_newId, Cond.selects RX4 yX4_newId yX4_newId, Cond.code yX4_newId cX4_newId 2 (some .int), Cond.fieldLink RX4 165 "LayeredTable" "nextId" "I", Cond.methodLink RX4 218 yX2_add, Cond.instanceMethod yX2_add, Cond.selects RX2 yX2_add yX2_add, Cond.initialized RX2, Cond.code yX2_add cX2_add 5 (some .boolean), Cond.fieldLink RX2 24 "LayeredTable$Things" "size" "I", Cond.fieldLink RX2 9 "LayeredTable$Things" "cards" "[I", Cond.fieldLink RX2 15 "LayeredTable$Things" "players" "[I"]
def wsX4_resolveTop_r3 : List Cond := [Cond.fieldLink RX2 18 "LayeredTable$Things" "targets" "[I", Cond.fieldLink RX2 21 "LayeredTable$Things" "ids" "[I", Cond.methodLink RX4 212 yX2_firstOf, Cond.instanceMethod yX2_firstOf, Cond.selects RX2 yX2_firstOf yX2_firstOf, Cond.code yX2_firstOf cX2_firstOf 3 (some .int), Cond.methodLink RX4 215 yX4_leave, Cond.instanceMethod yX4_leave, Cond.selects RX4 yX4_leave yX4_leave, Cond.code yX4_leave cX4_leave 2 (some .int), Cond.methodLink RX4 222 yX2_remove, Cond.instanceMethod yX2_remove, Cond.selects RX2 yX2_remove yX2_remove, Cond.code yX2_remove cX2_remove 3 (some .boolean), Cond.methodLink RX2 28 yX2_has, Cond.instanceMethod yX2_has, Cond.selects RX2 yX2_has yX2_has, Cond.code yX2_has cX2_has 2 (some .boolean), Cond.methodLink RX4 199 yX4_cardEffect, Cond.instanceMethod yX4_cardEffect, Cond.selects RX4 yX4_cardEffect yX4_cardEffect, Cond.code yX4_cardEffect cX4_cardEffect 4 (some .int), Cond.methodLink RX4 168 yX4_isThing, Cond.static yX4_isThing]
def wsX4_resolveTop_r4 : List Cond := [Cond.code yX4_isThing cX4_isThing 1 (some .boolean), Cond.methodLink RX4 188 yX2_placeOf, Cond.instanceMethod yX2_placeOf, Cond.selects RX2 yX2_placeOf yX2_placeOf, Cond.code yX2_placeOf cX2_placeOf 3 (some .int), Cond.methodLink RX4 209 yX4_strike, Cond.instanceMethod yX4_strike, Cond.selects RX4 yX4_strike yX4_strike, Cond.code yX4_strike cX4_strike 2 (some .int), Cond.fieldLink RX4 30 "LayeredTable" "view" "LLayeredTable$View;", Cond.fieldLink RX4 137 "LayeredTable$View" "strengths" "[I", Cond.methodLink RX4 115 yX2_has, Cond.methodLink RX4 127 yX3_find, Cond.instanceMethod yX3_find, Cond.selects RX3 yX3_find yX3_find, Cond.initialized RX3, Cond.code yX3_find cX3_find 5 none, Cond.fieldLink RX3 27 "LayeredTable$Things" "size" "I", Cond.fieldLink RX3 33 "LayeredTable$Things" "cards" "[I", Cond.fieldLink RX3 9 "LayeredTable$View" "controllers" "[I", Cond.fieldLink RX3 36 "LayeredTable$Things" "players" "[I", Cond.fieldLink RX3 15 "LayeredTable$View" "kinds" "[I", Cond.fieldLink RX3 18 "LayeredTable$View" "strengths" "[I", Cond.methodLink RX3 39 yX3_goThrough]
def wsX4_resolveTop_r5 : List Cond := [Cond.instanceMethod yX3_goThrough, Cond.selects RX3 yX3_goThrough yX3_goThrough, Cond.code yX3_goThrough cX3_goThrough 6 none, Cond.fieldLink RX3 21 "LayeredTable$View" "kindsBefore" "[I", Cond.fieldLink RX3 24 "LayeredTable$View" "strengthsBefore" "[I", Cond.static yX4_layerOf, Cond.code yX4_layerOf cX4_layerOf 1 (some .int), Cond.fieldLink RX4 162 "LayeredTable" "LAYER_OF" "[I", Cond.methodLink RX3 47 yX3_takes, Cond.instanceMethod yX3_takes, Cond.selects RX3 yX3_takes yX3_takes, Cond.code yX3_takes cX3_takes 5 (some .boolean), Cond.fieldLink RX3 55 "LayeredTable$Things" "ids" "[I", Cond.fieldLink RX3 58 "LayeredTable$Things" "targets" "[I", Cond.methodLink RX3 51 yX3_change, Cond.instanceMethod yX3_change, Cond.selects RX3 yX3_change yX3_change, Cond.code yX3_change cX3_change 4 none, Cond.methodLink RX4 185 yX0_placeOf, Cond.instanceMethod yX0_placeOf, Cond.selects RX0 yX0_placeOf yX0_placeOf, Cond.code yX0_placeOf cX0_placeOf 3 (some .int), Cond.methodLink RX4 144 yX0_indexOf, Cond.instanceMethod yX0_indexOf]
def wsX4_resolveTop_r6 : List Cond := [Cond.selects RX0 yX0_indexOf yX0_indexOf, Cond.code yX0_indexOf cX0_indexOf 2 (some .int), Cond.methodLink RX0 32 yX0_has, Cond.instanceMethod yX0_has, Cond.selects RX0 yX0_has yX0_has, Cond.code yX0_has cX0_has 2 (some .boolean), Cond.methodLink RX4 189 yX4_raiseTriggers, Cond.instanceMethod yX4_raiseTriggers, Cond.selects RX4 yX4_raiseTriggers yX4_raiseTriggers, Cond.code yX4_raiseTriggers cX4_raiseTriggers 7 none, Cond.fieldLink RX4 114 "LayeredTable$Things" "size" "I", Cond.fieldLink RX4 121 "LayeredTable$Things" "cards" "[I", Cond.fieldLink RX4 131 "LayeredTable$View" "controllers" "[I", Cond.methodLink RX4 224 yX4_hasTrigger, Cond.instanceMethod yX4_hasTrigger, Cond.selects RX4 yX4_hasTrigger yX4_hasTrigger, Cond.code yX4_hasTrigger cX4_hasTrigger 4 (some .boolean), Cond.methodLink RX4 76 yX0_push, Cond.instanceMethod yX0_push, Cond.selects RX0 yX0_push yX0_push, Cond.code yX0_push cX0_push 6 none, Cond.methodLink RX4 86 yX4_nextPlayer, Cond.static yX4_nextPlayer, Cond.code yX4_nextPlayer cX4_nextPlayer 1 (some .int)]
def wsX4_resolveTop_r7 : List Cond := [Cond.methodLink RX4 203 yX4_breakLoop, Cond.instanceMethod yX4_breakLoop, Cond.selects RX4 yX4_breakLoop yX4_breakLoop, Cond.code yX4_breakLoop cX4_breakLoop 2 none, Cond.fieldLink RX4 37 "LayeredTable" "memory" "LLayeredTable$Memory;", Cond.fieldLink RX4 231 "LayeredTable$Things" "players" "[I", Cond.fieldLink RX4 232 "LayeredTable$Things" "targets" "[I", Cond.fieldLink RX4 109 "LayeredTable" "loopCount" "I", Cond.methodLink RX4 228 yX1_start, Cond.instanceMethod yX1_start, Cond.selects RX1 yX1_start yX1_start, Cond.initialized RX1, Cond.code yX1_start cX1_start 3 none, Cond.fieldLink RX1 11 "LayeredTable$Memory" "state" "[I", Cond.fieldLink RX1 27 "LayeredTable$Memory" "length" "I", Cond.methodLink RX4 233 yX1_write, Cond.instanceMethod yX1_write, Cond.selects RX1 yX1_write yX1_write, Cond.code yX1_write cX1_write 5 none, Cond.methodLink RX4 154 yX4_targetPlace, Cond.instanceMethod yX4_targetPlace, Cond.selects RX4 yX4_targetPlace yX4_targetPlace, Cond.code yX4_targetPlace cX4_targetPlace 3 (some .int), Cond.methodLink RX4 237 yX1_knowsState]
def wsX4_resolveTop_r8 : List Cond := [Cond.instanceMethod yX1_knowsState, Cond.selects RX1 yX1_knowsState yX1_knowsState, Cond.code yX1_knowsState cX1_knowsState 2 (some .boolean), Cond.fieldLink RX1 20 "LayeredTable$Memory" "size" "I", Cond.fieldLink RX1 17 "LayeredTable$Memory" "kept" "[[I", Cond.methodLink RX1 30 yX1_isState, Cond.instanceMethod yX1_isState, Cond.selects RX1 yX1_isState yX1_isState, Cond.code yX1_isState cX1_isState 3 (some .boolean), Cond.methodLink RX4 80 yX1_forget, Cond.instanceMethod yX1_forget, Cond.selects RX1 yX1_forget yX1_forget, Cond.code yX1_forget cX1_forget 1 none, Cond.fieldLink RX1 24 "LayeredTable$Memory" "next" "I", Cond.methodLink RX4 241 yX1_keepState, Cond.instanceMethod yX1_keepState, Cond.selects RX1 yX1_keepState yX1_keepState, Cond.code yX1_keepState cX1_keepState 1 none, Cond.methodLink RX1 34 arraycopyName, Cond.native arraycopyName, Cond.static arraycopyName, Cond.initialized "java/lang/System"]
def wsX4_resolveTop : List Cond := .code yX4_resolveTop cX4_resolveTop 6 none :: ((wsX4_resolveTop_r1 ++ (wsX4_resolveTop_r2 ++ (wsX4_resolveTop_r3 ++ (wsX4_resolveTop_r4 ++ (wsX4_resolveTop_r5 ++ (wsX4_resolveTop_r6 ++ (wsX4_resolveTop_r7 ++ wsX4_resolveTop_r8))))))) ++ wsX40 ++ wsX00 ++ wsX20 ++ wsX30 ++ wsX10)
def wsX4_beginTurn_r1 : List Cond := [Cond.fieldLink RX4 103 "LayeredTable" "turnPlayer" "I", Cond.fieldLink RX4 57 "LayeredTable" "actingPlayer" "I", Cond.fieldLink RX4 83 "LayeredTable" "passes" "I", Cond.fieldLink RX4 106 "LayeredTable" "roundCount" "I", Cond.fieldLink RX4 37 "LayeredTable" "memory" "LLayeredTable$Memory;", Cond.methodLink RX4 86 yX4_nextPlayer, Cond.static yX4_nextPlayer, Cond.initialized RX4, Cond.code yX4_nextPlayer cX4_nextPlayer 1 (some .int), Cond.methodLink RX4 80 yX1_forget, Cond.instanceMethod yX1_forget, Cond.selects RX1 yX1_forget yX1_forget, Cond.initialized RX1, Cond.code yX1_forget cX1_forget 1 none, Cond.fieldLink RX1 20 "LayeredTable$Memory" "size" "I", Cond.fieldLink RX1 24 "LayeredTable$Memory" "next" "I", Cond.methodLink RX4 65 yX4_pay, Cond.instanceMethod yX4_pay, Cond.selects RX4 yX4_pay yX4_pay, Cond.code yX4_pay cX4_pay 3 none, Cond.fieldLink RX4 9 "LayeredTable" "purses" "[I", Cond.methodLink RX4 189 yX4_raiseTriggers, Cond.instanceMethod yX4_raiseTriggers, Cond.selects RX4 yX4_raiseTriggers yX4_raiseTriggers]
def wsX4_beginTurn_r2 : List Cond := [Cond.code yX4_raiseTriggers cX4_raiseTriggers 7 none, Cond.fieldLink RX4 30 "LayeredTable" "view" "LLayeredTable$View;", Cond.fieldLink RX4 16 "LayeredTable" "table" "LLayeredTable$Things;", Cond.fieldLink RX4 114 "LayeredTable$Things" "size" "I", Cond.fieldLink RX4 121 "LayeredTable$Things" "cards" "[I", Cond.fieldLink RX4 131 "LayeredTable$View" "controllers" "[I", Cond.fieldLink RX4 23 "LayeredTable" "pile" "LLayeredTable$Entries;", Cond.methodLink RX4 127 yX3_find, Cond.instanceMethod yX3_find, Cond.selects RX3 yX3_find yX3_find, Cond.initialized RX3, Cond.code yX3_find cX3_find 5 none, Cond.fieldLink RX3 27 "LayeredTable$Things" "size" "I", Cond.fieldLink RX3 33 "LayeredTable$Things" "cards" "[I", Cond.fieldLink RX3 9 "LayeredTable$View" "controllers" "[I", Cond.fieldLink RX3 36 "LayeredTable$Things" "players" "[I", Cond.fieldLink RX3 15 "LayeredTable$View" "kinds" "[I", Cond.fieldLink RX3 18 "LayeredTable$View" "strengths" "[I", Cond.methodLink RX3 39 yX3_goThrough, Cond.instanceMethod yX3_goThrough, Cond.selects RX3 yX3_goThrough yX3_goThrough, Cond.code yX3_goThrough cX3_goThrough 6 none, Cond.fieldLink RX3 21 "LayeredTable$View" "kindsBefore" "[I", Cond.fieldLink RX3 24 "LayeredTable$View" "strengthsBefore" "[I"]
def wsX4_beginTurn_r3 : List Cond := [Cond.static yX4_layerOf, Cond.code yX4_layerOf cX4_layerOf 1 (some .int), Cond.fieldLink RX4 162 "LayeredTable" "LAYER_OF" "[I", Cond.methodLink RX3 47 yX3_takes, Cond.instanceMethod yX3_takes, Cond.selects RX3 yX3_takes yX3_takes, Cond.code yX3_takes cX3_takes 5 (some .boolean), Cond.fieldLink RX3 55 "LayeredTable$Things" "ids" "[I", Cond.fieldLink RX3 58 "LayeredTable$Things" "targets" "[I", Cond.methodLink RX3 51 yX3_change, Cond.instanceMethod yX3_change, Cond.selects RX3 yX3_change yX3_change, Cond.code yX3_change cX3_change 4 none, Cond.methodLink RX4 224 yX4_hasTrigger, Cond.instanceMethod yX4_hasTrigger, Cond.selects RX4 yX4_hasTrigger yX4_hasTrigger, Cond.code yX4_hasTrigger cX4_hasTrigger 4 (some .boolean), Cond.methodLink RX4 72 yX4_newId, Cond.instanceMethod yX4_newId, Cond.selects RX4 yX4_newId yX4_newId, Cond.code yX4_newId cX4_newId 2 (some .int), Cond.fieldLink RX4 165 "LayeredTable" "nextId" "I", Cond.methodLink RX4 76 yX0_push, Cond.instanceMethod yX0_push]
def wsX4_beginTurn_r4 : List Cond := [Cond.selects RX0 yX0_push yX0_push, Cond.initialized RX0, Cond.code yX0_push cX0_push 6 none, Cond.fieldLink RX0 28 "LayeredTable$Entries" "size" "I", Cond.fieldLink RX0 9 "LayeredTable$Entries" "cards" "[I", Cond.fieldLink RX0 15 "LayeredTable$Entries" "triggers" "[Z", Cond.fieldLink RX0 19 "LayeredTable$Entries" "players" "[I", Cond.fieldLink RX0 22 "LayeredTable$Entries" "targets" "[I", Cond.fieldLink RX0 25 "LayeredTable$Entries" "ids" "[I"]
def wsX4_beginTurn : List Cond := .code yX4_beginTurn cX4_beginTurn 1 none :: ((wsX4_beginTurn_r1 ++ (wsX4_beginTurn_r2 ++ (wsX4_beginTurn_r3 ++ wsX4_beginTurn_r4))) ++ wsX40 ++ wsX10 ++ wsX20 ++ wsX30 ++ wsX00)
def wsX4_pass_r1 : List Cond := [Cond.fieldLink RX4 83 "LayeredTable" "passes" "I", Cond.fieldLink RX4 57 "LayeredTable" "actingPlayer" "I", Cond.fieldLink RX4 23 "LayeredTable" "pile" "LLayeredTable$Entries;", Cond.fieldLink RX4 89 "LayeredTable$Entries" "size" "I", Cond.methodLink RX4 86 yX4_nextPlayer, Cond.static yX4_nextPlayer, Cond.initialized RX4, Cond.code yX4_nextPlayer cX4_nextPlayer 1 (some .int), Cond.methodLink RX4 92 yX4_resolveTop, Cond.instanceMethod yX4_resolveTop, Cond.selects RX4 yX4_resolveTop yX4_resolveTop, Cond.code yX4_resolveTop cX4_resolveTop 6 none, Cond.fieldLink RX4 143 "LayeredTable$Entries" "cards" "[I", Cond.fieldLink RX4 147 "LayeredTable$Entries" "triggers" "[Z", Cond.fieldLink RX4 151 "LayeredTable$Entries" "players" "[I", Cond.fieldLink RX4 182 "LayeredTable$Entries" "targets" "[I", Cond.fieldLink RX4 103 "LayeredTable" "turnPlayer" "I", Cond.methodLink RX4 193 yX0_remove, Cond.instanceMethod yX0_remove, Cond.selects RX0 yX0_remove yX0_remove, Cond.initialized RX0, Cond.code yX0_remove cX0_remove 3 none, Cond.fieldLink RX0 28 "LayeredTable$Entries" "size" "I", Cond.fieldLink RX0 9 "LayeredTable$Entries" "cards" "[I"]
def wsX4_pass_r2 : List Cond := [Cond.fieldLink RX0 15 "LayeredTable$Entries" "triggers" "[Z", Cond.fieldLink RX0 19 "LayeredTable$Entries" "players" "[I", Cond.fieldLink RX0 22 "LayeredTable$Entries" "targets" "[I", Cond.fieldLink RX0 25 "LayeredTable$Entries" "ids" "[I", Cond.methodLink RX4 196 yX4_triggerEffect, Cond.instanceMethod yX4_triggerEffect, Cond.selects RX4 yX4_triggerEffect yX4_triggerEffect, Cond.code yX4_triggerEffect cX4_triggerEffect 3 (some .int), Cond.fieldLink RX4 16 "LayeredTable" "table" "LLayeredTable$Things;", Cond.methodLink RX4 65 yX4_pay, Cond.instanceMethod yX4_pay, Cond.selects RX4 yX4_pay yX4_pay, Cond.code yX4_pay cX4_pay 3 none, Cond.fieldLink RX4 9 "LayeredTable" "purses" "[I", Cond.methodLink RX4 206 yX4_enter, Cond.instanceMethod yX4_enter, Cond.selects RX4 yX4_enter yX4_enter, Cond.code yX4_enter cX4_enter 4 (some .int), Cond.methodLink RX4 72 yX4_newId, Cond.instanceMethod yX4_newId, Cond.selects RX4 yX4_newId yX4_newId, Cond.code yX4_newId cX4_newId 2 (some .int), Cond.fieldLink RX4 165 "LayeredTable" "nextId" "I", Cond.methodLink RX4 218 yX2_add]
def wsX4_pass_r3 : List Cond := [Cond.instanceMethod yX2_add, Cond.selects RX2 yX2_add yX2_add, Cond.initialized RX2, Cond.code yX2_add cX2_add 5 (some .boolean), Cond.fieldLink RX2 24 "LayeredTable$Things" "size" "I", Cond.fieldLink RX2 9 "LayeredTable$Things" "cards" "[I", Cond.fieldLink RX2 15 "LayeredTable$Things" "players" "[I", Cond.fieldLink RX2 18 "LayeredTable$Things" "targets" "[I", Cond.fieldLink RX2 21 "LayeredTable$Things" "ids" "[I", Cond.methodLink RX4 212 yX2_firstOf, Cond.instanceMethod yX2_firstOf, Cond.selects RX2 yX2_firstOf yX2_firstOf, Cond.code yX2_firstOf cX2_firstOf 3 (some .int), Cond.methodLink RX4 215 yX4_leave, Cond.instanceMethod yX4_leave, Cond.selects RX4 yX4_leave yX4_leave, Cond.code yX4_leave cX4_leave 2 (some .int), Cond.methodLink RX4 222 yX2_remove, Cond.instanceMethod yX2_remove, Cond.selects RX2 yX2_remove yX2_remove, Cond.code yX2_remove cX2_remove 3 (some .boolean), Cond.methodLink RX2 28 yX2_has, Cond.instanceMethod yX2_has, Cond.selects RX2 yX2_has yX2_has]
def wsX4_pass_r4 : List Cond := [Cond.code yX2_has cX2_has 2 (some .boolean), Cond.methodLink RX4 199 yX4_cardEffect, Cond.instanceMethod yX4_cardEffect, Cond.selects RX4 yX4_cardEffect yX4_cardEffect, Cond.code yX4_cardEffect cX4_cardEffect 4 (some .int), Cond.methodLink RX4 168 yX4_isThing, Cond.static yX4_isThing, Cond.code yX4_isThing cX4_isThing 1 (some .boolean), Cond.methodLink RX4 188 yX2_placeOf, Cond.instanceMethod yX2_placeOf, Cond.selects RX2 yX2_placeOf yX2_placeOf, Cond.code yX2_placeOf cX2_placeOf 3 (some .int), Cond.methodLink RX4 209 yX4_strike, Cond.instanceMethod yX4_strike, Cond.selects RX4 yX4_strike yX4_strike, Cond.code yX4_strike cX4_strike 2 (some .int), Cond.fieldLink RX4 30 "LayeredTable" "view" "LLayeredTable$View;", Cond.fieldLink RX4 137 "LayeredTable$View" "strengths" "[I", Cond.methodLink RX4 115 yX2_has, Cond.methodLink RX4 127 yX3_find, Cond.instanceMethod yX3_find, Cond.selects RX3 yX3_find yX3_find, Cond.initialized RX3, Cond.code yX3_find cX3_find 5 none]
def wsX4_pass_r5 : List Cond := [Cond.fieldLink RX3 27 "LayeredTable$Things" "size" "I", Cond.fieldLink RX3 33 "LayeredTable$Things" "cards" "[I", Cond.fieldLink RX3 9 "LayeredTable$View" "controllers" "[I", Cond.fieldLink RX3 36 "LayeredTable$Things" "players" "[I", Cond.fieldLink RX3 15 "LayeredTable$View" "kinds" "[I", Cond.fieldLink RX3 18 "LayeredTable$View" "strengths" "[I", Cond.methodLink RX3 39 yX3_goThrough, Cond.instanceMethod yX3_goThrough, Cond.selects RX3 yX3_goThrough yX3_goThrough, Cond.code yX3_goThrough cX3_goThrough 6 none, Cond.fieldLink RX3 21 "LayeredTable$View" "kindsBefore" "[I", Cond.fieldLink RX3 24 "LayeredTable$View" "strengthsBefore" "[I", Cond.static yX4_layerOf, Cond.code yX4_layerOf cX4_layerOf 1 (some .int), Cond.fieldLink RX4 162 "LayeredTable" "LAYER_OF" "[I", Cond.methodLink RX3 47 yX3_takes, Cond.instanceMethod yX3_takes, Cond.selects RX3 yX3_takes yX3_takes, Cond.code yX3_takes cX3_takes 5 (some .boolean), Cond.fieldLink RX3 55 "LayeredTable$Things" "ids" "[I", Cond.fieldLink RX3 58 "LayeredTable$Things" "targets" "[I", Cond.methodLink RX3 51 yX3_change, Cond.instanceMethod yX3_change, Cond.selects RX3 yX3_change yX3_change]
def wsX4_pass_r6 : List Cond := [Cond.code yX3_change cX3_change 4 none, Cond.methodLink RX4 185 yX0_placeOf, Cond.instanceMethod yX0_placeOf, Cond.selects RX0 yX0_placeOf yX0_placeOf, Cond.code yX0_placeOf cX0_placeOf 3 (some .int), Cond.methodLink RX4 144 yX0_indexOf, Cond.instanceMethod yX0_indexOf, Cond.selects RX0 yX0_indexOf yX0_indexOf, Cond.code yX0_indexOf cX0_indexOf 2 (some .int), Cond.methodLink RX0 32 yX0_has, Cond.instanceMethod yX0_has, Cond.selects RX0 yX0_has yX0_has, Cond.code yX0_has cX0_has 2 (some .boolean), Cond.methodLink RX4 189 yX4_raiseTriggers, Cond.instanceMethod yX4_raiseTriggers, Cond.selects RX4 yX4_raiseTriggers yX4_raiseTriggers, Cond.code yX4_raiseTriggers cX4_raiseTriggers 7 none, Cond.fieldLink RX4 114 "LayeredTable$Things" "size" "I", Cond.fieldLink RX4 121 "LayeredTable$Things" "cards" "[I", Cond.fieldLink RX4 131 "LayeredTable$View" "controllers" "[I", Cond.methodLink RX4 224 yX4_hasTrigger, Cond.instanceMethod yX4_hasTrigger, Cond.selects RX4 yX4_hasTrigger yX4_hasTrigger, Cond.code yX4_hasTrigger cX4_hasTrigger 4 (some .boolean)]
def wsX4_pass_r7 : List Cond := [Cond.methodLink RX4 76 yX0_push, Cond.instanceMethod yX0_push, Cond.selects RX0 yX0_push yX0_push, Cond.code yX0_push cX0_push 6 none, Cond.methodLink RX4 203 yX4_breakLoop, Cond.instanceMethod yX4_breakLoop, Cond.selects RX4 yX4_breakLoop yX4_breakLoop, Cond.code yX4_breakLoop cX4_breakLoop 2 none, Cond.fieldLink RX4 37 "LayeredTable" "memory" "LLayeredTable$Memory;", Cond.fieldLink RX4 231 "LayeredTable$Things" "players" "[I", Cond.fieldLink RX4 232 "LayeredTable$Things" "targets" "[I", Cond.fieldLink RX4 109 "LayeredTable" "loopCount" "I", Cond.methodLink RX4 228 yX1_start, Cond.instanceMethod yX1_start, Cond.selects RX1 yX1_start yX1_start, Cond.initialized RX1, Cond.code yX1_start cX1_start 3 none, Cond.fieldLink RX1 11 "LayeredTable$Memory" "state" "[I", Cond.fieldLink RX1 27 "LayeredTable$Memory" "length" "I", Cond.methodLink RX4 233 yX1_write, Cond.instanceMethod yX1_write, Cond.selects RX1 yX1_write yX1_write, Cond.code yX1_write cX1_write 5 none, Cond.methodLink RX4 154 yX4_targetPlace]
def wsX4_pass_r8 : List Cond := [Cond.instanceMethod yX4_targetPlace, Cond.selects RX4 yX4_targetPlace yX4_targetPlace, Cond.code yX4_targetPlace cX4_targetPlace 3 (some .int), Cond.methodLink RX4 237 yX1_knowsState, Cond.instanceMethod yX1_knowsState, Cond.selects RX1 yX1_knowsState yX1_knowsState, Cond.code yX1_knowsState cX1_knowsState 2 (some .boolean), Cond.fieldLink RX1 20 "LayeredTable$Memory" "size" "I", Cond.fieldLink RX1 17 "LayeredTable$Memory" "kept" "[[I", Cond.methodLink RX1 30 yX1_isState, Cond.instanceMethod yX1_isState, Cond.selects RX1 yX1_isState yX1_isState, Cond.code yX1_isState cX1_isState 3 (some .boolean), Cond.methodLink RX4 80 yX1_forget, Cond.instanceMethod yX1_forget, Cond.selects RX1 yX1_forget yX1_forget, Cond.code yX1_forget cX1_forget 1 none, Cond.fieldLink RX1 24 "LayeredTable$Memory" "next" "I", Cond.methodLink RX4 241 yX1_keepState, Cond.instanceMethod yX1_keepState, Cond.selects RX1 yX1_keepState yX1_keepState, Cond.code yX1_keepState cX1_keepState 1 none, Cond.methodLink RX1 34 arraycopyName, Cond.native arraycopyName]
def wsX4_pass_r9 : List Cond := [Cond.static arraycopyName, Cond.initialized "java/lang/System", Cond.methodLink RX4 95 yX4_beginTurn, Cond.instanceMethod yX4_beginTurn, Cond.selects RX4 yX4_beginTurn yX4_beginTurn, Cond.code yX4_beginTurn cX4_beginTurn 1 none, Cond.fieldLink RX4 106 "LayeredTable" "roundCount" "I"]
def wsX4_pass : List Cond := .code yX4_pass cX4_pass 1 (some .int) :: ((wsX4_pass_r1 ++ (wsX4_pass_r2 ++ (wsX4_pass_r3 ++ (wsX4_pass_r4 ++ (wsX4_pass_r5 ++ (wsX4_pass_r6 ++ (wsX4_pass_r7 ++ (wsX4_pass_r8 ++ wsX4_pass_r9)))))))) ++ wsX40 ++ wsX00 ++ wsX20 ++ wsX30 ++ wsX10)
def wsX4_settle_r1 : List Cond := [Cond.classLink RX4 98 "java/lang/IllegalArgumentException", Cond.initialized "java/lang/IllegalArgumentException", Cond.fieldLink RX4 23 "LayeredTable" "pile" "LLayeredTable$Entries;", Cond.fieldLink RX4 89 "LayeredTable$Entries" "size" "I", Cond.methodLink RX4 92 yX4_resolveTop, Cond.instanceMethod yX4_resolveTop, Cond.selects RX4 yX4_resolveTop yX4_resolveTop, Cond.initialized RX4, Cond.code yX4_resolveTop cX4_resolveTop 6 none, Cond.fieldLink RX4 143 "LayeredTable$Entries" "cards" "[I", Cond.fieldLink RX4 147 "LayeredTable$Entries" "triggers" "[Z", Cond.fieldLink RX4 151 "LayeredTable$Entries" "players" "[I", Cond.fieldLink RX4 182 "LayeredTable$Entries" "targets" "[I", Cond.fieldLink RX4 83 "LayeredTable" "passes" "I", Cond.fieldLink RX4 103 "LayeredTable" "turnPlayer" "I", Cond.fieldLink RX4 57 "LayeredTable" "actingPlayer" "I", Cond.methodLink RX4 193 yX0_remove, Cond.instanceMethod yX0_remove, Cond.selects RX0 yX0_remove yX0_remove, Cond.initialized RX0, Cond.code yX0_remove cX0_remove 3 none, Cond.fieldLink RX0 28 "LayeredTable$Entries" "size" "I", Cond.fieldLink RX0 9 "LayeredTable$Entries" "cards" "[I", Cond.fieldLink RX0 15 "LayeredTable$Entries" "triggers" "[Z"]
def wsX4_settle_r2 : List Cond := [Cond.fieldLink RX0 19 "LayeredTable$Entries" "players" "[I", Cond.fieldLink RX0 22 "LayeredTable$Entries" "targets" "[I", Cond.fieldLink RX0 25 "LayeredTable$Entries" "ids" "[I", Cond.methodLink RX4 196 yX4_triggerEffect, Cond.instanceMethod yX4_triggerEffect, Cond.selects RX4 yX4_triggerEffect yX4_triggerEffect, Cond.code yX4_triggerEffect cX4_triggerEffect 3 (some .int), Cond.fieldLink RX4 16 "LayeredTable" "table" "LLayeredTable$Things;", Cond.methodLink RX4 65 yX4_pay, Cond.instanceMethod yX4_pay, Cond.selects RX4 yX4_pay yX4_pay, Cond.code yX4_pay cX4_pay 3 none, Cond.fieldLink RX4 9 "LayeredTable" "purses" "[I", Cond.methodLink RX4 206 yX4_enter, Cond.instanceMethod yX4_enter, Cond.selects RX4 yX4_enter yX4_enter, Cond.code yX4_enter cX4_enter 4 (some .int), Cond.methodLink RX4 72 yX4_newId, Cond.instanceMethod yX4_newId, Cond.selects RX4 yX4_newId yX4_newId, Cond.code yX4_newId cX4_newId 2 (some .int), Cond.fieldLink RX4 165 "LayeredTable" "nextId" "I", Cond.methodLink RX4 218 yX2_add, Cond.instanceMethod yX2_add]
def wsX4_settle_r3 : List Cond := [Cond.selects RX2 yX2_add yX2_add, Cond.initialized RX2, Cond.code yX2_add cX2_add 5 (some .boolean), Cond.fieldLink RX2 24 "LayeredTable$Things" "size" "I", Cond.fieldLink RX2 9 "LayeredTable$Things" "cards" "[I", Cond.fieldLink RX2 15 "LayeredTable$Things" "players" "[I", Cond.fieldLink RX2 18 "LayeredTable$Things" "targets" "[I", Cond.fieldLink RX2 21 "LayeredTable$Things" "ids" "[I", Cond.methodLink RX4 212 yX2_firstOf, Cond.instanceMethod yX2_firstOf, Cond.selects RX2 yX2_firstOf yX2_firstOf, Cond.code yX2_firstOf cX2_firstOf 3 (some .int), Cond.methodLink RX4 215 yX4_leave, Cond.instanceMethod yX4_leave, Cond.selects RX4 yX4_leave yX4_leave, Cond.code yX4_leave cX4_leave 2 (some .int), Cond.methodLink RX4 222 yX2_remove, Cond.instanceMethod yX2_remove, Cond.selects RX2 yX2_remove yX2_remove, Cond.code yX2_remove cX2_remove 3 (some .boolean), Cond.methodLink RX2 28 yX2_has, Cond.instanceMethod yX2_has, Cond.selects RX2 yX2_has yX2_has, Cond.code yX2_has cX2_has 2 (some .boolean)]
def wsX4_settle_r4 : List Cond := [Cond.methodLink RX4 199 yX4_cardEffect, Cond.instanceMethod yX4_cardEffect, Cond.selects RX4 yX4_cardEffect yX4_cardEffect, Cond.code yX4_cardEffect cX4_cardEffect 4 (some .int), Cond.methodLink RX4 168 yX4_isThing, Cond.static yX4_isThing, Cond.code yX4_isThing cX4_isThing 1 (some .boolean), Cond.methodLink RX4 188 yX2_placeOf, Cond.instanceMethod yX2_placeOf, Cond.selects RX2 yX2_placeOf yX2_placeOf, Cond.code yX2_placeOf cX2_placeOf 3 (some .int), Cond.methodLink RX4 209 yX4_strike, Cond.instanceMethod yX4_strike, Cond.selects RX4 yX4_strike yX4_strike, Cond.code yX4_strike cX4_strike 2 (some .int), Cond.fieldLink RX4 30 "LayeredTable" "view" "LLayeredTable$View;", Cond.fieldLink RX4 137 "LayeredTable$View" "strengths" "[I", Cond.methodLink RX4 115 yX2_has, Cond.methodLink RX4 127 yX3_find, Cond.instanceMethod yX3_find, Cond.selects RX3 yX3_find yX3_find, Cond.initialized RX3, Cond.code yX3_find cX3_find 5 none, Cond.fieldLink RX3 27 "LayeredTable$Things" "size" "I"]
def wsX4_settle_r5 : List Cond := [Cond.fieldLink RX3 33 "LayeredTable$Things" "cards" "[I", Cond.fieldLink RX3 9 "LayeredTable$View" "controllers" "[I", Cond.fieldLink RX3 36 "LayeredTable$Things" "players" "[I", Cond.fieldLink RX3 15 "LayeredTable$View" "kinds" "[I", Cond.fieldLink RX3 18 "LayeredTable$View" "strengths" "[I", Cond.methodLink RX3 39 yX3_goThrough, Cond.instanceMethod yX3_goThrough, Cond.selects RX3 yX3_goThrough yX3_goThrough, Cond.code yX3_goThrough cX3_goThrough 6 none, Cond.fieldLink RX3 21 "LayeredTable$View" "kindsBefore" "[I", Cond.fieldLink RX3 24 "LayeredTable$View" "strengthsBefore" "[I", Cond.static yX4_layerOf, Cond.code yX4_layerOf cX4_layerOf 1 (some .int), Cond.fieldLink RX4 162 "LayeredTable" "LAYER_OF" "[I", Cond.methodLink RX3 47 yX3_takes, Cond.instanceMethod yX3_takes, Cond.selects RX3 yX3_takes yX3_takes, Cond.code yX3_takes cX3_takes 5 (some .boolean), Cond.fieldLink RX3 55 "LayeredTable$Things" "ids" "[I", Cond.fieldLink RX3 58 "LayeredTable$Things" "targets" "[I", Cond.methodLink RX3 51 yX3_change, Cond.instanceMethod yX3_change, Cond.selects RX3 yX3_change yX3_change, Cond.code yX3_change cX3_change 4 none]
def wsX4_settle_r6 : List Cond := [Cond.methodLink RX4 185 yX0_placeOf, Cond.instanceMethod yX0_placeOf, Cond.selects RX0 yX0_placeOf yX0_placeOf, Cond.code yX0_placeOf cX0_placeOf 3 (some .int), Cond.methodLink RX4 144 yX0_indexOf, Cond.instanceMethod yX0_indexOf, Cond.selects RX0 yX0_indexOf yX0_indexOf, Cond.code yX0_indexOf cX0_indexOf 2 (some .int), Cond.methodLink RX0 32 yX0_has, Cond.instanceMethod yX0_has, Cond.selects RX0 yX0_has yX0_has, Cond.code yX0_has cX0_has 2 (some .boolean), Cond.methodLink RX4 189 yX4_raiseTriggers, Cond.instanceMethod yX4_raiseTriggers, Cond.selects RX4 yX4_raiseTriggers yX4_raiseTriggers, Cond.code yX4_raiseTriggers cX4_raiseTriggers 7 none, Cond.fieldLink RX4 114 "LayeredTable$Things" "size" "I", Cond.fieldLink RX4 121 "LayeredTable$Things" "cards" "[I", Cond.fieldLink RX4 131 "LayeredTable$View" "controllers" "[I", Cond.methodLink RX4 224 yX4_hasTrigger, Cond.instanceMethod yX4_hasTrigger, Cond.selects RX4 yX4_hasTrigger yX4_hasTrigger, Cond.code yX4_hasTrigger cX4_hasTrigger 4 (some .boolean), Cond.methodLink RX4 76 yX0_push]
def wsX4_settle_r7 : List Cond := [Cond.instanceMethod yX0_push, Cond.selects RX0 yX0_push yX0_push, Cond.code yX0_push cX0_push 6 none, Cond.methodLink RX4 86 yX4_nextPlayer, Cond.static yX4_nextPlayer, Cond.code yX4_nextPlayer cX4_nextPlayer 1 (some .int), Cond.methodLink RX4 203 yX4_breakLoop, Cond.instanceMethod yX4_breakLoop, Cond.selects RX4 yX4_breakLoop yX4_breakLoop, Cond.code yX4_breakLoop cX4_breakLoop 2 none, Cond.fieldLink RX4 37 "LayeredTable" "memory" "LLayeredTable$Memory;", Cond.fieldLink RX4 231 "LayeredTable$Things" "players" "[I", Cond.fieldLink RX4 232 "LayeredTable$Things" "targets" "[I", Cond.fieldLink RX4 109 "LayeredTable" "loopCount" "I", Cond.methodLink RX4 228 yX1_start, Cond.instanceMethod yX1_start, Cond.selects RX1 yX1_start yX1_start, Cond.initialized RX1, Cond.code yX1_start cX1_start 3 none, Cond.fieldLink RX1 11 "LayeredTable$Memory" "state" "[I", Cond.fieldLink RX1 27 "LayeredTable$Memory" "length" "I", Cond.methodLink RX4 233 yX1_write, Cond.instanceMethod yX1_write, Cond.selects RX1 yX1_write yX1_write]
def wsX4_settle_r8 : List Cond := [Cond.code yX1_write cX1_write 5 none, Cond.methodLink RX4 154 yX4_targetPlace, Cond.instanceMethod yX4_targetPlace, Cond.selects RX4 yX4_targetPlace yX4_targetPlace, Cond.code yX4_targetPlace cX4_targetPlace 3 (some .int), Cond.methodLink RX4 237 yX1_knowsState, Cond.instanceMethod yX1_knowsState, Cond.selects RX1 yX1_knowsState yX1_knowsState, Cond.code yX1_knowsState cX1_knowsState 2 (some .boolean), Cond.fieldLink RX1 20 "LayeredTable$Memory" "size" "I", Cond.fieldLink RX1 17 "LayeredTable$Memory" "kept" "[[I", Cond.methodLink RX1 30 yX1_isState, Cond.instanceMethod yX1_isState, Cond.selects RX1 yX1_isState yX1_isState, Cond.code yX1_isState cX1_isState 3 (some .boolean), Cond.methodLink RX4 80 yX1_forget, Cond.instanceMethod yX1_forget, Cond.selects RX1 yX1_forget yX1_forget, Cond.code yX1_forget cX1_forget 1 none, Cond.fieldLink RX1 24 "LayeredTable$Memory" "next" "I", Cond.methodLink RX4 241 yX1_keepState, Cond.instanceMethod yX1_keepState, Cond.selects RX1 yX1_keepState yX1_keepState, Cond.code yX1_keepState cX1_keepState 1 none]
def wsX4_settle_r9 : List Cond := [Cond.methodLink RX1 34 arraycopyName, Cond.native arraycopyName, Cond.static arraycopyName, Cond.initialized "java/lang/System"]
def wsX4_settle : List Cond := .code yX4_settle cX4_settle 3 (some .int) :: ((wsX4_settle_r1 ++ (wsX4_settle_r2 ++ (wsX4_settle_r3 ++ (wsX4_settle_r4 ++ (wsX4_settle_r5 ++ (wsX4_settle_r6 ++ (wsX4_settle_r7 ++ (wsX4_settle_r8 ++ wsX4_settle_r9)))))))) ++ wsX40 ++ wsX00 ++ wsX20 ++ wsX30 ++ wsX10 ++ (vx_atS RX4 102 "java/lang/IllegalArgumentException" ["java/lang/RuntimeException", "java/lang/Exception"]).filter goodWord)
def wsX4_turn : List Cond := .code yX4_turn cX4_turn 1 (some .int) :: ([.fieldLink RX4 103 "LayeredTable" "turnPlayer" "I"] ++ wsX40)
def wsX4_acting : List Cond := .code yX4_acting cX4_acting 1 (some .int) :: ([.fieldLink RX4 57 "LayeredTable" "actingPlayer" "I"] ++ wsX40)
def wsX4_rounds : List Cond := .code yX4_rounds cX4_rounds 1 (some .int) :: ([.fieldLink RX4 106 "LayeredTable" "roundCount" "I"] ++ wsX40)
def wsX4_loops : List Cond := .code yX4_loops cX4_loops 1 (some .int) :: ([.fieldLink RX4 109 "LayeredTable" "loopCount" "I"] ++ wsX40)
def wsX4_coins : List Cond := .code yX4_coins cX4_coins 2 (some .int) :: ([.classLink RX4 41 "java/lang/IndexOutOfBoundsException", .initialized "java/lang/IndexOutOfBoundsException", .fieldLink RX4 9 "LayeredTable" "purses" "[I"] ++ wsX40 ++ (vx_atS RX4 45 "java/lang/IndexOutOfBoundsException" ["java/lang/RuntimeException", "java/lang/Exception"]).filter goodWord)
def wsX4_things : List Cond := .code yX4_things cX4_things 1 (some .int) :: ([.fieldLink RX4 16 "LayeredTable" "table" "LLayeredTable$Things;", .fieldLink RX4 114 "LayeredTable$Things" "size" "I"] ++ wsX40 ++ wsX20)
def wsX4_cardOf : List Cond := .code yX4_cardOf cX4_cardOf 2 (some .int) :: ([.classLink RX4 41 "java/lang/IndexOutOfBoundsException", .initialized "java/lang/IndexOutOfBoundsException", .fieldLink RX4 16 "LayeredTable" "table" "LLayeredTable$Things;", .fieldLink RX4 121 "LayeredTable$Things" "cards" "[I", .methodLink RX4 115 yX2_has, .instanceMethod yX2_has, .selects RX2 yX2_has yX2_has, .initialized RX2, .code yX2_has cX2_has 2 (some .boolean), .fieldLink RX2 24 "LayeredTable$Things" "size" "I"] ++ wsX40 ++ wsX20 ++ (vx_atS RX4 45 "java/lang/IndexOutOfBoundsException" ["java/lang/RuntimeException", "java/lang/Exception"]).filter goodWord)
def wsX4_requireThingAndLayer : List Cond := .code yX4_requireThingAndLayer cX4_requireThingAndLayer 3 none :: ([.classLink RX4 41 "java/lang/IndexOutOfBoundsException", .initialized "java/lang/IndexOutOfBoundsException", .classLink RX4 98 "java/lang/IllegalArgumentException", .initialized "java/lang/IllegalArgumentException", .fieldLink RX4 16 "LayeredTable" "table" "LLayeredTable$Things;", .methodLink RX4 115 yX2_has, .instanceMethod yX2_has, .selects RX2 yX2_has yX2_has, .initialized RX2, .code yX2_has cX2_has 2 (some .boolean), .fieldLink RX2 24 "LayeredTable$Things" "size" "I"] ++ wsX40 ++ wsX20 ++ (vx_atS RX4 45 "java/lang/IndexOutOfBoundsException" ["java/lang/RuntimeException", "java/lang/Exception"]).filter goodWord ++ (vx_atS RX4 102 "java/lang/IllegalArgumentException" ["java/lang/RuntimeException", "java/lang/Exception"]).filter goodWord)
def wsX4_controllerOf_r1 : List Cond := [Cond.fieldLink RX4 30 "LayeredTable" "view" "LLayeredTable$View;", Cond.fieldLink RX4 16 "LayeredTable" "table" "LLayeredTable$Things;", Cond.fieldLink RX4 131 "LayeredTable$View" "controllers" "[I", Cond.methodLink RX4 124 yX4_requireThingAndLayer, Cond.instanceMethod yX4_requireThingAndLayer, Cond.selects RX4 yX4_requireThingAndLayer yX4_requireThingAndLayer, Cond.initialized RX4, Cond.code yX4_requireThingAndLayer cX4_requireThingAndLayer 3 none, Cond.classLink RX4 41 "java/lang/IndexOutOfBoundsException", Cond.initialized "java/lang/IndexOutOfBoundsException", Cond.classLink RX4 98 "java/lang/IllegalArgumentException", Cond.initialized "java/lang/IllegalArgumentException", Cond.methodLink RX4 115 yX2_has, Cond.instanceMethod yX2_has, Cond.selects RX2 yX2_has yX2_has, Cond.initialized RX2, Cond.code yX2_has cX2_has 2 (some .boolean), Cond.fieldLink RX2 24 "LayeredTable$Things" "size" "I", Cond.methodLink RX4 127 yX3_find, Cond.instanceMethod yX3_find, Cond.selects RX3 yX3_find yX3_find, Cond.initialized RX3, Cond.code yX3_find cX3_find 5 none, Cond.fieldLink RX3 27 "LayeredTable$Things" "size" "I"]
def wsX4_controllerOf_r2 : List Cond := [Cond.fieldLink RX3 33 "LayeredTable$Things" "cards" "[I", Cond.fieldLink RX3 9 "LayeredTable$View" "controllers" "[I", Cond.fieldLink RX3 36 "LayeredTable$Things" "players" "[I", Cond.fieldLink RX3 15 "LayeredTable$View" "kinds" "[I", Cond.fieldLink RX3 18 "LayeredTable$View" "strengths" "[I", Cond.methodLink RX3 39 yX3_goThrough, Cond.instanceMethod yX3_goThrough, Cond.selects RX3 yX3_goThrough yX3_goThrough, Cond.code yX3_goThrough cX3_goThrough 6 none, Cond.fieldLink RX3 21 "LayeredTable$View" "kindsBefore" "[I", Cond.fieldLink RX3 24 "LayeredTable$View" "strengthsBefore" "[I", Cond.static yX4_layerOf, Cond.code yX4_layerOf cX4_layerOf 1 (some .int), Cond.fieldLink RX4 162 "LayeredTable" "LAYER_OF" "[I", Cond.methodLink RX3 47 yX3_takes, Cond.instanceMethod yX3_takes, Cond.selects RX3 yX3_takes yX3_takes, Cond.code yX3_takes cX3_takes 5 (some .boolean), Cond.fieldLink RX3 55 "LayeredTable$Things" "ids" "[I", Cond.fieldLink RX3 58 "LayeredTable$Things" "targets" "[I", Cond.methodLink RX3 51 yX3_change, Cond.instanceMethod yX3_change, Cond.selects RX3 yX3_change yX3_change, Cond.code yX3_change cX3_change 4 none]
def wsX4_controllerOf : List Cond := .code yX4_controllerOf cX4_controllerOf 3 (some .int) :: ((wsX4_controllerOf_r1 ++ wsX4_controllerOf_r2) ++ wsX40 ++ wsX30 ++ wsX20 ++ (vx_atS RX4 45 "java/lang/IndexOutOfBoundsException" ["java/lang/RuntimeException", "java/lang/Exception"]).filter goodWord ++ (vx_atS RX4 102 "java/lang/IllegalArgumentException" ["java/lang/RuntimeException", "java/lang/Exception"]).filter goodWord)
def wsX4_kindsOf_r1 : List Cond := [Cond.fieldLink RX4 30 "LayeredTable" "view" "LLayeredTable$View;", Cond.fieldLink RX4 16 "LayeredTable" "table" "LLayeredTable$Things;", Cond.fieldLink RX4 134 "LayeredTable$View" "kinds" "[I", Cond.methodLink RX4 124 yX4_requireThingAndLayer, Cond.instanceMethod yX4_requireThingAndLayer, Cond.selects RX4 yX4_requireThingAndLayer yX4_requireThingAndLayer, Cond.initialized RX4, Cond.code yX4_requireThingAndLayer cX4_requireThingAndLayer 3 none, Cond.classLink RX4 41 "java/lang/IndexOutOfBoundsException", Cond.initialized "java/lang/IndexOutOfBoundsException", Cond.classLink RX4 98 "java/lang/IllegalArgumentException", Cond.initialized "java/lang/IllegalArgumentException", Cond.methodLink RX4 115 yX2_has, Cond.instanceMethod yX2_has, Cond.selects RX2 yX2_has yX2_has, Cond.initialized RX2, Cond.code yX2_has cX2_has 2 (some .boolean), Cond.fieldLink RX2 24 "LayeredTable$Things" "size" "I", Cond.methodLink RX4 127 yX3_find, Cond.instanceMethod yX3_find, Cond.selects RX3 yX3_find yX3_find, Cond.initialized RX3, Cond.code yX3_find cX3_find 5 none, Cond.fieldLink RX3 27 "LayeredTable$Things" "size" "I"]
def wsX4_kindsOf_r2 : List Cond := [Cond.fieldLink RX3 33 "LayeredTable$Things" "cards" "[I", Cond.fieldLink RX3 9 "LayeredTable$View" "controllers" "[I", Cond.fieldLink RX3 36 "LayeredTable$Things" "players" "[I", Cond.fieldLink RX3 15 "LayeredTable$View" "kinds" "[I", Cond.fieldLink RX3 18 "LayeredTable$View" "strengths" "[I", Cond.methodLink RX3 39 yX3_goThrough, Cond.instanceMethod yX3_goThrough, Cond.selects RX3 yX3_goThrough yX3_goThrough, Cond.code yX3_goThrough cX3_goThrough 6 none, Cond.fieldLink RX3 21 "LayeredTable$View" "kindsBefore" "[I", Cond.fieldLink RX3 24 "LayeredTable$View" "strengthsBefore" "[I", Cond.static yX4_layerOf, Cond.code yX4_layerOf cX4_layerOf 1 (some .int), Cond.fieldLink RX4 162 "LayeredTable" "LAYER_OF" "[I", Cond.methodLink RX3 47 yX3_takes, Cond.instanceMethod yX3_takes, Cond.selects RX3 yX3_takes yX3_takes, Cond.code yX3_takes cX3_takes 5 (some .boolean), Cond.fieldLink RX3 55 "LayeredTable$Things" "ids" "[I", Cond.fieldLink RX3 58 "LayeredTable$Things" "targets" "[I", Cond.methodLink RX3 51 yX3_change, Cond.instanceMethod yX3_change, Cond.selects RX3 yX3_change yX3_change, Cond.code yX3_change cX3_change 4 none]
def wsX4_kindsOf : List Cond := .code yX4_kindsOf cX4_kindsOf 3 (some .int) :: ((wsX4_kindsOf_r1 ++ wsX4_kindsOf_r2) ++ wsX40 ++ wsX30 ++ wsX20 ++ (vx_atS RX4 45 "java/lang/IndexOutOfBoundsException" ["java/lang/RuntimeException", "java/lang/Exception"]).filter goodWord ++ (vx_atS RX4 102 "java/lang/IllegalArgumentException" ["java/lang/RuntimeException", "java/lang/Exception"]).filter goodWord)
def wsX4_strengthOf_r1 : List Cond := [Cond.fieldLink RX4 30 "LayeredTable" "view" "LLayeredTable$View;", Cond.fieldLink RX4 16 "LayeredTable" "table" "LLayeredTable$Things;", Cond.fieldLink RX4 137 "LayeredTable$View" "strengths" "[I", Cond.methodLink RX4 124 yX4_requireThingAndLayer, Cond.instanceMethod yX4_requireThingAndLayer, Cond.selects RX4 yX4_requireThingAndLayer yX4_requireThingAndLayer, Cond.initialized RX4, Cond.code yX4_requireThingAndLayer cX4_requireThingAndLayer 3 none, Cond.classLink RX4 41 "java/lang/IndexOutOfBoundsException", Cond.initialized "java/lang/IndexOutOfBoundsException", Cond.classLink RX4 98 "java/lang/IllegalArgumentException", Cond.initialized "java/lang/IllegalArgumentException", Cond.methodLink RX4 115 yX2_has, Cond.instanceMethod yX2_has, Cond.selects RX2 yX2_has yX2_has, Cond.initialized RX2, Cond.code yX2_has cX2_has 2 (some .boolean), Cond.fieldLink RX2 24 "LayeredTable$Things" "size" "I", Cond.methodLink RX4 127 yX3_find, Cond.instanceMethod yX3_find, Cond.selects RX3 yX3_find yX3_find, Cond.initialized RX3, Cond.code yX3_find cX3_find 5 none, Cond.fieldLink RX3 27 "LayeredTable$Things" "size" "I"]
def wsX4_strengthOf_r2 : List Cond := [Cond.fieldLink RX3 33 "LayeredTable$Things" "cards" "[I", Cond.fieldLink RX3 9 "LayeredTable$View" "controllers" "[I", Cond.fieldLink RX3 36 "LayeredTable$Things" "players" "[I", Cond.fieldLink RX3 15 "LayeredTable$View" "kinds" "[I", Cond.fieldLink RX3 18 "LayeredTable$View" "strengths" "[I", Cond.methodLink RX3 39 yX3_goThrough, Cond.instanceMethod yX3_goThrough, Cond.selects RX3 yX3_goThrough yX3_goThrough, Cond.code yX3_goThrough cX3_goThrough 6 none, Cond.fieldLink RX3 21 "LayeredTable$View" "kindsBefore" "[I", Cond.fieldLink RX3 24 "LayeredTable$View" "strengthsBefore" "[I", Cond.static yX4_layerOf, Cond.code yX4_layerOf cX4_layerOf 1 (some .int), Cond.fieldLink RX4 162 "LayeredTable" "LAYER_OF" "[I", Cond.methodLink RX3 47 yX3_takes, Cond.instanceMethod yX3_takes, Cond.selects RX3 yX3_takes yX3_takes, Cond.code yX3_takes cX3_takes 5 (some .boolean), Cond.fieldLink RX3 55 "LayeredTable$Things" "ids" "[I", Cond.fieldLink RX3 58 "LayeredTable$Things" "targets" "[I", Cond.methodLink RX3 51 yX3_change, Cond.instanceMethod yX3_change, Cond.selects RX3 yX3_change yX3_change, Cond.code yX3_change cX3_change 4 none]
def wsX4_strengthOf : List Cond := .code yX4_strengthOf cX4_strengthOf 3 (some .int) :: ((wsX4_strengthOf_r1 ++ wsX4_strengthOf_r2) ++ wsX40 ++ wsX30 ++ wsX20 ++ (vx_atS RX4 45 "java/lang/IndexOutOfBoundsException" ["java/lang/RuntimeException", "java/lang/Exception"]).filter goodWord ++ (vx_atS RX4 102 "java/lang/IllegalArgumentException" ["java/lang/RuntimeException", "java/lang/Exception"]).filter goodWord)
def wsX4_power_r1 : List Cond := [Cond.classLink RX4 41 "java/lang/IndexOutOfBoundsException", Cond.initialized "java/lang/IndexOutOfBoundsException", Cond.fieldLink RX4 30 "LayeredTable" "view" "LLayeredTable$View;", Cond.fieldLink RX4 16 "LayeredTable" "table" "LLayeredTable$Things;", Cond.fieldLink RX4 114 "LayeredTable$Things" "size" "I", Cond.fieldLink RX4 131 "LayeredTable$View" "controllers" "[I", Cond.fieldLink RX4 134 "LayeredTable$View" "kinds" "[I", Cond.fieldLink RX4 137 "LayeredTable$View" "strengths" "[I", Cond.methodLink RX4 127 yX3_find, Cond.instanceMethod yX3_find, Cond.selects RX3 yX3_find yX3_find, Cond.initialized RX3, Cond.code yX3_find cX3_find 5 none, Cond.fieldLink RX3 27 "LayeredTable$Things" "size" "I", Cond.fieldLink RX3 33 "LayeredTable$Things" "cards" "[I", Cond.fieldLink RX3 9 "LayeredTable$View" "controllers" "[I", Cond.fieldLink RX3 36 "LayeredTable$Things" "players" "[I", Cond.fieldLink RX3 15 "LayeredTable$View" "kinds" "[I", Cond.fieldLink RX3 18 "LayeredTable$View" "strengths" "[I", Cond.methodLink RX3 39 yX3_goThrough, Cond.instanceMethod yX3_goThrough, Cond.selects RX3 yX3_goThrough yX3_goThrough, Cond.code yX3_goThrough cX3_goThrough 6 none, Cond.fieldLink RX3 21 "LayeredTable$View" "kindsBefore" "[I"]
def wsX4_power_r2 : List Cond := [Cond.fieldLink RX3 24 "LayeredTable$View" "strengthsBefore" "[I", Cond.static yX4_layerOf, Cond.initialized RX4, Cond.code yX4_layerOf cX4_layerOf 1 (some .int), Cond.fieldLink RX4 162 "LayeredTable" "LAYER_OF" "[I", Cond.methodLink RX3 47 yX3_takes, Cond.instanceMethod yX3_takes, Cond.selects RX3 yX3_takes yX3_takes, Cond.code yX3_takes cX3_takes 5 (some .boolean), Cond.fieldLink RX3 55 "LayeredTable$Things" "ids" "[I", Cond.fieldLink RX3 58 "LayeredTable$Things" "targets" "[I", Cond.methodLink RX3 51 yX3_change, Cond.instanceMethod yX3_change, Cond.selects RX3 yX3_change yX3_change, Cond.code yX3_change cX3_change 4 none]
def wsX4_power : List Cond := .code yX4_power cX4_power 4 (some .int) :: ((wsX4_power_r1 ++ wsX4_power_r2) ++ wsX40 ++ wsX20 ++ wsX30 ++ (vx_atS RX4 45 "java/lang/IndexOutOfBoundsException" ["java/lang/RuntimeException", "java/lang/Exception"]).filter goodWord)
def wsX4_stack : List Cond := .code yX4_stack cX4_stack 1 (some .int) :: ([.fieldLink RX4 23 "LayeredTable" "pile" "LLayeredTable$Entries;", .fieldLink RX4 89 "LayeredTable$Entries" "size" "I"] ++ wsX40 ++ wsX00)
def wsX4_entryCard : List Cond := .code yX4_entryCard cX4_entryCard 2 (some .int) :: ([.classLink RX4 41 "java/lang/IndexOutOfBoundsException", .initialized "java/lang/IndexOutOfBoundsException", .fieldLink RX4 23 "LayeredTable" "pile" "LLayeredTable$Entries;", .fieldLink RX4 143 "LayeredTable$Entries" "cards" "[I", .methodLink RX4 140 yX0_has, .instanceMethod yX0_has, .selects RX0 yX0_has yX0_has, .initialized RX0, .code yX0_has cX0_has 2 (some .boolean), .fieldLink RX0 28 "LayeredTable$Entries" "size" "I", .methodLink RX4 144 yX0_indexOf, .instanceMethod yX0_indexOf, .selects RX0 yX0_indexOf yX0_indexOf, .code yX0_indexOf cX0_indexOf 2 (some .int), .methodLink RX0 32 yX0_has] ++ wsX40 ++ wsX00 ++ (vx_atS RX4 45 "java/lang/IndexOutOfBoundsException" ["java/lang/RuntimeException", "java/lang/Exception"]).filter goodWord)
def wsX4_isTrigger : List Cond := .code yX4_isTrigger cX4_isTrigger 2 (some .boolean) :: ([.classLink RX4 41 "java/lang/IndexOutOfBoundsException", .initialized "java/lang/IndexOutOfBoundsException", .fieldLink RX4 23 "LayeredTable" "pile" "LLayeredTable$Entries;", .fieldLink RX4 147 "LayeredTable$Entries" "triggers" "[Z", .methodLink RX4 140 yX0_has, .instanceMethod yX0_has, .selects RX0 yX0_has yX0_has, .initialized RX0, .code yX0_has cX0_has 2 (some .boolean), .fieldLink RX0 28 "LayeredTable$Entries" "size" "I", .methodLink RX4 144 yX0_indexOf, .instanceMethod yX0_indexOf, .selects RX0 yX0_indexOf yX0_indexOf, .code yX0_indexOf cX0_indexOf 2 (some .int), .methodLink RX0 32 yX0_has] ++ wsX40 ++ wsX00 ++ (vx_atS RX4 45 "java/lang/IndexOutOfBoundsException" ["java/lang/RuntimeException", "java/lang/Exception"]).filter goodWord)
def wsX4_entryPlayer : List Cond := .code yX4_entryPlayer cX4_entryPlayer 2 (some .int) :: ([.classLink RX4 41 "java/lang/IndexOutOfBoundsException", .initialized "java/lang/IndexOutOfBoundsException", .fieldLink RX4 23 "LayeredTable" "pile" "LLayeredTable$Entries;", .fieldLink RX4 151 "LayeredTable$Entries" "players" "[I", .methodLink RX4 140 yX0_has, .instanceMethod yX0_has, .selects RX0 yX0_has yX0_has, .initialized RX0, .code yX0_has cX0_has 2 (some .boolean), .fieldLink RX0 28 "LayeredTable$Entries" "size" "I", .methodLink RX4 144 yX0_indexOf, .instanceMethod yX0_indexOf, .selects RX0 yX0_indexOf yX0_indexOf, .code yX0_indexOf cX0_indexOf 2 (some .int), .methodLink RX0 32 yX0_has] ++ wsX40 ++ wsX00 ++ (vx_atS RX4 45 "java/lang/IndexOutOfBoundsException" ["java/lang/RuntimeException", "java/lang/Exception"]).filter goodWord)
def wsX4_entryTarget_r1 : List Cond := [Cond.classLink RX4 41 "java/lang/IndexOutOfBoundsException", Cond.initialized "java/lang/IndexOutOfBoundsException", Cond.fieldLink RX4 23 "LayeredTable" "pile" "LLayeredTable$Entries;", Cond.methodLink RX4 140 yX0_has, Cond.instanceMethod yX0_has, Cond.selects RX0 yX0_has yX0_has, Cond.initialized RX0, Cond.code yX0_has cX0_has 2 (some .boolean), Cond.fieldLink RX0 28 "LayeredTable$Entries" "size" "I", Cond.methodLink RX4 144 yX0_indexOf, Cond.instanceMethod yX0_indexOf, Cond.selects RX0 yX0_indexOf yX0_indexOf, Cond.code yX0_indexOf cX0_indexOf 2 (some .int), Cond.methodLink RX0 32 yX0_has, Cond.methodLink RX4 154 yX4_targetPlace, Cond.instanceMethod yX4_targetPlace, Cond.selects RX4 yX4_targetPlace yX4_targetPlace, Cond.initialized RX4, Cond.code yX4_targetPlace cX4_targetPlace 3 (some .int), Cond.fieldLink RX4 89 "LayeredTable$Entries" "size" "I", Cond.fieldLink RX4 182 "LayeredTable$Entries" "targets" "[I", Cond.fieldLink RX4 143 "LayeredTable$Entries" "cards" "[I", Cond.fieldLink RX4 16 "LayeredTable" "table" "LLayeredTable$Things;", Cond.methodLink RX4 185 yX0_placeOf]
def wsX4_entryTarget_r2 : List Cond := [Cond.instanceMethod yX0_placeOf, Cond.selects RX0 yX0_placeOf yX0_placeOf, Cond.code yX0_placeOf cX0_placeOf 3 (some .int), Cond.fieldLink RX0 25 "LayeredTable$Entries" "ids" "[I", Cond.methodLink RX4 188 yX2_placeOf, Cond.instanceMethod yX2_placeOf, Cond.selects RX2 yX2_placeOf yX2_placeOf, Cond.initialized RX2, Cond.code yX2_placeOf cX2_placeOf 3 (some .int), Cond.fieldLink RX2 24 "LayeredTable$Things" "size" "I", Cond.fieldLink RX2 21 "LayeredTable$Things" "ids" "[I"]
def wsX4_entryTarget : List Cond := .code yX4_entryTarget cX4_entryTarget 2 (some .int) :: ((wsX4_entryTarget_r1 ++ wsX4_entryTarget_r2) ++ wsX40 ++ wsX00 ++ wsX20 ++ (vx_atS RX4 45 "java/lang/IndexOutOfBoundsException" ["java/lang/RuntimeException", "java/lang/Exception"]).filter goodWord)
def wsX5_init : List Cond := .code yX5_init cX5_init 2 none :: ([.methodLink RX5 1 objectInit, .instanceMethod objectInit, .code objectInit ⟨#[0xb1]⟩ 1 none, .arrayClass .int, .fieldLink RX5 7 "LayeredTableModel" "coins" "[I", .fieldLink RX5 13 "LayeredTableModel" "card" "[I", .fieldLink RX5 16 "LayeredTableModel" "owner" "[I", .fieldLink RX5 19 "LayeredTableModel" "name" "[I", .fieldLink RX5 22 "LayeredTableModel" "aim" "[I", .fieldLink RX5 25 "LayeredTableModel" "put" "[I", .arrayClass .boolean, .fieldLink RX5 28 "LayeredTableModel" "triggered" "[Z", .fieldLink RX5 32 "LayeredTableModel" "whose" "[I", .fieldLink RX5 35 "LayeredTableModel" "mark" "[I", .fieldLink RX5 38 "LayeredTableModel" "target" "[I", .fieldLink RX5 41 "LayeredTableModel" "controller" "[I", .fieldLink RX5 44 "LayeredTableModel" "kinds" "[I", .fieldLink RX5 47 "LayeredTableModel" "strength" "[I", .fieldLink RX5 50 "LayeredTableModel" "kindsThen" "[I", .fieldLink RX5 53 "LayeredTableModel" "strengthThen" "[I", .fieldLink RX5 56 "LayeredTableModel" "states" "[I", .fieldLink RX5 59 "LayeredTableModel" "state" "[I"] ++ wsX50)
def wsX5_thrown : List Cond := .code yX5_thrown cX5_thrown 1 (some .int) :: ([.fieldLink RX5 62 "LayeredTableModel" "thrown" "I"] ++ wsX50)
def wsX5_isIn : List Cond := .code yX5_isIn cX5_isIn 3 (some .boolean) :: ([])
def wsX5_cost : List Cond := .code yX5_cost cX5_cost 1 (some .int) :: ([])
def wsX5_thingOf : List Cond := .code yX5_thingOf cX5_thingOf 4 (some .int) :: ([.fieldLink RX5 66 "LayeredTableModel" "things" "I", .fieldLink RX5 19 "LayeredTableModel" "name" "[I"] ++ wsX50)
def wsX5_entryOf : List Cond := .code yX5_entryOf cX5_entryOf 4 (some .int) :: ([.fieldLink RX5 69 "LayeredTableModel" "height" "I", .fieldLink RX5 35 "LayeredTableModel" "mark" "[I"] ++ wsX50)
def wsX5_layer : List Cond := .code yX5_layer cX5_layer 7 none :: ([.fieldLink RX5 13 "LayeredTableModel" "card" "[I", .fieldLink RX5 22 "LayeredTableModel" "aim" "[I", .fieldLink RX5 41 "LayeredTableModel" "controller" "[I", .fieldLink RX5 16 "LayeredTableModel" "owner" "[I", .fieldLink RX5 66 "LayeredTableModel" "things" "I", .fieldLink RX5 50 "LayeredTableModel" "kindsThen" "[I", .fieldLink RX5 44 "LayeredTableModel" "kinds" "[I", .fieldLink RX5 47 "LayeredTableModel" "strength" "[I", .fieldLink RX5 53 "LayeredTableModel" "strengthThen" "[I", .methodLink RX5 72 yX5_thingOf, .instanceMethod yX5_thingOf, .selects RX5 yX5_thingOf yX5_thingOf, .initialized RX5, .code yX5_thingOf cX5_thingOf 4 (some .int), .fieldLink RX5 19 "LayeredTableModel" "name" "[I"] ++ wsX50)
def wsX5_lays : List Cond := .code yX5_lays cX5_lays 4 none :: ([.fieldLink RX5 66 "LayeredTableModel" "things" "I", .fieldLink RX5 41 "LayeredTableModel" "controller" "[I", .fieldLink RX5 16 "LayeredTableModel" "owner" "[I", .fieldLink RX5 44 "LayeredTableModel" "kinds" "[I", .fieldLink RX5 13 "LayeredTableModel" "card" "[I", .fieldLink RX5 47 "LayeredTableModel" "strength" "[I", .fieldLink RX5 50 "LayeredTableModel" "kindsThen" "[I", .fieldLink RX5 53 "LayeredTableModel" "strengthThen" "[I", .methodLink RX5 76 yX5_layer, .instanceMethod yX5_layer, .selects RX5 yX5_layer yX5_layer, .initialized RX5, .code yX5_layer cX5_layer 7 none, .fieldLink RX5 22 "LayeredTableModel" "aim" "[I", .methodLink RX5 72 yX5_thingOf, .instanceMethod yX5_thingOf, .selects RX5 yX5_thingOf yX5_thingOf, .code yX5_thingOf cX5_thingOf 4 (some .int), .fieldLink RX5 19 "LayeredTableModel" "name" "[I"] ++ wsX50)
def wsX5_triggers : List Cond := .code yX5_triggers cX5_triggers 3 none :: ([.fieldLink RX5 69 "LayeredTableModel" "height" "I", .fieldLink RX5 25 "LayeredTableModel" "put" "[I", .fieldLink RX5 28 "LayeredTableModel" "triggered" "[Z", .fieldLink RX5 32 "LayeredTableModel" "whose" "[I", .fieldLink RX5 80 "LayeredTableModel" "names" "I", .fieldLink RX5 35 "LayeredTableModel" "mark" "[I", .fieldLink RX5 38 "LayeredTableModel" "target" "[I"] ++ wsX50)
def wsX5_triggersOf_r1 : List Cond := [Cond.fieldLink RX5 87 "LayeredTableModel" "turn" "I", Cond.fieldLink RX5 66 "LayeredTableModel" "things" "I", Cond.fieldLink RX5 41 "LayeredTableModel" "controller" "[I", Cond.fieldLink RX5 13 "LayeredTableModel" "card" "[I", Cond.methodLink RX5 83 yX5_lays, Cond.instanceMethod yX5_lays, Cond.selects RX5 yX5_lays yX5_lays, Cond.initialized RX5, Cond.code yX5_lays cX5_lays 4 none, Cond.fieldLink RX5 16 "LayeredTableModel" "owner" "[I", Cond.fieldLink RX5 44 "LayeredTableModel" "kinds" "[I", Cond.fieldLink RX5 47 "LayeredTableModel" "strength" "[I", Cond.fieldLink RX5 50 "LayeredTableModel" "kindsThen" "[I", Cond.fieldLink RX5 53 "LayeredTableModel" "strengthThen" "[I", Cond.methodLink RX5 76 yX5_layer, Cond.instanceMethod yX5_layer, Cond.selects RX5 yX5_layer yX5_layer, Cond.code yX5_layer cX5_layer 7 none, Cond.fieldLink RX5 22 "LayeredTableModel" "aim" "[I", Cond.methodLink RX5 72 yX5_thingOf, Cond.instanceMethod yX5_thingOf, Cond.selects RX5 yX5_thingOf yX5_thingOf, Cond.code yX5_thingOf cX5_thingOf 4 (some .int), Cond.fieldLink RX5 19 "LayeredTableModel" "name" "[I"]
def wsX5_triggersOf_r2 : List Cond := [Cond.methodLink RX5 90 yX5_triggers, Cond.instanceMethod yX5_triggers, Cond.selects RX5 yX5_triggers yX5_triggers, Cond.code yX5_triggers cX5_triggers 3 none, Cond.fieldLink RX5 69 "LayeredTableModel" "height" "I", Cond.fieldLink RX5 25 "LayeredTableModel" "put" "[I", Cond.fieldLink RX5 28 "LayeredTableModel" "triggered" "[Z", Cond.fieldLink RX5 32 "LayeredTableModel" "whose" "[I", Cond.fieldLink RX5 80 "LayeredTableModel" "names" "I", Cond.fieldLink RX5 35 "LayeredTableModel" "mark" "[I", Cond.fieldLink RX5 38 "LayeredTableModel" "target" "[I"]
def wsX5_triggersOf : List Cond := .code yX5_triggersOf cX5_triggersOf 7 none :: ((wsX5_triggersOf_r1 ++ wsX5_triggersOf_r2) ++ wsX50)
def wsX5_enters_r1 : List Cond := [Cond.fieldLink RX5 66 "LayeredTableModel" "things" "I", Cond.fieldLink RX5 13 "LayeredTableModel" "card" "[I", Cond.fieldLink RX5 16 "LayeredTableModel" "owner" "[I", Cond.fieldLink RX5 80 "LayeredTableModel" "names" "I", Cond.fieldLink RX5 19 "LayeredTableModel" "name" "[I", Cond.fieldLink RX5 22 "LayeredTableModel" "aim" "[I", Cond.methodLink RX5 93 yX5_triggersOf, Cond.instanceMethod yX5_triggersOf, Cond.selects RX5 yX5_triggersOf yX5_triggersOf, Cond.initialized RX5, Cond.code yX5_triggersOf cX5_triggersOf 7 none, Cond.fieldLink RX5 87 "LayeredTableModel" "turn" "I", Cond.fieldLink RX5 41 "LayeredTableModel" "controller" "[I", Cond.methodLink RX5 83 yX5_lays, Cond.instanceMethod yX5_lays, Cond.selects RX5 yX5_lays yX5_lays, Cond.code yX5_lays cX5_lays 4 none, Cond.fieldLink RX5 44 "LayeredTableModel" "kinds" "[I", Cond.fieldLink RX5 47 "LayeredTableModel" "strength" "[I", Cond.fieldLink RX5 50 "LayeredTableModel" "kindsThen" "[I", Cond.fieldLink RX5 53 "LayeredTableModel" "strengthThen" "[I", Cond.methodLink RX5 76 yX5_layer, Cond.instanceMethod yX5_layer, Cond.selects RX5 yX5_layer yX5_layer]
def wsX5_enters_r2 : List Cond := [Cond.code yX5_layer cX5_layer 7 none, Cond.methodLink RX5 72 yX5_thingOf, Cond.instanceMethod yX5_thingOf, Cond.selects RX5 yX5_thingOf yX5_thingOf, Cond.code yX5_thingOf cX5_thingOf 4 (some .int), Cond.methodLink RX5 90 yX5_triggers, Cond.instanceMethod yX5_triggers, Cond.selects RX5 yX5_triggers yX5_triggers, Cond.code yX5_triggers cX5_triggers 3 none, Cond.fieldLink RX5 69 "LayeredTableModel" "height" "I", Cond.fieldLink RX5 25 "LayeredTableModel" "put" "[I", Cond.fieldLink RX5 28 "LayeredTableModel" "triggered" "[Z", Cond.fieldLink RX5 32 "LayeredTableModel" "whose" "[I", Cond.fieldLink RX5 35 "LayeredTableModel" "mark" "[I", Cond.fieldLink RX5 38 "LayeredTableModel" "target" "[I"]
def wsX5_enters : List Cond := .code yX5_enters cX5_enters 4 none :: ((wsX5_enters_r1 ++ wsX5_enters_r2) ++ wsX50)
def wsX5_leaves_r1 : List Cond := [Cond.fieldLink RX5 66 "LayeredTableModel" "things" "I", Cond.fieldLink RX5 13 "LayeredTableModel" "card" "[I", Cond.fieldLink RX5 16 "LayeredTableModel" "owner" "[I", Cond.fieldLink RX5 19 "LayeredTableModel" "name" "[I", Cond.fieldLink RX5 22 "LayeredTableModel" "aim" "[I", Cond.methodLink RX5 93 yX5_triggersOf, Cond.instanceMethod yX5_triggersOf, Cond.selects RX5 yX5_triggersOf yX5_triggersOf, Cond.initialized RX5, Cond.code yX5_triggersOf cX5_triggersOf 7 none, Cond.fieldLink RX5 87 "LayeredTableModel" "turn" "I", Cond.fieldLink RX5 41 "LayeredTableModel" "controller" "[I", Cond.methodLink RX5 83 yX5_lays, Cond.instanceMethod yX5_lays, Cond.selects RX5 yX5_lays yX5_lays, Cond.code yX5_lays cX5_lays 4 none, Cond.fieldLink RX5 44 "LayeredTableModel" "kinds" "[I", Cond.fieldLink RX5 47 "LayeredTableModel" "strength" "[I", Cond.fieldLink RX5 50 "LayeredTableModel" "kindsThen" "[I", Cond.fieldLink RX5 53 "LayeredTableModel" "strengthThen" "[I", Cond.methodLink RX5 76 yX5_layer, Cond.instanceMethod yX5_layer, Cond.selects RX5 yX5_layer yX5_layer, Cond.code yX5_layer cX5_layer 7 none]
def wsX5_leaves_r2 : List Cond := [Cond.methodLink RX5 72 yX5_thingOf, Cond.instanceMethod yX5_thingOf, Cond.selects RX5 yX5_thingOf yX5_thingOf, Cond.code yX5_thingOf cX5_thingOf 4 (some .int), Cond.methodLink RX5 90 yX5_triggers, Cond.instanceMethod yX5_triggers, Cond.selects RX5 yX5_triggers yX5_triggers, Cond.code yX5_triggers cX5_triggers 3 none, Cond.fieldLink RX5 69 "LayeredTableModel" "height" "I", Cond.fieldLink RX5 25 "LayeredTableModel" "put" "[I", Cond.fieldLink RX5 28 "LayeredTableModel" "triggered" "[Z", Cond.fieldLink RX5 32 "LayeredTableModel" "whose" "[I", Cond.fieldLink RX5 80 "LayeredTableModel" "names" "I", Cond.fieldLink RX5 35 "LayeredTableModel" "mark" "[I", Cond.fieldLink RX5 38 "LayeredTableModel" "target" "[I"]
def wsX5_leaves : List Cond := .code yX5_leaves cX5_leaves 3 none :: ((wsX5_leaves_r1 ++ wsX5_leaves_r2) ++ wsX50)
def wsX5_begins_r1 : List Cond := [Cond.fieldLink RX5 87 "LayeredTableModel" "turn" "I", Cond.fieldLink RX5 97 "LayeredTableModel" "acting" "I", Cond.fieldLink RX5 100 "LayeredTableModel" "rounds" "I", Cond.fieldLink RX5 7 "LayeredTableModel" "coins" "[I", Cond.fieldLink RX5 103 "LayeredTableModel" "known" "I", Cond.fieldLink RX5 66 "LayeredTableModel" "things" "I", Cond.fieldLink RX5 13 "LayeredTableModel" "card" "[I", Cond.fieldLink RX5 41 "LayeredTableModel" "controller" "[I", Cond.methodLink RX5 83 yX5_lays, Cond.instanceMethod yX5_lays, Cond.selects RX5 yX5_lays yX5_lays, Cond.initialized RX5, Cond.code yX5_lays cX5_lays 4 none, Cond.fieldLink RX5 16 "LayeredTableModel" "owner" "[I", Cond.fieldLink RX5 44 "LayeredTableModel" "kinds" "[I", Cond.fieldLink RX5 47 "LayeredTableModel" "strength" "[I", Cond.fieldLink RX5 50 "LayeredTableModel" "kindsThen" "[I", Cond.fieldLink RX5 53 "LayeredTableModel" "strengthThen" "[I", Cond.methodLink RX5 76 yX5_layer, Cond.instanceMethod yX5_layer, Cond.selects RX5 yX5_layer yX5_layer, Cond.code yX5_layer cX5_layer 7 none, Cond.fieldLink RX5 22 "LayeredTableModel" "aim" "[I", Cond.methodLink RX5 72 yX5_thingOf]
def wsX5_begins_r2 : List Cond := [Cond.instanceMethod yX5_thingOf, Cond.selects RX5 yX5_thingOf yX5_thingOf, Cond.code yX5_thingOf cX5_thingOf 4 (some .int), Cond.fieldLink RX5 19 "LayeredTableModel" "name" "[I", Cond.methodLink RX5 90 yX5_triggers, Cond.instanceMethod yX5_triggers, Cond.selects RX5 yX5_triggers yX5_triggers, Cond.code yX5_triggers cX5_triggers 3 none, Cond.fieldLink RX5 69 "LayeredTableModel" "height" "I", Cond.fieldLink RX5 25 "LayeredTableModel" "put" "[I", Cond.fieldLink RX5 28 "LayeredTableModel" "triggered" "[Z", Cond.fieldLink RX5 32 "LayeredTableModel" "whose" "[I", Cond.fieldLink RX5 80 "LayeredTableModel" "names" "I", Cond.fieldLink RX5 35 "LayeredTableModel" "mark" "[I", Cond.fieldLink RX5 38 "LayeredTableModel" "target" "[I"]
def wsX5_begins : List Cond := .code yX5_begins cX5_begins 2 none :: ((wsX5_begins_r1 ++ wsX5_begins_r2) ++ wsX50)
def wsX5_removes : List Cond := .code yX5_removes cX5_removes 3 none :: ([.fieldLink RX5 69 "LayeredTableModel" "height" "I", .fieldLink RX5 25 "LayeredTableModel" "put" "[I", .fieldLink RX5 28 "LayeredTableModel" "triggered" "[Z", .fieldLink RX5 32 "LayeredTableModel" "whose" "[I", .fieldLink RX5 35 "LayeredTableModel" "mark" "[I", .fieldLink RX5 38 "LayeredTableModel" "target" "[I"] ++ wsX50)
def wsX5_firstBeast : List Cond := .code yX5_firstBeast cX5_firstBeast 3 (some .int) :: ([.fieldLink RX5 66 "LayeredTableModel" "things" "I", .fieldLink RX5 13 "LayeredTableModel" "card" "[I"] ++ wsX50)
def wsX5_trigger_r1 : List Cond := [Cond.fieldLink RX5 7 "LayeredTableModel" "coins" "[I", Cond.methodLink RX5 106 yX5_enters, Cond.instanceMethod yX5_enters, Cond.selects RX5 yX5_enters yX5_enters, Cond.initialized RX5, Cond.code yX5_enters cX5_enters 4 none, Cond.fieldLink RX5 66 "LayeredTableModel" "things" "I", Cond.fieldLink RX5 13 "LayeredTableModel" "card" "[I", Cond.fieldLink RX5 16 "LayeredTableModel" "owner" "[I", Cond.fieldLink RX5 80 "LayeredTableModel" "names" "I", Cond.fieldLink RX5 19 "LayeredTableModel" "name" "[I", Cond.fieldLink RX5 22 "LayeredTableModel" "aim" "[I", Cond.methodLink RX5 93 yX5_triggersOf, Cond.instanceMethod yX5_triggersOf, Cond.selects RX5 yX5_triggersOf yX5_triggersOf, Cond.code yX5_triggersOf cX5_triggersOf 7 none, Cond.fieldLink RX5 87 "LayeredTableModel" "turn" "I", Cond.fieldLink RX5 41 "LayeredTableModel" "controller" "[I", Cond.methodLink RX5 83 yX5_lays, Cond.instanceMethod yX5_lays, Cond.selects RX5 yX5_lays yX5_lays, Cond.code yX5_lays cX5_lays 4 none, Cond.fieldLink RX5 44 "LayeredTableModel" "kinds" "[I", Cond.fieldLink RX5 47 "LayeredTableModel" "strength" "[I"]
def wsX5_trigger_r2 : List Cond := [Cond.fieldLink RX5 50 "LayeredTableModel" "kindsThen" "[I", Cond.fieldLink RX5 53 "LayeredTableModel" "strengthThen" "[I", Cond.methodLink RX5 76 yX5_layer, Cond.instanceMethod yX5_layer, Cond.selects RX5 yX5_layer yX5_layer, Cond.code yX5_layer cX5_layer 7 none, Cond.methodLink RX5 72 yX5_thingOf, Cond.instanceMethod yX5_thingOf, Cond.selects RX5 yX5_thingOf yX5_thingOf, Cond.code yX5_thingOf cX5_thingOf 4 (some .int), Cond.methodLink RX5 90 yX5_triggers, Cond.instanceMethod yX5_triggers, Cond.selects RX5 yX5_triggers yX5_triggers, Cond.code yX5_triggers cX5_triggers 3 none, Cond.fieldLink RX5 69 "LayeredTableModel" "height" "I", Cond.fieldLink RX5 25 "LayeredTableModel" "put" "[I", Cond.fieldLink RX5 28 "LayeredTableModel" "triggered" "[Z", Cond.fieldLink RX5 32 "LayeredTableModel" "whose" "[I", Cond.fieldLink RX5 35 "LayeredTableModel" "mark" "[I", Cond.fieldLink RX5 38 "LayeredTableModel" "target" "[I", Cond.methodLink RX5 109 yX5_firstBeast, Cond.instanceMethod yX5_firstBeast, Cond.selects RX5 yX5_firstBeast yX5_firstBeast, Cond.code yX5_firstBeast cX5_firstBeast 3 (some .int)]
def wsX5_trigger_r3 : List Cond := [Cond.methodLink RX5 113 yX5_leaves, Cond.instanceMethod yX5_leaves, Cond.selects RX5 yX5_leaves yX5_leaves, Cond.code yX5_leaves cX5_leaves 3 none]
def wsX5_trigger : List Cond := .code yX5_trigger cX5_trigger 3 none :: ((wsX5_trigger_r1 ++ (wsX5_trigger_r2 ++ wsX5_trigger_r3)) ++ wsX50)
def wsX5_strikes_r1 : List Cond := [Cond.fieldLink RX5 47 "LayeredTableModel" "strength" "[I", Cond.methodLink RX5 72 yX5_thingOf, Cond.instanceMethod yX5_thingOf, Cond.selects RX5 yX5_thingOf yX5_thingOf, Cond.initialized RX5, Cond.code yX5_thingOf cX5_thingOf 4 (some .int), Cond.fieldLink RX5 66 "LayeredTableModel" "things" "I", Cond.fieldLink RX5 19 "LayeredTableModel" "name" "[I", Cond.methodLink RX5 83 yX5_lays, Cond.instanceMethod yX5_lays, Cond.selects RX5 yX5_lays yX5_lays, Cond.code yX5_lays cX5_lays 4 none, Cond.fieldLink RX5 41 "LayeredTableModel" "controller" "[I", Cond.fieldLink RX5 16 "LayeredTableModel" "owner" "[I", Cond.fieldLink RX5 44 "LayeredTableModel" "kinds" "[I", Cond.fieldLink RX5 13 "LayeredTableModel" "card" "[I", Cond.fieldLink RX5 50 "LayeredTableModel" "kindsThen" "[I", Cond.fieldLink RX5 53 "LayeredTableModel" "strengthThen" "[I", Cond.methodLink RX5 76 yX5_layer, Cond.instanceMethod yX5_layer, Cond.selects RX5 yX5_layer yX5_layer, Cond.code yX5_layer cX5_layer 7 none, Cond.fieldLink RX5 22 "LayeredTableModel" "aim" "[I", Cond.methodLink RX5 113 yX5_leaves]
def wsX5_strikes_r2 : List Cond := [Cond.instanceMethod yX5_leaves, Cond.selects RX5 yX5_leaves yX5_leaves, Cond.code yX5_leaves cX5_leaves 3 none, Cond.methodLink RX5 93 yX5_triggersOf, Cond.instanceMethod yX5_triggersOf, Cond.selects RX5 yX5_triggersOf yX5_triggersOf, Cond.code yX5_triggersOf cX5_triggersOf 7 none, Cond.fieldLink RX5 87 "LayeredTableModel" "turn" "I", Cond.methodLink RX5 90 yX5_triggers, Cond.instanceMethod yX5_triggers, Cond.selects RX5 yX5_triggers yX5_triggers, Cond.code yX5_triggers cX5_triggers 3 none, Cond.fieldLink RX5 69 "LayeredTableModel" "height" "I", Cond.fieldLink RX5 25 "LayeredTableModel" "put" "[I", Cond.fieldLink RX5 28 "LayeredTableModel" "triggered" "[Z", Cond.fieldLink RX5 32 "LayeredTableModel" "whose" "[I", Cond.fieldLink RX5 80 "LayeredTableModel" "names" "I", Cond.fieldLink RX5 35 "LayeredTableModel" "mark" "[I", Cond.fieldLink RX5 38 "LayeredTableModel" "target" "[I"]
def wsX5_strikes : List Cond := .code yX5_strikes cX5_strikes 3 none :: ((wsX5_strikes_r1 ++ wsX5_strikes_r2) ++ wsX50)
def wsX5_targetOf : List Cond := .code yX5_targetOf cX5_targetOf 3 (some .int) :: ([.fieldLink RX5 25 "LayeredTableModel" "put" "[I", .fieldLink RX5 28 "LayeredTableModel" "triggered" "[Z", .fieldLink RX5 38 "LayeredTableModel" "target" "[I", .methodLink RX5 72 yX5_thingOf, .instanceMethod yX5_thingOf, .selects RX5 yX5_thingOf yX5_thingOf, .initialized RX5, .code yX5_thingOf cX5_thingOf 4 (some .int), .fieldLink RX5 66 "LayeredTableModel" "things" "I", .fieldLink RX5 19 "LayeredTableModel" "name" "[I", .methodLink RX5 116 yX5_entryOf, .instanceMethod yX5_entryOf, .selects RX5 yX5_entryOf yX5_entryOf, .code yX5_entryOf cX5_entryOf 4 (some .int), .fieldLink RX5 69 "LayeredTableModel" "height" "I", .fieldLink RX5 35 "LayeredTableModel" "mark" "[I"] ++ wsX50)
def wsX5_laysState_r1 : List Cond := [Cond.fieldLink RX5 59 "LayeredTableModel" "state" "[I", Cond.fieldLink RX5 66 "LayeredTableModel" "things" "I", Cond.fieldLink RX5 69 "LayeredTableModel" "height" "I", Cond.fieldLink RX5 13 "LayeredTableModel" "card" "[I", Cond.fieldLink RX5 22 "LayeredTableModel" "aim" "[I", Cond.fieldLink RX5 16 "LayeredTableModel" "owner" "[I", Cond.fieldLink RX5 25 "LayeredTableModel" "put" "[I", Cond.fieldLink RX5 28 "LayeredTableModel" "triggered" "[Z", Cond.fieldLink RX5 32 "LayeredTableModel" "whose" "[I", Cond.methodLink RX5 72 yX5_thingOf, Cond.instanceMethod yX5_thingOf, Cond.selects RX5 yX5_thingOf yX5_thingOf, Cond.initialized RX5, Cond.code yX5_thingOf cX5_thingOf 4 (some .int), Cond.fieldLink RX5 19 "LayeredTableModel" "name" "[I", Cond.methodLink RX5 119 yX5_targetOf, Cond.instanceMethod yX5_targetOf, Cond.selects RX5 yX5_targetOf yX5_targetOf, Cond.code yX5_targetOf cX5_targetOf 3 (some .int), Cond.fieldLink RX5 38 "LayeredTableModel" "target" "[I", Cond.methodLink RX5 116 yX5_entryOf, Cond.instanceMethod yX5_entryOf, Cond.selects RX5 yX5_entryOf yX5_entryOf, Cond.code yX5_entryOf cX5_entryOf 4 (some .int)]
def wsX5_laysState_r2 : List Cond := [Cond.fieldLink RX5 35 "LayeredTableModel" "mark" "[I"]
def wsX5_laysState : List Cond := .code yX5_laysState cX5_laysState 3 none :: ((wsX5_laysState_r1 ++ wsX5_laysState_r2) ++ wsX50)
def wsX5_remembers_r1 : List Cond := [Cond.fieldLink RX5 103 "LayeredTableModel" "known" "I", Cond.fieldLink RX5 56 "LayeredTableModel" "states" "[I", Cond.fieldLink RX5 59 "LayeredTableModel" "state" "[I", Cond.fieldLink RX5 125 "LayeredTableModel" "loops" "I", Cond.fieldLink RX5 69 "LayeredTableModel" "height" "I", Cond.methodLink RX5 122 yX5_laysState, Cond.instanceMethod yX5_laysState, Cond.selects RX5 yX5_laysState yX5_laysState, Cond.initialized RX5, Cond.code yX5_laysState cX5_laysState 3 none, Cond.fieldLink RX5 66 "LayeredTableModel" "things" "I", Cond.fieldLink RX5 13 "LayeredTableModel" "card" "[I", Cond.fieldLink RX5 22 "LayeredTableModel" "aim" "[I", Cond.fieldLink RX5 16 "LayeredTableModel" "owner" "[I", Cond.fieldLink RX5 25 "LayeredTableModel" "put" "[I", Cond.fieldLink RX5 28 "LayeredTableModel" "triggered" "[Z", Cond.fieldLink RX5 32 "LayeredTableModel" "whose" "[I", Cond.methodLink RX5 72 yX5_thingOf, Cond.instanceMethod yX5_thingOf, Cond.selects RX5 yX5_thingOf yX5_thingOf, Cond.code yX5_thingOf cX5_thingOf 4 (some .int), Cond.fieldLink RX5 19 "LayeredTableModel" "name" "[I", Cond.methodLink RX5 119 yX5_targetOf, Cond.instanceMethod yX5_targetOf]
def wsX5_remembers_r2 : List Cond := [Cond.selects RX5 yX5_targetOf yX5_targetOf, Cond.code yX5_targetOf cX5_targetOf 3 (some .int), Cond.fieldLink RX5 38 "LayeredTableModel" "target" "[I", Cond.methodLink RX5 116 yX5_entryOf, Cond.instanceMethod yX5_entryOf, Cond.selects RX5 yX5_entryOf yX5_entryOf, Cond.code yX5_entryOf cX5_entryOf 4 (some .int), Cond.fieldLink RX5 35 "LayeredTableModel" "mark" "[I"]
def wsX5_remembers : List Cond := .code yX5_remembers cX5_remembers 5 none :: ((wsX5_remembers_r1 ++ wsX5_remembers_r2) ++ wsX50)
def wsX5_resolves_r1 : List Cond := [Cond.fieldLink RX5 69 "LayeredTableModel" "height" "I", Cond.fieldLink RX5 25 "LayeredTableModel" "put" "[I", Cond.fieldLink RX5 32 "LayeredTableModel" "whose" "[I", Cond.fieldLink RX5 38 "LayeredTableModel" "target" "[I", Cond.fieldLink RX5 28 "LayeredTableModel" "triggered" "[Z", Cond.fieldLink RX5 87 "LayeredTableModel" "turn" "I", Cond.fieldLink RX5 97 "LayeredTableModel" "acting" "I", Cond.fieldLink RX5 140 "LayeredTableModel" "passes" "I", Cond.methodLink RX5 128 yX5_trigger, Cond.instanceMethod yX5_trigger, Cond.selects RX5 yX5_trigger yX5_trigger, Cond.initialized RX5, Cond.code yX5_trigger cX5_trigger 3 none, Cond.fieldLink RX5 7 "LayeredTableModel" "coins" "[I", Cond.methodLink RX5 106 yX5_enters, Cond.instanceMethod yX5_enters, Cond.selects RX5 yX5_enters yX5_enters, Cond.code yX5_enters cX5_enters 4 none, Cond.fieldLink RX5 66 "LayeredTableModel" "things" "I", Cond.fieldLink RX5 13 "LayeredTableModel" "card" "[I", Cond.fieldLink RX5 16 "LayeredTableModel" "owner" "[I", Cond.fieldLink RX5 80 "LayeredTableModel" "names" "I", Cond.fieldLink RX5 19 "LayeredTableModel" "name" "[I", Cond.fieldLink RX5 22 "LayeredTableModel" "aim" "[I"]
def wsX5_resolves_r2 : List Cond := [Cond.methodLink RX5 93 yX5_triggersOf, Cond.instanceMethod yX5_triggersOf, Cond.selects RX5 yX5_triggersOf yX5_triggersOf, Cond.code yX5_triggersOf cX5_triggersOf 7 none, Cond.fieldLink RX5 41 "LayeredTableModel" "controller" "[I", Cond.methodLink RX5 83 yX5_lays, Cond.instanceMethod yX5_lays, Cond.selects RX5 yX5_lays yX5_lays, Cond.code yX5_lays cX5_lays 4 none, Cond.fieldLink RX5 44 "LayeredTableModel" "kinds" "[I", Cond.fieldLink RX5 47 "LayeredTableModel" "strength" "[I", Cond.fieldLink RX5 50 "LayeredTableModel" "kindsThen" "[I", Cond.fieldLink RX5 53 "LayeredTableModel" "strengthThen" "[I", Cond.methodLink RX5 76 yX5_layer, Cond.instanceMethod yX5_layer, Cond.selects RX5 yX5_layer yX5_layer, Cond.code yX5_layer cX5_layer 7 none, Cond.methodLink RX5 72 yX5_thingOf, Cond.instanceMethod yX5_thingOf, Cond.selects RX5 yX5_thingOf yX5_thingOf, Cond.code yX5_thingOf cX5_thingOf 4 (some .int), Cond.methodLink RX5 90 yX5_triggers, Cond.instanceMethod yX5_triggers, Cond.selects RX5 yX5_triggers yX5_triggers]
def wsX5_resolves_r3 : List Cond := [Cond.code yX5_triggers cX5_triggers 3 none, Cond.fieldLink RX5 35 "LayeredTableModel" "mark" "[I", Cond.methodLink RX5 109 yX5_firstBeast, Cond.instanceMethod yX5_firstBeast, Cond.selects RX5 yX5_firstBeast yX5_firstBeast, Cond.code yX5_firstBeast cX5_firstBeast 3 (some .int), Cond.methodLink RX5 113 yX5_leaves, Cond.instanceMethod yX5_leaves, Cond.selects RX5 yX5_leaves yX5_leaves, Cond.code yX5_leaves cX5_leaves 3 none, Cond.methodLink RX5 131 yX5_strikes, Cond.instanceMethod yX5_strikes, Cond.selects RX5 yX5_strikes yX5_strikes, Cond.code yX5_strikes cX5_strikes 3 none, Cond.methodLink RX5 116 yX5_entryOf, Cond.instanceMethod yX5_entryOf, Cond.selects RX5 yX5_entryOf yX5_entryOf, Cond.code yX5_entryOf cX5_entryOf 4 (some .int), Cond.methodLink RX5 134 yX5_removes, Cond.instanceMethod yX5_removes, Cond.selects RX5 yX5_removes yX5_removes, Cond.code yX5_removes cX5_removes 3 none, Cond.methodLink RX5 137 yX5_remembers, Cond.instanceMethod yX5_remembers]
def wsX5_resolves_r4 : List Cond := [Cond.selects RX5 yX5_remembers yX5_remembers, Cond.code yX5_remembers cX5_remembers 5 none, Cond.fieldLink RX5 103 "LayeredTableModel" "known" "I", Cond.fieldLink RX5 56 "LayeredTableModel" "states" "[I", Cond.fieldLink RX5 59 "LayeredTableModel" "state" "[I", Cond.fieldLink RX5 125 "LayeredTableModel" "loops" "I", Cond.methodLink RX5 122 yX5_laysState, Cond.instanceMethod yX5_laysState, Cond.selects RX5 yX5_laysState yX5_laysState, Cond.code yX5_laysState cX5_laysState 3 none, Cond.methodLink RX5 119 yX5_targetOf, Cond.instanceMethod yX5_targetOf, Cond.selects RX5 yX5_targetOf yX5_targetOf, Cond.code yX5_targetOf cX5_targetOf 3 (some .int)]
def wsX5_resolves : List Cond := .code yX5_resolves cX5_resolves 4 none :: ((wsX5_resolves_r1 ++ (wsX5_resolves_r2 ++ (wsX5_resolves_r3 ++ wsX5_resolves_r4))) ++ wsX50)
def wsX5_obstacleOf : List Cond := .code yX5_obstacleOf cX5_obstacleOf 5 (some .int) :: ([.fieldLink RX5 69 "LayeredTableModel" "height" "I", .fieldLink RX5 97 "LayeredTableModel" "acting" "I", .fieldLink RX5 87 "LayeredTableModel" "turn" "I", .fieldLink RX5 7 "LayeredTableModel" "coins" "[I", .fieldLink RX5 66 "LayeredTableModel" "things" "I", .fieldLink RX5 28 "LayeredTableModel" "triggered" "[Z", .methodLink RX5 143 yX5_cost, .static yX5_cost, .initialized RX5, .code yX5_cost cX5_cost 1 (some .int), .methodLink RX5 146 yX5_isIn, .static yX5_isIn, .code yX5_isIn cX5_isIn 3 (some .boolean)] ++ wsX50)
def wsX5_play_r1 : List Cond := [Cond.fieldLink RX5 62 "LayeredTableModel" "thrown" "I", Cond.fieldLink RX5 7 "LayeredTableModel" "coins" "[I", Cond.fieldLink RX5 97 "LayeredTableModel" "acting" "I", Cond.fieldLink RX5 25 "LayeredTableModel" "put" "[I", Cond.fieldLink RX5 69 "LayeredTableModel" "height" "I", Cond.fieldLink RX5 28 "LayeredTableModel" "triggered" "[Z", Cond.fieldLink RX5 32 "LayeredTableModel" "whose" "[I", Cond.fieldLink RX5 80 "LayeredTableModel" "names" "I", Cond.fieldLink RX5 35 "LayeredTableModel" "mark" "[I", Cond.fieldLink RX5 38 "LayeredTableModel" "target" "[I", Cond.fieldLink RX5 19 "LayeredTableModel" "name" "[I", Cond.fieldLink RX5 140 "LayeredTableModel" "passes" "I", Cond.fieldLink RX5 103 "LayeredTableModel" "known" "I", Cond.methodLink RX5 146 yX5_isIn, Cond.static yX5_isIn, Cond.initialized RX5, Cond.code yX5_isIn cX5_isIn 3 (some .boolean), Cond.methodLink RX5 150 yX5_obstacleOf, Cond.instanceMethod yX5_obstacleOf, Cond.selects RX5 yX5_obstacleOf yX5_obstacleOf, Cond.code yX5_obstacleOf cX5_obstacleOf 5 (some .int), Cond.fieldLink RX5 87 "LayeredTableModel" "turn" "I", Cond.fieldLink RX5 66 "LayeredTableModel" "things" "I", Cond.methodLink RX5 143 yX5_cost]
def wsX5_play_r2 : List Cond := [Cond.static yX5_cost, Cond.code yX5_cost cX5_cost 1 (some .int)]
def wsX5_play : List Cond := .code yX5_play cX5_play 3 (some .int) :: ((wsX5_play_r1 ++ wsX5_play_r2) ++ wsX50)
def wsX5_obstacle : List Cond := .code yX5_obstacle cX5_obstacle 3 (some .int) :: ([.fieldLink RX5 62 "LayeredTableModel" "thrown" "I", .methodLink RX5 146 yX5_isIn, .static yX5_isIn, .initialized RX5, .code yX5_isIn cX5_isIn 3 (some .boolean), .methodLink RX5 150 yX5_obstacleOf, .instanceMethod yX5_obstacleOf, .selects RX5 yX5_obstacleOf yX5_obstacleOf, .code yX5_obstacleOf cX5_obstacleOf 5 (some .int), .fieldLink RX5 69 "LayeredTableModel" "height" "I", .fieldLink RX5 97 "LayeredTableModel" "acting" "I", .fieldLink RX5 87 "LayeredTableModel" "turn" "I", .fieldLink RX5 7 "LayeredTableModel" "coins" "[I", .fieldLink RX5 66 "LayeredTableModel" "things" "I", .fieldLink RX5 28 "LayeredTableModel" "triggered" "[Z", .methodLink RX5 143 yX5_cost, .static yX5_cost, .code yX5_cost cX5_cost 1 (some .int)] ++ wsX50)
def wsX5_pass_r1 : List Cond := [Cond.fieldLink RX5 62 "LayeredTableModel" "thrown" "I", Cond.fieldLink RX5 140 "LayeredTableModel" "passes" "I", Cond.fieldLink RX5 97 "LayeredTableModel" "acting" "I", Cond.fieldLink RX5 69 "LayeredTableModel" "height" "I", Cond.methodLink RX5 154 yX5_resolves, Cond.instanceMethod yX5_resolves, Cond.selects RX5 yX5_resolves yX5_resolves, Cond.initialized RX5, Cond.code yX5_resolves cX5_resolves 4 none, Cond.fieldLink RX5 25 "LayeredTableModel" "put" "[I", Cond.fieldLink RX5 32 "LayeredTableModel" "whose" "[I", Cond.fieldLink RX5 38 "LayeredTableModel" "target" "[I", Cond.fieldLink RX5 28 "LayeredTableModel" "triggered" "[Z", Cond.fieldLink RX5 87 "LayeredTableModel" "turn" "I", Cond.methodLink RX5 128 yX5_trigger, Cond.instanceMethod yX5_trigger, Cond.selects RX5 yX5_trigger yX5_trigger, Cond.code yX5_trigger cX5_trigger 3 none, Cond.fieldLink RX5 7 "LayeredTableModel" "coins" "[I", Cond.methodLink RX5 106 yX5_enters, Cond.instanceMethod yX5_enters, Cond.selects RX5 yX5_enters yX5_enters, Cond.code yX5_enters cX5_enters 4 none, Cond.fieldLink RX5 66 "LayeredTableModel" "things" "I"]
def wsX5_pass_r2 : List Cond := [Cond.fieldLink RX5 13 "LayeredTableModel" "card" "[I", Cond.fieldLink RX5 16 "LayeredTableModel" "owner" "[I", Cond.fieldLink RX5 80 "LayeredTableModel" "names" "I", Cond.fieldLink RX5 19 "LayeredTableModel" "name" "[I", Cond.fieldLink RX5 22 "LayeredTableModel" "aim" "[I", Cond.methodLink RX5 93 yX5_triggersOf, Cond.instanceMethod yX5_triggersOf, Cond.selects RX5 yX5_triggersOf yX5_triggersOf, Cond.code yX5_triggersOf cX5_triggersOf 7 none, Cond.fieldLink RX5 41 "LayeredTableModel" "controller" "[I", Cond.methodLink RX5 83 yX5_lays, Cond.instanceMethod yX5_lays, Cond.selects RX5 yX5_lays yX5_lays, Cond.code yX5_lays cX5_lays 4 none, Cond.fieldLink RX5 44 "LayeredTableModel" "kinds" "[I", Cond.fieldLink RX5 47 "LayeredTableModel" "strength" "[I", Cond.fieldLink RX5 50 "LayeredTableModel" "kindsThen" "[I", Cond.fieldLink RX5 53 "LayeredTableModel" "strengthThen" "[I", Cond.methodLink RX5 76 yX5_layer, Cond.instanceMethod yX5_layer, Cond.selects RX5 yX5_layer yX5_layer, Cond.code yX5_layer cX5_layer 7 none, Cond.methodLink RX5 72 yX5_thingOf, Cond.instanceMethod yX5_thingOf]
def wsX5_pass_r3 : List Cond := [Cond.selects RX5 yX5_thingOf yX5_thingOf, Cond.code yX5_thingOf cX5_thingOf 4 (some .int), Cond.methodLink RX5 90 yX5_triggers, Cond.instanceMethod yX5_triggers, Cond.selects RX5 yX5_triggers yX5_triggers, Cond.code yX5_triggers cX5_triggers 3 none, Cond.fieldLink RX5 35 "LayeredTableModel" "mark" "[I", Cond.methodLink RX5 109 yX5_firstBeast, Cond.instanceMethod yX5_firstBeast, Cond.selects RX5 yX5_firstBeast yX5_firstBeast, Cond.code yX5_firstBeast cX5_firstBeast 3 (some .int), Cond.methodLink RX5 113 yX5_leaves, Cond.instanceMethod yX5_leaves, Cond.selects RX5 yX5_leaves yX5_leaves, Cond.code yX5_leaves cX5_leaves 3 none, Cond.methodLink RX5 131 yX5_strikes, Cond.instanceMethod yX5_strikes, Cond.selects RX5 yX5_strikes yX5_strikes, Cond.code yX5_strikes cX5_strikes 3 none, Cond.methodLink RX5 116 yX5_entryOf, Cond.instanceMethod yX5_entryOf, Cond.selects RX5 yX5_entryOf yX5_entryOf, Cond.code yX5_entryOf cX5_entryOf 4 (some .int), Cond.methodLink RX5 134 yX5_removes]
def wsX5_pass_r4 : List Cond := [Cond.instanceMethod yX5_removes, Cond.selects RX5 yX5_removes yX5_removes, Cond.code yX5_removes cX5_removes 3 none, Cond.methodLink RX5 137 yX5_remembers, Cond.instanceMethod yX5_remembers, Cond.selects RX5 yX5_remembers yX5_remembers, Cond.code yX5_remembers cX5_remembers 5 none, Cond.fieldLink RX5 103 "LayeredTableModel" "known" "I", Cond.fieldLink RX5 56 "LayeredTableModel" "states" "[I", Cond.fieldLink RX5 59 "LayeredTableModel" "state" "[I", Cond.fieldLink RX5 125 "LayeredTableModel" "loops" "I", Cond.methodLink RX5 122 yX5_laysState, Cond.instanceMethod yX5_laysState, Cond.selects RX5 yX5_laysState yX5_laysState, Cond.code yX5_laysState cX5_laysState 3 none, Cond.methodLink RX5 119 yX5_targetOf, Cond.instanceMethod yX5_targetOf, Cond.selects RX5 yX5_targetOf yX5_targetOf, Cond.code yX5_targetOf cX5_targetOf 3 (some .int), Cond.methodLink RX5 157 yX5_begins, Cond.instanceMethod yX5_begins, Cond.selects RX5 yX5_begins yX5_begins, Cond.code yX5_begins cX5_begins 2 none, Cond.fieldLink RX5 100 "LayeredTableModel" "rounds" "I"]
def wsX5_pass : List Cond := .code yX5_pass cX5_pass 1 (some .int) :: ((wsX5_pass_r1 ++ (wsX5_pass_r2 ++ (wsX5_pass_r3 ++ wsX5_pass_r4))) ++ wsX50)
def wsX5_settle_r1 : List Cond := [Cond.fieldLink RX5 62 "LayeredTableModel" "thrown" "I", Cond.fieldLink RX5 69 "LayeredTableModel" "height" "I", Cond.methodLink RX5 146 yX5_isIn, Cond.static yX5_isIn, Cond.initialized RX5, Cond.code yX5_isIn cX5_isIn 3 (some .boolean), Cond.methodLink RX5 154 yX5_resolves, Cond.instanceMethod yX5_resolves, Cond.selects RX5 yX5_resolves yX5_resolves, Cond.code yX5_resolves cX5_resolves 4 none, Cond.fieldLink RX5 25 "LayeredTableModel" "put" "[I", Cond.fieldLink RX5 32 "LayeredTableModel" "whose" "[I", Cond.fieldLink RX5 38 "LayeredTableModel" "target" "[I", Cond.fieldLink RX5 28 "LayeredTableModel" "triggered" "[Z", Cond.fieldLink RX5 87 "LayeredTableModel" "turn" "I", Cond.fieldLink RX5 97 "LayeredTableModel" "acting" "I", Cond.fieldLink RX5 140 "LayeredTableModel" "passes" "I", Cond.methodLink RX5 128 yX5_trigger, Cond.instanceMethod yX5_trigger, Cond.selects RX5 yX5_trigger yX5_trigger, Cond.code yX5_trigger cX5_trigger 3 none, Cond.fieldLink RX5 7 "LayeredTableModel" "coins" "[I", Cond.methodLink RX5 106 yX5_enters, Cond.instanceMethod yX5_enters]
def wsX5_settle_r2 : List Cond := [Cond.selects RX5 yX5_enters yX5_enters, Cond.code yX5_enters cX5_enters 4 none, Cond.fieldLink RX5 66 "LayeredTableModel" "things" "I", Cond.fieldLink RX5 13 "LayeredTableModel" "card" "[I", Cond.fieldLink RX5 16 "LayeredTableModel" "owner" "[I", Cond.fieldLink RX5 80 "LayeredTableModel" "names" "I", Cond.fieldLink RX5 19 "LayeredTableModel" "name" "[I", Cond.fieldLink RX5 22 "LayeredTableModel" "aim" "[I", Cond.methodLink RX5 93 yX5_triggersOf, Cond.instanceMethod yX5_triggersOf, Cond.selects RX5 yX5_triggersOf yX5_triggersOf, Cond.code yX5_triggersOf cX5_triggersOf 7 none, Cond.fieldLink RX5 41 "LayeredTableModel" "controller" "[I", Cond.methodLink RX5 83 yX5_lays, Cond.instanceMethod yX5_lays, Cond.selects RX5 yX5_lays yX5_lays, Cond.code yX5_lays cX5_lays 4 none, Cond.fieldLink RX5 44 "LayeredTableModel" "kinds" "[I", Cond.fieldLink RX5 47 "LayeredTableModel" "strength" "[I", Cond.fieldLink RX5 50 "LayeredTableModel" "kindsThen" "[I", Cond.fieldLink RX5 53 "LayeredTableModel" "strengthThen" "[I", Cond.methodLink RX5 76 yX5_layer, Cond.instanceMethod yX5_layer, Cond.selects RX5 yX5_layer yX5_layer]
def wsX5_settle_r3 : List Cond := [Cond.code yX5_layer cX5_layer 7 none, Cond.methodLink RX5 72 yX5_thingOf, Cond.instanceMethod yX5_thingOf, Cond.selects RX5 yX5_thingOf yX5_thingOf, Cond.code yX5_thingOf cX5_thingOf 4 (some .int), Cond.methodLink RX5 90 yX5_triggers, Cond.instanceMethod yX5_triggers, Cond.selects RX5 yX5_triggers yX5_triggers, Cond.code yX5_triggers cX5_triggers 3 none, Cond.fieldLink RX5 35 "LayeredTableModel" "mark" "[I", Cond.methodLink RX5 109 yX5_firstBeast, Cond.instanceMethod yX5_firstBeast, Cond.selects RX5 yX5_firstBeast yX5_firstBeast, Cond.code yX5_firstBeast cX5_firstBeast 3 (some .int), Cond.methodLink RX5 113 yX5_leaves, Cond.instanceMethod yX5_leaves, Cond.selects RX5 yX5_leaves yX5_leaves, Cond.code yX5_leaves cX5_leaves 3 none, Cond.methodLink RX5 131 yX5_strikes, Cond.instanceMethod yX5_strikes, Cond.selects RX5 yX5_strikes yX5_strikes, Cond.code yX5_strikes cX5_strikes 3 none, Cond.methodLink RX5 116 yX5_entryOf, Cond.instanceMethod yX5_entryOf]
def wsX5_settle_r4 : List Cond := [Cond.selects RX5 yX5_entryOf yX5_entryOf, Cond.code yX5_entryOf cX5_entryOf 4 (some .int), Cond.methodLink RX5 134 yX5_removes, Cond.instanceMethod yX5_removes, Cond.selects RX5 yX5_removes yX5_removes, Cond.code yX5_removes cX5_removes 3 none, Cond.methodLink RX5 137 yX5_remembers, Cond.instanceMethod yX5_remembers, Cond.selects RX5 yX5_remembers yX5_remembers, Cond.code yX5_remembers cX5_remembers 5 none, Cond.fieldLink RX5 103 "LayeredTableModel" "known" "I", Cond.fieldLink RX5 56 "LayeredTableModel" "states" "[I", Cond.fieldLink RX5 59 "LayeredTableModel" "state" "[I", Cond.fieldLink RX5 125 "LayeredTableModel" "loops" "I", Cond.methodLink RX5 122 yX5_laysState, Cond.instanceMethod yX5_laysState, Cond.selects RX5 yX5_laysState yX5_laysState, Cond.code yX5_laysState cX5_laysState 3 none, Cond.methodLink RX5 119 yX5_targetOf, Cond.instanceMethod yX5_targetOf, Cond.selects RX5 yX5_targetOf yX5_targetOf, Cond.code yX5_targetOf cX5_targetOf 3 (some .int)]
def wsX5_settle : List Cond := .code yX5_settle cX5_settle 3 (some .int) :: ((wsX5_settle_r1 ++ (wsX5_settle_r2 ++ (wsX5_settle_r3 ++ wsX5_settle_r4))) ++ wsX50)
def wsX5_turn : List Cond := .code yX5_turn cX5_turn 1 (some .int) :: ([.fieldLink RX5 62 "LayeredTableModel" "thrown" "I", .fieldLink RX5 87 "LayeredTableModel" "turn" "I"] ++ wsX50)
def wsX5_acting : List Cond := .code yX5_acting cX5_acting 1 (some .int) :: ([.fieldLink RX5 62 "LayeredTableModel" "thrown" "I", .fieldLink RX5 97 "LayeredTableModel" "acting" "I"] ++ wsX50)
def wsX5_rounds : List Cond := .code yX5_rounds cX5_rounds 1 (some .int) :: ([.fieldLink RX5 62 "LayeredTableModel" "thrown" "I", .fieldLink RX5 100 "LayeredTableModel" "rounds" "I"] ++ wsX50)
def wsX5_loops : List Cond := .code yX5_loops cX5_loops 1 (some .int) :: ([.fieldLink RX5 62 "LayeredTableModel" "thrown" "I", .fieldLink RX5 125 "LayeredTableModel" "loops" "I"] ++ wsX50)
def wsX5_coins : List Cond := .code yX5_coins cX5_coins 2 (some .int) :: ([.fieldLink RX5 62 "LayeredTableModel" "thrown" "I", .fieldLink RX5 7 "LayeredTableModel" "coins" "[I", .methodLink RX5 146 yX5_isIn, .static yX5_isIn, .initialized RX5, .code yX5_isIn cX5_isIn 3 (some .boolean)] ++ wsX50)
def wsX5_things : List Cond := .code yX5_things cX5_things 1 (some .int) :: ([.fieldLink RX5 62 "LayeredTableModel" "thrown" "I", .fieldLink RX5 66 "LayeredTableModel" "things" "I"] ++ wsX50)
def wsX5_cardOf : List Cond := .code yX5_cardOf cX5_cardOf 2 (some .int) :: ([.fieldLink RX5 66 "LayeredTableModel" "things" "I", .fieldLink RX5 62 "LayeredTableModel" "thrown" "I", .fieldLink RX5 13 "LayeredTableModel" "card" "[I", .methodLink RX5 146 yX5_isIn, .static yX5_isIn, .initialized RX5, .code yX5_isIn cX5_isIn 3 (some .boolean)] ++ wsX50)
def wsX5_isLaid_r1 : List Cond := [Cond.fieldLink RX5 66 "LayeredTableModel" "things" "I", Cond.fieldLink RX5 62 "LayeredTableModel" "thrown" "I", Cond.methodLink RX5 146 yX5_isIn, Cond.static yX5_isIn, Cond.initialized RX5, Cond.code yX5_isIn cX5_isIn 3 (some .boolean), Cond.methodLink RX5 83 yX5_lays, Cond.instanceMethod yX5_lays, Cond.selects RX5 yX5_lays yX5_lays, Cond.code yX5_lays cX5_lays 4 none, Cond.fieldLink RX5 41 "LayeredTableModel" "controller" "[I", Cond.fieldLink RX5 16 "LayeredTableModel" "owner" "[I", Cond.fieldLink RX5 44 "LayeredTableModel" "kinds" "[I", Cond.fieldLink RX5 13 "LayeredTableModel" "card" "[I", Cond.fieldLink RX5 47 "LayeredTableModel" "strength" "[I", Cond.fieldLink RX5 50 "LayeredTableModel" "kindsThen" "[I", Cond.fieldLink RX5 53 "LayeredTableModel" "strengthThen" "[I", Cond.methodLink RX5 76 yX5_layer, Cond.instanceMethod yX5_layer, Cond.selects RX5 yX5_layer yX5_layer, Cond.code yX5_layer cX5_layer 7 none, Cond.fieldLink RX5 22 "LayeredTableModel" "aim" "[I", Cond.methodLink RX5 72 yX5_thingOf, Cond.instanceMethod yX5_thingOf]
def wsX5_isLaid_r2 : List Cond := [Cond.selects RX5 yX5_thingOf yX5_thingOf, Cond.code yX5_thingOf cX5_thingOf 4 (some .int), Cond.fieldLink RX5 19 "LayeredTableModel" "name" "[I"]
def wsX5_isLaid : List Cond := .code yX5_isLaid cX5_isLaid 3 (some .boolean) :: ((wsX5_isLaid_r1 ++ wsX5_isLaid_r2) ++ wsX50)
def wsX5_controllerOf_r1 : List Cond := [Cond.fieldLink RX5 41 "LayeredTableModel" "controller" "[I", Cond.methodLink RX5 160 yX5_isLaid, Cond.instanceMethod yX5_isLaid, Cond.selects RX5 yX5_isLaid yX5_isLaid, Cond.initialized RX5, Cond.code yX5_isLaid cX5_isLaid 3 (some .boolean), Cond.fieldLink RX5 66 "LayeredTableModel" "things" "I", Cond.fieldLink RX5 62 "LayeredTableModel" "thrown" "I", Cond.methodLink RX5 146 yX5_isIn, Cond.static yX5_isIn, Cond.code yX5_isIn cX5_isIn 3 (some .boolean), Cond.methodLink RX5 83 yX5_lays, Cond.instanceMethod yX5_lays, Cond.selects RX5 yX5_lays yX5_lays, Cond.code yX5_lays cX5_lays 4 none, Cond.fieldLink RX5 16 "LayeredTableModel" "owner" "[I", Cond.fieldLink RX5 44 "LayeredTableModel" "kinds" "[I", Cond.fieldLink RX5 13 "LayeredTableModel" "card" "[I", Cond.fieldLink RX5 47 "LayeredTableModel" "strength" "[I", Cond.fieldLink RX5 50 "LayeredTableModel" "kindsThen" "[I", Cond.fieldLink RX5 53 "LayeredTableModel" "strengthThen" "[I", Cond.methodLink RX5 76 yX5_layer, Cond.instanceMethod yX5_layer, Cond.selects RX5 yX5_layer yX5_layer]
def wsX5_controllerOf_r2 : List Cond := [Cond.code yX5_layer cX5_layer 7 none, Cond.fieldLink RX5 22 "LayeredTableModel" "aim" "[I", Cond.methodLink RX5 72 yX5_thingOf, Cond.instanceMethod yX5_thingOf, Cond.selects RX5 yX5_thingOf yX5_thingOf, Cond.code yX5_thingOf cX5_thingOf 4 (some .int), Cond.fieldLink RX5 19 "LayeredTableModel" "name" "[I"]
def wsX5_controllerOf : List Cond := .code yX5_controllerOf cX5_controllerOf 3 (some .int) :: ((wsX5_controllerOf_r1 ++ wsX5_controllerOf_r2) ++ wsX50)
def wsX5_kindsOf_r1 : List Cond := [Cond.fieldLink RX5 44 "LayeredTableModel" "kinds" "[I", Cond.methodLink RX5 160 yX5_isLaid, Cond.instanceMethod yX5_isLaid, Cond.selects RX5 yX5_isLaid yX5_isLaid, Cond.initialized RX5, Cond.code yX5_isLaid cX5_isLaid 3 (some .boolean), Cond.fieldLink RX5 66 "LayeredTableModel" "things" "I", Cond.fieldLink RX5 62 "LayeredTableModel" "thrown" "I", Cond.methodLink RX5 146 yX5_isIn, Cond.static yX5_isIn, Cond.code yX5_isIn cX5_isIn 3 (some .boolean), Cond.methodLink RX5 83 yX5_lays, Cond.instanceMethod yX5_lays, Cond.selects RX5 yX5_lays yX5_lays, Cond.code yX5_lays cX5_lays 4 none, Cond.fieldLink RX5 41 "LayeredTableModel" "controller" "[I", Cond.fieldLink RX5 16 "LayeredTableModel" "owner" "[I", Cond.fieldLink RX5 13 "LayeredTableModel" "card" "[I", Cond.fieldLink RX5 47 "LayeredTableModel" "strength" "[I", Cond.fieldLink RX5 50 "LayeredTableModel" "kindsThen" "[I", Cond.fieldLink RX5 53 "LayeredTableModel" "strengthThen" "[I", Cond.methodLink RX5 76 yX5_layer, Cond.instanceMethod yX5_layer, Cond.selects RX5 yX5_layer yX5_layer]
def wsX5_kindsOf_r2 : List Cond := [Cond.code yX5_layer cX5_layer 7 none, Cond.fieldLink RX5 22 "LayeredTableModel" "aim" "[I", Cond.methodLink RX5 72 yX5_thingOf, Cond.instanceMethod yX5_thingOf, Cond.selects RX5 yX5_thingOf yX5_thingOf, Cond.code yX5_thingOf cX5_thingOf 4 (some .int), Cond.fieldLink RX5 19 "LayeredTableModel" "name" "[I"]
def wsX5_kindsOf : List Cond := .code yX5_kindsOf cX5_kindsOf 3 (some .int) :: ((wsX5_kindsOf_r1 ++ wsX5_kindsOf_r2) ++ wsX50)
def wsX5_strengthOf_r1 : List Cond := [Cond.fieldLink RX5 47 "LayeredTableModel" "strength" "[I", Cond.methodLink RX5 160 yX5_isLaid, Cond.instanceMethod yX5_isLaid, Cond.selects RX5 yX5_isLaid yX5_isLaid, Cond.initialized RX5, Cond.code yX5_isLaid cX5_isLaid 3 (some .boolean), Cond.fieldLink RX5 66 "LayeredTableModel" "things" "I", Cond.fieldLink RX5 62 "LayeredTableModel" "thrown" "I", Cond.methodLink RX5 146 yX5_isIn, Cond.static yX5_isIn, Cond.code yX5_isIn cX5_isIn 3 (some .boolean), Cond.methodLink RX5 83 yX5_lays, Cond.instanceMethod yX5_lays, Cond.selects RX5 yX5_lays yX5_lays, Cond.code yX5_lays cX5_lays 4 none, Cond.fieldLink RX5 41 "LayeredTableModel" "controller" "[I", Cond.fieldLink RX5 16 "LayeredTableModel" "owner" "[I", Cond.fieldLink RX5 44 "LayeredTableModel" "kinds" "[I", Cond.fieldLink RX5 13 "LayeredTableModel" "card" "[I", Cond.fieldLink RX5 50 "LayeredTableModel" "kindsThen" "[I", Cond.fieldLink RX5 53 "LayeredTableModel" "strengthThen" "[I", Cond.methodLink RX5 76 yX5_layer, Cond.instanceMethod yX5_layer, Cond.selects RX5 yX5_layer yX5_layer]
def wsX5_strengthOf_r2 : List Cond := [Cond.code yX5_layer cX5_layer 7 none, Cond.fieldLink RX5 22 "LayeredTableModel" "aim" "[I", Cond.methodLink RX5 72 yX5_thingOf, Cond.instanceMethod yX5_thingOf, Cond.selects RX5 yX5_thingOf yX5_thingOf, Cond.code yX5_thingOf cX5_thingOf 4 (some .int), Cond.fieldLink RX5 19 "LayeredTableModel" "name" "[I"]
def wsX5_strengthOf : List Cond := .code yX5_strengthOf cX5_strengthOf 3 (some .int) :: ((wsX5_strengthOf_r1 ++ wsX5_strengthOf_r2) ++ wsX50)
def wsX5_power_r1 : List Cond := [Cond.fieldLink RX5 62 "LayeredTableModel" "thrown" "I", Cond.fieldLink RX5 66 "LayeredTableModel" "things" "I", Cond.fieldLink RX5 41 "LayeredTableModel" "controller" "[I", Cond.fieldLink RX5 44 "LayeredTableModel" "kinds" "[I", Cond.fieldLink RX5 47 "LayeredTableModel" "strength" "[I", Cond.methodLink RX5 146 yX5_isIn, Cond.static yX5_isIn, Cond.initialized RX5, Cond.code yX5_isIn cX5_isIn 3 (some .boolean), Cond.methodLink RX5 83 yX5_lays, Cond.instanceMethod yX5_lays, Cond.selects RX5 yX5_lays yX5_lays, Cond.code yX5_lays cX5_lays 4 none, Cond.fieldLink RX5 16 "LayeredTableModel" "owner" "[I", Cond.fieldLink RX5 13 "LayeredTableModel" "card" "[I", Cond.fieldLink RX5 50 "LayeredTableModel" "kindsThen" "[I", Cond.fieldLink RX5 53 "LayeredTableModel" "strengthThen" "[I", Cond.methodLink RX5 76 yX5_layer, Cond.instanceMethod yX5_layer, Cond.selects RX5 yX5_layer yX5_layer, Cond.code yX5_layer cX5_layer 7 none, Cond.fieldLink RX5 22 "LayeredTableModel" "aim" "[I", Cond.methodLink RX5 72 yX5_thingOf, Cond.instanceMethod yX5_thingOf]
def wsX5_power_r2 : List Cond := [Cond.selects RX5 yX5_thingOf yX5_thingOf, Cond.code yX5_thingOf cX5_thingOf 4 (some .int), Cond.fieldLink RX5 19 "LayeredTableModel" "name" "[I"]
def wsX5_power : List Cond := .code yX5_power cX5_power 4 (some .int) :: ((wsX5_power_r1 ++ wsX5_power_r2) ++ wsX50)
def wsX5_stack : List Cond := .code yX5_stack cX5_stack 1 (some .int) :: ([.fieldLink RX5 62 "LayeredTableModel" "thrown" "I", .fieldLink RX5 69 "LayeredTableModel" "height" "I"] ++ wsX50)
def wsX5_isEntry : List Cond := .code yX5_isEntry cX5_isEntry 2 (some .boolean) :: ([.fieldLink RX5 69 "LayeredTableModel" "height" "I", .fieldLink RX5 62 "LayeredTableModel" "thrown" "I", .methodLink RX5 146 yX5_isIn, .static yX5_isIn, .initialized RX5, .code yX5_isIn cX5_isIn 3 (some .boolean)] ++ wsX50)
def wsX5_entryCard : List Cond := .code yX5_entryCard cX5_entryCard 2 (some .int) :: ([.fieldLink RX5 25 "LayeredTableModel" "put" "[I", .fieldLink RX5 69 "LayeredTableModel" "height" "I", .methodLink RX5 164 yX5_isEntry, .instanceMethod yX5_isEntry, .selects RX5 yX5_isEntry yX5_isEntry, .initialized RX5, .code yX5_isEntry cX5_isEntry 2 (some .boolean), .fieldLink RX5 62 "LayeredTableModel" "thrown" "I", .methodLink RX5 146 yX5_isIn, .static yX5_isIn, .code yX5_isIn cX5_isIn 3 (some .boolean)] ++ wsX50)
def wsX5_isTrigger : List Cond := .code yX5_isTrigger cX5_isTrigger 2 (some .boolean) :: ([.fieldLink RX5 28 "LayeredTableModel" "triggered" "[Z", .fieldLink RX5 69 "LayeredTableModel" "height" "I", .methodLink RX5 164 yX5_isEntry, .instanceMethod yX5_isEntry, .selects RX5 yX5_isEntry yX5_isEntry, .initialized RX5, .code yX5_isEntry cX5_isEntry 2 (some .boolean), .fieldLink RX5 62 "LayeredTableModel" "thrown" "I", .methodLink RX5 146 yX5_isIn, .static yX5_isIn, .code yX5_isIn cX5_isIn 3 (some .boolean)] ++ wsX50)
def wsX5_entryPlayer : List Cond := .code yX5_entryPlayer cX5_entryPlayer 2 (some .int) :: ([.fieldLink RX5 32 "LayeredTableModel" "whose" "[I", .fieldLink RX5 69 "LayeredTableModel" "height" "I", .methodLink RX5 164 yX5_isEntry, .instanceMethod yX5_isEntry, .selects RX5 yX5_isEntry yX5_isEntry, .initialized RX5, .code yX5_isEntry cX5_isEntry 2 (some .boolean), .fieldLink RX5 62 "LayeredTableModel" "thrown" "I", .methodLink RX5 146 yX5_isIn, .static yX5_isIn, .code yX5_isIn cX5_isIn 3 (some .boolean)] ++ wsX50)
def wsX5_entryTarget_r1 : List Cond := [Cond.fieldLink RX5 69 "LayeredTableModel" "height" "I", Cond.methodLink RX5 164 yX5_isEntry, Cond.instanceMethod yX5_isEntry, Cond.selects RX5 yX5_isEntry yX5_isEntry, Cond.initialized RX5, Cond.code yX5_isEntry cX5_isEntry 2 (some .boolean), Cond.fieldLink RX5 62 "LayeredTableModel" "thrown" "I", Cond.methodLink RX5 146 yX5_isIn, Cond.static yX5_isIn, Cond.code yX5_isIn cX5_isIn 3 (some .boolean), Cond.methodLink RX5 119 yX5_targetOf, Cond.instanceMethod yX5_targetOf, Cond.selects RX5 yX5_targetOf yX5_targetOf, Cond.code yX5_targetOf cX5_targetOf 3 (some .int), Cond.fieldLink RX5 25 "LayeredTableModel" "put" "[I", Cond.fieldLink RX5 28 "LayeredTableModel" "triggered" "[Z", Cond.fieldLink RX5 38 "LayeredTableModel" "target" "[I", Cond.methodLink RX5 72 yX5_thingOf, Cond.instanceMethod yX5_thingOf, Cond.selects RX5 yX5_thingOf yX5_thingOf, Cond.code yX5_thingOf cX5_thingOf 4 (some .int), Cond.fieldLink RX5 66 "LayeredTableModel" "things" "I", Cond.fieldLink RX5 19 "LayeredTableModel" "name" "[I", Cond.methodLink RX5 116 yX5_entryOf]
def wsX5_entryTarget_r2 : List Cond := [Cond.instanceMethod yX5_entryOf, Cond.selects RX5 yX5_entryOf yX5_entryOf, Cond.code yX5_entryOf cX5_entryOf 4 (some .int), Cond.fieldLink RX5 35 "LayeredTableModel" "mark" "[I"]
def wsX5_entryTarget : List Cond := .code yX5_entryTarget cX5_entryTarget 2 (some .int) :: ((wsX5_entryTarget_r1 ++ wsX5_entryTarget_r2) ++ wsX50)
def wsL_play_r1 : List Cond := [Cond.classLink RL 13 "java/lang/IndexOutOfBoundsException", Cond.classLink RL 15 "java/lang/IllegalStateException", Cond.methodLink RL 7 yX4_play, Cond.instanceMethod yX4_play, Cond.selects RX4 yX4_play yX4_play, Cond.initialized RX4, Cond.code yX4_play cX4_play 3 (some .int), Cond.classLink RX4 41 "java/lang/IndexOutOfBoundsException", Cond.initialized "java/lang/IndexOutOfBoundsException", Cond.classLink RX4 52 "java/lang/IllegalStateException", Cond.initialized "java/lang/IllegalStateException", Cond.fieldLink RX4 57 "LayeredTable" "actingPlayer" "I", Cond.fieldLink RX4 23 "LayeredTable" "pile" "LLayeredTable$Entries;", Cond.fieldLink RX4 37 "LayeredTable" "memory" "LLayeredTable$Memory;", Cond.fieldLink RX4 83 "LayeredTable" "passes" "I", Cond.fieldLink RX4 89 "LayeredTable$Entries" "size" "I", Cond.methodLink RX4 48 yX4_findObstacle, Cond.instanceMethod yX4_findObstacle, Cond.selects RX4 yX4_findObstacle yX4_findObstacle, Cond.code yX4_findObstacle cX4_findObstacle 3 (some .int), Cond.fieldLink RX4 103 "LayeredTable" "turnPlayer" "I", Cond.methodLink RX4 168 yX4_isThing, Cond.static yX4_isThing, Cond.code yX4_isThing cX4_isThing 1 (some .boolean)]
def wsL_play_r2 : List Cond := [Cond.methodLink RX4 171 yX4_coinsOf, Cond.instanceMethod yX4_coinsOf, Cond.selects RX4 yX4_coinsOf yX4_coinsOf, Cond.code yX4_coinsOf cX4_coinsOf 2 (some .int), Cond.fieldLink RX4 9 "LayeredTable" "purses" "[I", Cond.methodLink RX4 61 yX4_costOf, Cond.static yX4_costOf, Cond.code yX4_costOf cX4_costOf 1 (some .int), Cond.fieldLink RX4 159 "LayeredTable" "COST_OF" "[I", Cond.methodLink RX4 174 yX4_hasTarget, Cond.instanceMethod yX4_hasTarget, Cond.selects RX4 yX4_hasTarget yX4_hasTarget, Cond.code yX4_hasTarget cX4_hasTarget 3 (some .boolean), Cond.fieldLink RX4 16 "LayeredTable" "table" "LLayeredTable$Things;", Cond.fieldLink RX4 147 "LayeredTable$Entries" "triggers" "[Z", Cond.methodLink RX4 115 yX2_has, Cond.instanceMethod yX2_has, Cond.selects RX2 yX2_has yX2_has, Cond.initialized RX2, Cond.code yX2_has cX2_has 2 (some .boolean), Cond.fieldLink RX2 24 "LayeredTable$Things" "size" "I", Cond.methodLink RX4 140 yX0_has, Cond.instanceMethod yX0_has, Cond.selects RX0 yX0_has yX0_has]
def wsL_play_r3 : List Cond := [Cond.initialized RX0, Cond.code yX0_has cX0_has 2 (some .boolean), Cond.fieldLink RX0 28 "LayeredTable$Entries" "size" "I", Cond.methodLink RX4 144 yX0_indexOf, Cond.instanceMethod yX0_indexOf, Cond.selects RX0 yX0_indexOf yX0_indexOf, Cond.code yX0_indexOf cX0_indexOf 2 (some .int), Cond.methodLink RX0 32 yX0_has, Cond.methodLink RX4 65 yX4_pay, Cond.instanceMethod yX4_pay, Cond.selects RX4 yX4_pay yX4_pay, Cond.code yX4_pay cX4_pay 3 none, Cond.methodLink RX4 69 yX4_targetId, Cond.instanceMethod yX4_targetId, Cond.selects RX4 yX4_targetId yX4_targetId, Cond.code yX4_targetId cX4_targetId 3 (some .int), Cond.fieldLink RX4 178 "LayeredTable$Things" "ids" "[I", Cond.fieldLink RX4 181 "LayeredTable$Entries" "ids" "[I", Cond.methodLink RX4 72 yX4_newId, Cond.instanceMethod yX4_newId, Cond.selects RX4 yX4_newId yX4_newId, Cond.code yX4_newId cX4_newId 2 (some .int), Cond.fieldLink RX4 165 "LayeredTable" "nextId" "I", Cond.methodLink RX4 76 yX0_push]
def wsL_play_r4 : List Cond := [Cond.instanceMethod yX0_push, Cond.selects RX0 yX0_push yX0_push, Cond.code yX0_push cX0_push 6 none, Cond.fieldLink RX0 9 "LayeredTable$Entries" "cards" "[I", Cond.fieldLink RX0 15 "LayeredTable$Entries" "triggers" "[Z", Cond.fieldLink RX0 19 "LayeredTable$Entries" "players" "[I", Cond.fieldLink RX0 22 "LayeredTable$Entries" "targets" "[I", Cond.fieldLink RX0 25 "LayeredTable$Entries" "ids" "[I", Cond.methodLink RX4 80 yX1_forget, Cond.instanceMethod yX1_forget, Cond.selects RX1 yX1_forget yX1_forget, Cond.initialized RX1, Cond.code yX1_forget cX1_forget 1 none, Cond.fieldLink RX1 20 "LayeredTable$Memory" "size" "I", Cond.fieldLink RX1 24 "LayeredTable$Memory" "next" "I", Cond.methodLink RX4 86 yX4_nextPlayer, Cond.static yX4_nextPlayer, Cond.code yX4_nextPlayer cX4_nextPlayer 1 (some .int)]
def wsL_play : List Cond := .codeWith yL_play cL_play 5 (some .int) [(0, 10, 13, 13), (0, 10, 17, 15)] :: ((wsL_play_r1 ++ (wsL_play_r2 ++ (wsL_play_r3 ++ wsL_play_r4))) ++ wsX40 ++ wsX00 ++ wsX20 ++ wsX10 ++ (vx_atS RX4 45 "java/lang/IndexOutOfBoundsException" ["java/lang/RuntimeException", "java/lang/Exception"]).filter goodWord ++ (vx_atS RX4 56 "java/lang/IllegalStateException" ["java/lang/RuntimeException", "java/lang/Exception"]).filter goodWord)
def wsL_obstacle_r1 : List Cond := [Cond.classLink RL 13 "java/lang/IndexOutOfBoundsException", Cond.methodLink RL 17 yX4_obstacle, Cond.instanceMethod yX4_obstacle, Cond.selects RX4 yX4_obstacle yX4_obstacle, Cond.initialized RX4, Cond.code yX4_obstacle cX4_obstacle 3 (some .int), Cond.classLink RX4 41 "java/lang/IndexOutOfBoundsException", Cond.initialized "java/lang/IndexOutOfBoundsException", Cond.methodLink RX4 48 yX4_findObstacle, Cond.instanceMethod yX4_findObstacle, Cond.selects RX4 yX4_findObstacle yX4_findObstacle, Cond.code yX4_findObstacle cX4_findObstacle 3 (some .int), Cond.fieldLink RX4 23 "LayeredTable" "pile" "LLayeredTable$Entries;", Cond.fieldLink RX4 89 "LayeredTable$Entries" "size" "I", Cond.fieldLink RX4 57 "LayeredTable" "actingPlayer" "I", Cond.fieldLink RX4 103 "LayeredTable" "turnPlayer" "I", Cond.methodLink RX4 168 yX4_isThing, Cond.static yX4_isThing, Cond.code yX4_isThing cX4_isThing 1 (some .boolean), Cond.methodLink RX4 171 yX4_coinsOf, Cond.instanceMethod yX4_coinsOf, Cond.selects RX4 yX4_coinsOf yX4_coinsOf, Cond.code yX4_coinsOf cX4_coinsOf 2 (some .int), Cond.fieldLink RX4 9 "LayeredTable" "purses" "[I"]
def wsL_obstacle_r2 : List Cond := [Cond.methodLink RX4 61 yX4_costOf, Cond.static yX4_costOf, Cond.code yX4_costOf cX4_costOf 1 (some .int), Cond.fieldLink RX4 159 "LayeredTable" "COST_OF" "[I", Cond.methodLink RX4 174 yX4_hasTarget, Cond.instanceMethod yX4_hasTarget, Cond.selects RX4 yX4_hasTarget yX4_hasTarget, Cond.code yX4_hasTarget cX4_hasTarget 3 (some .boolean), Cond.fieldLink RX4 16 "LayeredTable" "table" "LLayeredTable$Things;", Cond.fieldLink RX4 147 "LayeredTable$Entries" "triggers" "[Z", Cond.methodLink RX4 115 yX2_has, Cond.instanceMethod yX2_has, Cond.selects RX2 yX2_has yX2_has, Cond.initialized RX2, Cond.code yX2_has cX2_has 2 (some .boolean), Cond.fieldLink RX2 24 "LayeredTable$Things" "size" "I", Cond.methodLink RX4 140 yX0_has, Cond.instanceMethod yX0_has, Cond.selects RX0 yX0_has yX0_has, Cond.initialized RX0, Cond.code yX0_has cX0_has 2 (some .boolean), Cond.fieldLink RX0 28 "LayeredTable$Entries" "size" "I", Cond.methodLink RX4 144 yX0_indexOf, Cond.instanceMethod yX0_indexOf]
def wsL_obstacle_r3 : List Cond := [Cond.selects RX0 yX0_indexOf yX0_indexOf, Cond.code yX0_indexOf cX0_indexOf 2 (some .int), Cond.methodLink RX0 32 yX0_has]
def wsL_obstacle : List Cond := .codeWith yL_obstacle cL_obstacle 5 (some .int) [(0, 10, 13, 13)] :: ((wsL_obstacle_r1 ++ (wsL_obstacle_r2 ++ wsL_obstacle_r3)) ++ wsX40 ++ wsX00 ++ wsX20 ++ (vx_atS RX4 45 "java/lang/IndexOutOfBoundsException" ["java/lang/RuntimeException", "java/lang/Exception"]).filter goodWord)
def wsL_settle_r1 : List Cond := [Cond.classLink RL 24 "java/lang/IllegalArgumentException", Cond.methodLink RL 20 yX4_settle, Cond.instanceMethod yX4_settle, Cond.selects RX4 yX4_settle yX4_settle, Cond.initialized RX4, Cond.code yX4_settle cX4_settle 3 (some .int), Cond.classLink RX4 98 "java/lang/IllegalArgumentException", Cond.initialized "java/lang/IllegalArgumentException", Cond.fieldLink RX4 23 "LayeredTable" "pile" "LLayeredTable$Entries;", Cond.fieldLink RX4 89 "LayeredTable$Entries" "size" "I", Cond.methodLink RX4 92 yX4_resolveTop, Cond.instanceMethod yX4_resolveTop, Cond.selects RX4 yX4_resolveTop yX4_resolveTop, Cond.code yX4_resolveTop cX4_resolveTop 6 none, Cond.fieldLink RX4 143 "LayeredTable$Entries" "cards" "[I", Cond.fieldLink RX4 147 "LayeredTable$Entries" "triggers" "[Z", Cond.fieldLink RX4 151 "LayeredTable$Entries" "players" "[I", Cond.fieldLink RX4 182 "LayeredTable$Entries" "targets" "[I", Cond.fieldLink RX4 83 "LayeredTable" "passes" "I", Cond.fieldLink RX4 103 "LayeredTable" "turnPlayer" "I", Cond.fieldLink RX4 57 "LayeredTable" "actingPlayer" "I", Cond.methodLink RX4 193 yX0_remove, Cond.instanceMethod yX0_remove, Cond.selects RX0 yX0_remove yX0_remove]
def wsL_settle_r2 : List Cond := [Cond.initialized RX0, Cond.code yX0_remove cX0_remove 3 none, Cond.fieldLink RX0 28 "LayeredTable$Entries" "size" "I", Cond.fieldLink RX0 9 "LayeredTable$Entries" "cards" "[I", Cond.fieldLink RX0 15 "LayeredTable$Entries" "triggers" "[Z", Cond.fieldLink RX0 19 "LayeredTable$Entries" "players" "[I", Cond.fieldLink RX0 22 "LayeredTable$Entries" "targets" "[I", Cond.fieldLink RX0 25 "LayeredTable$Entries" "ids" "[I", Cond.methodLink RX4 196 yX4_triggerEffect, Cond.instanceMethod yX4_triggerEffect, Cond.selects RX4 yX4_triggerEffect yX4_triggerEffect, Cond.code yX4_triggerEffect cX4_triggerEffect 3 (some .int), Cond.fieldLink RX4 16 "LayeredTable" "table" "LLayeredTable$Things;", Cond.methodLink RX4 65 yX4_pay, Cond.instanceMethod yX4_pay, Cond.selects RX4 yX4_pay yX4_pay, Cond.code yX4_pay cX4_pay 3 none, Cond.fieldLink RX4 9 "LayeredTable" "purses" "[I", Cond.methodLink RX4 206 yX4_enter, Cond.instanceMethod yX4_enter, Cond.selects RX4 yX4_enter yX4_enter, Cond.code yX4_enter cX4_enter 4 (some .int), Cond.methodLink RX4 72 yX4_newId, Cond.instanceMethod yX4_newId]
def wsL_settle_r3 : List Cond := [Cond.selects RX4 yX4_newId yX4_newId, Cond.code yX4_newId cX4_newId 2 (some .int), Cond.fieldLink RX4 165 "LayeredTable" "nextId" "I", Cond.methodLink RX4 218 yX2_add, Cond.instanceMethod yX2_add, Cond.selects RX2 yX2_add yX2_add, Cond.initialized RX2, Cond.code yX2_add cX2_add 5 (some .boolean), Cond.fieldLink RX2 24 "LayeredTable$Things" "size" "I", Cond.fieldLink RX2 9 "LayeredTable$Things" "cards" "[I", Cond.fieldLink RX2 15 "LayeredTable$Things" "players" "[I", Cond.fieldLink RX2 18 "LayeredTable$Things" "targets" "[I", Cond.fieldLink RX2 21 "LayeredTable$Things" "ids" "[I", Cond.methodLink RX4 212 yX2_firstOf, Cond.instanceMethod yX2_firstOf, Cond.selects RX2 yX2_firstOf yX2_firstOf, Cond.code yX2_firstOf cX2_firstOf 3 (some .int), Cond.methodLink RX4 215 yX4_leave, Cond.instanceMethod yX4_leave, Cond.selects RX4 yX4_leave yX4_leave, Cond.code yX4_leave cX4_leave 2 (some .int), Cond.methodLink RX4 222 yX2_remove, Cond.instanceMethod yX2_remove, Cond.selects RX2 yX2_remove yX2_remove]
def wsL_settle_r4 : List Cond := [Cond.code yX2_remove cX2_remove 3 (some .boolean), Cond.methodLink RX2 28 yX2_has, Cond.instanceMethod yX2_has, Cond.selects RX2 yX2_has yX2_has, Cond.code yX2_has cX2_has 2 (some .boolean), Cond.methodLink RX4 199 yX4_cardEffect, Cond.instanceMethod yX4_cardEffect, Cond.selects RX4 yX4_cardEffect yX4_cardEffect, Cond.code yX4_cardEffect cX4_cardEffect 4 (some .int), Cond.methodLink RX4 168 yX4_isThing, Cond.static yX4_isThing, Cond.code yX4_isThing cX4_isThing 1 (some .boolean), Cond.methodLink RX4 188 yX2_placeOf, Cond.instanceMethod yX2_placeOf, Cond.selects RX2 yX2_placeOf yX2_placeOf, Cond.code yX2_placeOf cX2_placeOf 3 (some .int), Cond.methodLink RX4 209 yX4_strike, Cond.instanceMethod yX4_strike, Cond.selects RX4 yX4_strike yX4_strike, Cond.code yX4_strike cX4_strike 2 (some .int), Cond.fieldLink RX4 30 "LayeredTable" "view" "LLayeredTable$View;", Cond.fieldLink RX4 137 "LayeredTable$View" "strengths" "[I", Cond.methodLink RX4 115 yX2_has, Cond.methodLink RX4 127 yX3_find]
def wsL_settle_r5 : List Cond := [Cond.instanceMethod yX3_find, Cond.selects RX3 yX3_find yX3_find, Cond.initialized RX3, Cond.code yX3_find cX3_find 5 none, Cond.fieldLink RX3 27 "LayeredTable$Things" "size" "I", Cond.fieldLink RX3 33 "LayeredTable$Things" "cards" "[I", Cond.fieldLink RX3 9 "LayeredTable$View" "controllers" "[I", Cond.fieldLink RX3 36 "LayeredTable$Things" "players" "[I", Cond.fieldLink RX3 15 "LayeredTable$View" "kinds" "[I", Cond.fieldLink RX3 18 "LayeredTable$View" "strengths" "[I", Cond.methodLink RX3 39 yX3_goThrough, Cond.instanceMethod yX3_goThrough, Cond.selects RX3 yX3_goThrough yX3_goThrough, Cond.code yX3_goThrough cX3_goThrough 6 none, Cond.fieldLink RX3 21 "LayeredTable$View" "kindsBefore" "[I", Cond.fieldLink RX3 24 "LayeredTable$View" "strengthsBefore" "[I", Cond.static yX4_layerOf, Cond.code yX4_layerOf cX4_layerOf 1 (some .int), Cond.fieldLink RX4 162 "LayeredTable" "LAYER_OF" "[I", Cond.methodLink RX3 47 yX3_takes, Cond.instanceMethod yX3_takes, Cond.selects RX3 yX3_takes yX3_takes, Cond.code yX3_takes cX3_takes 5 (some .boolean), Cond.fieldLink RX3 55 "LayeredTable$Things" "ids" "[I"]
def wsL_settle_r6 : List Cond := [Cond.fieldLink RX3 58 "LayeredTable$Things" "targets" "[I", Cond.methodLink RX3 51 yX3_change, Cond.instanceMethod yX3_change, Cond.selects RX3 yX3_change yX3_change, Cond.code yX3_change cX3_change 4 none, Cond.methodLink RX4 185 yX0_placeOf, Cond.instanceMethod yX0_placeOf, Cond.selects RX0 yX0_placeOf yX0_placeOf, Cond.code yX0_placeOf cX0_placeOf 3 (some .int), Cond.methodLink RX4 144 yX0_indexOf, Cond.instanceMethod yX0_indexOf, Cond.selects RX0 yX0_indexOf yX0_indexOf, Cond.code yX0_indexOf cX0_indexOf 2 (some .int), Cond.methodLink RX0 32 yX0_has, Cond.instanceMethod yX0_has, Cond.selects RX0 yX0_has yX0_has, Cond.code yX0_has cX0_has 2 (some .boolean), Cond.methodLink RX4 189 yX4_raiseTriggers, Cond.instanceMethod yX4_raiseTriggers, Cond.selects RX4 yX4_raiseTriggers yX4_raiseTriggers, Cond.code yX4_raiseTriggers cX4_raiseTriggers 7 none, Cond.fieldLink RX4 114 "LayeredTable$Things" "size" "I", Cond.fieldLink RX4 121 "LayeredTable$Things" "cards" "[I", Cond.fieldLink RX4 131 "LayeredTable$View" "controllers" "[I"]
def wsL_settle_r7 : List Cond := [Cond.methodLink RX4 224 yX4_hasTrigger, Cond.instanceMethod yX4_hasTrigger, Cond.selects RX4 yX4_hasTrigger yX4_hasTrigger, Cond.code yX4_hasTrigger cX4_hasTrigger 4 (some .boolean), Cond.methodLink RX4 76 yX0_push, Cond.instanceMethod yX0_push, Cond.selects RX0 yX0_push yX0_push, Cond.code yX0_push cX0_push 6 none, Cond.methodLink RX4 86 yX4_nextPlayer, Cond.static yX4_nextPlayer, Cond.code yX4_nextPlayer cX4_nextPlayer 1 (some .int), Cond.methodLink RX4 203 yX4_breakLoop, Cond.instanceMethod yX4_breakLoop, Cond.selects RX4 yX4_breakLoop yX4_breakLoop, Cond.code yX4_breakLoop cX4_breakLoop 2 none, Cond.fieldLink RX4 37 "LayeredTable" "memory" "LLayeredTable$Memory;", Cond.fieldLink RX4 231 "LayeredTable$Things" "players" "[I", Cond.fieldLink RX4 232 "LayeredTable$Things" "targets" "[I", Cond.fieldLink RX4 109 "LayeredTable" "loopCount" "I", Cond.methodLink RX4 228 yX1_start, Cond.instanceMethod yX1_start, Cond.selects RX1 yX1_start yX1_start, Cond.initialized RX1, Cond.code yX1_start cX1_start 3 none]
def wsL_settle_r8 : List Cond := [Cond.fieldLink RX1 11 "LayeredTable$Memory" "state" "[I", Cond.fieldLink RX1 27 "LayeredTable$Memory" "length" "I", Cond.methodLink RX4 233 yX1_write, Cond.instanceMethod yX1_write, Cond.selects RX1 yX1_write yX1_write, Cond.code yX1_write cX1_write 5 none, Cond.methodLink RX4 154 yX4_targetPlace, Cond.instanceMethod yX4_targetPlace, Cond.selects RX4 yX4_targetPlace yX4_targetPlace, Cond.code yX4_targetPlace cX4_targetPlace 3 (some .int), Cond.methodLink RX4 237 yX1_knowsState, Cond.instanceMethod yX1_knowsState, Cond.selects RX1 yX1_knowsState yX1_knowsState, Cond.code yX1_knowsState cX1_knowsState 2 (some .boolean), Cond.fieldLink RX1 20 "LayeredTable$Memory" "size" "I", Cond.fieldLink RX1 17 "LayeredTable$Memory" "kept" "[[I", Cond.methodLink RX1 30 yX1_isState, Cond.instanceMethod yX1_isState, Cond.selects RX1 yX1_isState yX1_isState, Cond.code yX1_isState cX1_isState 3 (some .boolean), Cond.methodLink RX4 80 yX1_forget, Cond.instanceMethod yX1_forget, Cond.selects RX1 yX1_forget yX1_forget, Cond.code yX1_forget cX1_forget 1 none]
def wsL_settle_r9 : List Cond := [Cond.fieldLink RX1 24 "LayeredTable$Memory" "next" "I", Cond.methodLink RX4 241 yX1_keepState, Cond.instanceMethod yX1_keepState, Cond.selects RX1 yX1_keepState yX1_keepState, Cond.code yX1_keepState cX1_keepState 1 none, Cond.methodLink RX1 34 arraycopyName, Cond.native arraycopyName, Cond.static arraycopyName, Cond.initialized "java/lang/System"]
def wsL_settle : List Cond := .codeWith yL_settle cL_settle 4 (some .int) [(0, 9, 12, 24)] :: ((wsL_settle_r1 ++ (wsL_settle_r2 ++ (wsL_settle_r3 ++ (wsL_settle_r4 ++ (wsL_settle_r5 ++ (wsL_settle_r6 ++ (wsL_settle_r7 ++ (wsL_settle_r8 ++ wsL_settle_r9)))))))) ++ wsX40 ++ wsX00 ++ wsX20 ++ wsX30 ++ wsX10 ++ (vx_atS RX4 102 "java/lang/IllegalArgumentException" ["java/lang/RuntimeException", "java/lang/Exception"]).filter goodWord)
def wsL_coins : List Cond := .codeWith yL_coins cL_coins 4 (some .int) [(0, 9, 12, 13)] :: ([.classLink RL 13 "java/lang/IndexOutOfBoundsException", .methodLink RL 26 yX4_coins, .instanceMethod yX4_coins, .selects RX4 yX4_coins yX4_coins, .initialized RX4, .code yX4_coins cX4_coins 2 (some .int), .classLink RX4 41 "java/lang/IndexOutOfBoundsException", .initialized "java/lang/IndexOutOfBoundsException", .fieldLink RX4 9 "LayeredTable" "purses" "[I"] ++ wsX40 ++ (vx_atS RX4 45 "java/lang/IndexOutOfBoundsException" ["java/lang/RuntimeException", "java/lang/Exception"]).filter goodWord)
def wsL_cardOf : List Cond := .codeWith yL_cardOf cL_cardOf 4 (some .int) [(0, 9, 12, 13)] :: ([.classLink RL 13 "java/lang/IndexOutOfBoundsException", .methodLink RL 29 yX4_cardOf, .instanceMethod yX4_cardOf, .selects RX4 yX4_cardOf yX4_cardOf, .initialized RX4, .code yX4_cardOf cX4_cardOf 2 (some .int), .classLink RX4 41 "java/lang/IndexOutOfBoundsException", .initialized "java/lang/IndexOutOfBoundsException", .fieldLink RX4 16 "LayeredTable" "table" "LLayeredTable$Things;", .fieldLink RX4 121 "LayeredTable$Things" "cards" "[I", .methodLink RX4 115 yX2_has, .instanceMethod yX2_has, .selects RX2 yX2_has yX2_has, .initialized RX2, .code yX2_has cX2_has 2 (some .boolean), .fieldLink RX2 24 "LayeredTable$Things" "size" "I"] ++ wsX40 ++ wsX20 ++ (vx_atS RX4 45 "java/lang/IndexOutOfBoundsException" ["java/lang/RuntimeException", "java/lang/Exception"]).filter goodWord)
def wsL_controllerOf_r1 : List Cond := [Cond.classLink RL 13 "java/lang/IndexOutOfBoundsException", Cond.classLink RL 24 "java/lang/IllegalArgumentException", Cond.methodLink RL 32 yX4_controllerOf, Cond.instanceMethod yX4_controllerOf, Cond.selects RX4 yX4_controllerOf yX4_controllerOf, Cond.initialized RX4, Cond.code yX4_controllerOf cX4_controllerOf 3 (some .int), Cond.fieldLink RX4 30 "LayeredTable" "view" "LLayeredTable$View;", Cond.fieldLink RX4 16 "LayeredTable" "table" "LLayeredTable$Things;", Cond.fieldLink RX4 131 "LayeredTable$View" "controllers" "[I", Cond.methodLink RX4 124 yX4_requireThingAndLayer, Cond.instanceMethod yX4_requireThingAndLayer, Cond.selects RX4 yX4_requireThingAndLayer yX4_requireThingAndLayer, Cond.code yX4_requireThingAndLayer cX4_requireThingAndLayer 3 none, Cond.classLink RX4 41 "java/lang/IndexOutOfBoundsException", Cond.initialized "java/lang/IndexOutOfBoundsException", Cond.classLink RX4 98 "java/lang/IllegalArgumentException", Cond.initialized "java/lang/IllegalArgumentException", Cond.methodLink RX4 115 yX2_has, Cond.instanceMethod yX2_has, Cond.selects RX2 yX2_has yX2_has, Cond.initialized RX2, Cond.code yX2_has cX2_has 2 (some .boolean), Cond.fieldLink RX2 24 "LayeredTable$Things" "size" "I"]
def wsL_controllerOf_r2 : List Cond := [Cond.methodLink RX4 127 yX3_find, Cond.instanceMethod yX3_find, Cond.selects RX3 yX3_find yX3_find, Cond.initialized RX3, Cond.code yX3_find cX3_find 5 none, Cond.fieldLink RX3 27 "LayeredTable$Things" "size" "I", Cond.fieldLink RX3 33 "LayeredTable$Things" "cards" "[I", Cond.fieldLink RX3 9 "LayeredTable$View" "controllers" "[I", Cond.fieldLink RX3 36 "LayeredTable$Things" "players" "[I", Cond.fieldLink RX3 15 "LayeredTable$View" "kinds" "[I", Cond.fieldLink RX3 18 "LayeredTable$View" "strengths" "[I", Cond.methodLink RX3 39 yX3_goThrough, Cond.instanceMethod yX3_goThrough, Cond.selects RX3 yX3_goThrough yX3_goThrough, Cond.code yX3_goThrough cX3_goThrough 6 none, Cond.fieldLink RX3 21 "LayeredTable$View" "kindsBefore" "[I", Cond.fieldLink RX3 24 "LayeredTable$View" "strengthsBefore" "[I", Cond.static yX4_layerOf, Cond.code yX4_layerOf cX4_layerOf 1 (some .int), Cond.fieldLink RX4 162 "LayeredTable" "LAYER_OF" "[I", Cond.methodLink RX3 47 yX3_takes, Cond.instanceMethod yX3_takes, Cond.selects RX3 yX3_takes yX3_takes, Cond.code yX3_takes cX3_takes 5 (some .boolean)]
def wsL_controllerOf_r3 : List Cond := [Cond.fieldLink RX3 55 "LayeredTable$Things" "ids" "[I", Cond.fieldLink RX3 58 "LayeredTable$Things" "targets" "[I", Cond.methodLink RX3 51 yX3_change, Cond.instanceMethod yX3_change, Cond.selects RX3 yX3_change yX3_change, Cond.code yX3_change cX3_change 4 none]
def wsL_controllerOf : List Cond := .codeWith yL_controllerOf cL_controllerOf 5 (some .int) [(0, 10, 13, 13), (0, 10, 17, 24)] :: ((wsL_controllerOf_r1 ++ (wsL_controllerOf_r2 ++ wsL_controllerOf_r3)) ++ wsX40 ++ wsX30 ++ wsX20 ++ (vx_atS RX4 45 "java/lang/IndexOutOfBoundsException" ["java/lang/RuntimeException", "java/lang/Exception"]).filter goodWord ++ (vx_atS RX4 102 "java/lang/IllegalArgumentException" ["java/lang/RuntimeException", "java/lang/Exception"]).filter goodWord)
def wsL_kindsOf_r1 : List Cond := [Cond.classLink RL 13 "java/lang/IndexOutOfBoundsException", Cond.classLink RL 24 "java/lang/IllegalArgumentException", Cond.methodLink RL 35 yX4_kindsOf, Cond.instanceMethod yX4_kindsOf, Cond.selects RX4 yX4_kindsOf yX4_kindsOf, Cond.initialized RX4, Cond.code yX4_kindsOf cX4_kindsOf 3 (some .int), Cond.fieldLink RX4 30 "LayeredTable" "view" "LLayeredTable$View;", Cond.fieldLink RX4 16 "LayeredTable" "table" "LLayeredTable$Things;", Cond.fieldLink RX4 134 "LayeredTable$View" "kinds" "[I", Cond.methodLink RX4 124 yX4_requireThingAndLayer, Cond.instanceMethod yX4_requireThingAndLayer, Cond.selects RX4 yX4_requireThingAndLayer yX4_requireThingAndLayer, Cond.code yX4_requireThingAndLayer cX4_requireThingAndLayer 3 none, Cond.classLink RX4 41 "java/lang/IndexOutOfBoundsException", Cond.initialized "java/lang/IndexOutOfBoundsException", Cond.classLink RX4 98 "java/lang/IllegalArgumentException", Cond.initialized "java/lang/IllegalArgumentException", Cond.methodLink RX4 115 yX2_has, Cond.instanceMethod yX2_has, Cond.selects RX2 yX2_has yX2_has, Cond.initialized RX2, Cond.code yX2_has cX2_has 2 (some .boolean), Cond.fieldLink RX2 24 "LayeredTable$Things" "size" "I"]
def wsL_kindsOf_r2 : List Cond := [Cond.methodLink RX4 127 yX3_find, Cond.instanceMethod yX3_find, Cond.selects RX3 yX3_find yX3_find, Cond.initialized RX3, Cond.code yX3_find cX3_find 5 none, Cond.fieldLink RX3 27 "LayeredTable$Things" "size" "I", Cond.fieldLink RX3 33 "LayeredTable$Things" "cards" "[I", Cond.fieldLink RX3 9 "LayeredTable$View" "controllers" "[I", Cond.fieldLink RX3 36 "LayeredTable$Things" "players" "[I", Cond.fieldLink RX3 15 "LayeredTable$View" "kinds" "[I", Cond.fieldLink RX3 18 "LayeredTable$View" "strengths" "[I", Cond.methodLink RX3 39 yX3_goThrough, Cond.instanceMethod yX3_goThrough, Cond.selects RX3 yX3_goThrough yX3_goThrough, Cond.code yX3_goThrough cX3_goThrough 6 none, Cond.fieldLink RX3 21 "LayeredTable$View" "kindsBefore" "[I", Cond.fieldLink RX3 24 "LayeredTable$View" "strengthsBefore" "[I", Cond.static yX4_layerOf, Cond.code yX4_layerOf cX4_layerOf 1 (some .int), Cond.fieldLink RX4 162 "LayeredTable" "LAYER_OF" "[I", Cond.methodLink RX3 47 yX3_takes, Cond.instanceMethod yX3_takes, Cond.selects RX3 yX3_takes yX3_takes, Cond.code yX3_takes cX3_takes 5 (some .boolean)]
def wsL_kindsOf_r3 : List Cond := [Cond.fieldLink RX3 55 "LayeredTable$Things" "ids" "[I", Cond.fieldLink RX3 58 "LayeredTable$Things" "targets" "[I", Cond.methodLink RX3 51 yX3_change, Cond.instanceMethod yX3_change, Cond.selects RX3 yX3_change yX3_change, Cond.code yX3_change cX3_change 4 none]
def wsL_kindsOf : List Cond := .codeWith yL_kindsOf cL_kindsOf 5 (some .int) [(0, 10, 13, 13), (0, 10, 17, 24)] :: ((wsL_kindsOf_r1 ++ (wsL_kindsOf_r2 ++ wsL_kindsOf_r3)) ++ wsX40 ++ wsX30 ++ wsX20 ++ (vx_atS RX4 45 "java/lang/IndexOutOfBoundsException" ["java/lang/RuntimeException", "java/lang/Exception"]).filter goodWord ++ (vx_atS RX4 102 "java/lang/IllegalArgumentException" ["java/lang/RuntimeException", "java/lang/Exception"]).filter goodWord)
def wsL_strengthOf_r1 : List Cond := [Cond.classLink RL 13 "java/lang/IndexOutOfBoundsException", Cond.classLink RL 24 "java/lang/IllegalArgumentException", Cond.methodLink RL 38 yX4_strengthOf, Cond.instanceMethod yX4_strengthOf, Cond.selects RX4 yX4_strengthOf yX4_strengthOf, Cond.initialized RX4, Cond.code yX4_strengthOf cX4_strengthOf 3 (some .int), Cond.fieldLink RX4 30 "LayeredTable" "view" "LLayeredTable$View;", Cond.fieldLink RX4 16 "LayeredTable" "table" "LLayeredTable$Things;", Cond.fieldLink RX4 137 "LayeredTable$View" "strengths" "[I", Cond.methodLink RX4 124 yX4_requireThingAndLayer, Cond.instanceMethod yX4_requireThingAndLayer, Cond.selects RX4 yX4_requireThingAndLayer yX4_requireThingAndLayer, Cond.code yX4_requireThingAndLayer cX4_requireThingAndLayer 3 none, Cond.classLink RX4 41 "java/lang/IndexOutOfBoundsException", Cond.initialized "java/lang/IndexOutOfBoundsException", Cond.classLink RX4 98 "java/lang/IllegalArgumentException", Cond.initialized "java/lang/IllegalArgumentException", Cond.methodLink RX4 115 yX2_has, Cond.instanceMethod yX2_has, Cond.selects RX2 yX2_has yX2_has, Cond.initialized RX2, Cond.code yX2_has cX2_has 2 (some .boolean), Cond.fieldLink RX2 24 "LayeredTable$Things" "size" "I"]
def wsL_strengthOf_r2 : List Cond := [Cond.methodLink RX4 127 yX3_find, Cond.instanceMethod yX3_find, Cond.selects RX3 yX3_find yX3_find, Cond.initialized RX3, Cond.code yX3_find cX3_find 5 none, Cond.fieldLink RX3 27 "LayeredTable$Things" "size" "I", Cond.fieldLink RX3 33 "LayeredTable$Things" "cards" "[I", Cond.fieldLink RX3 9 "LayeredTable$View" "controllers" "[I", Cond.fieldLink RX3 36 "LayeredTable$Things" "players" "[I", Cond.fieldLink RX3 15 "LayeredTable$View" "kinds" "[I", Cond.fieldLink RX3 18 "LayeredTable$View" "strengths" "[I", Cond.methodLink RX3 39 yX3_goThrough, Cond.instanceMethod yX3_goThrough, Cond.selects RX3 yX3_goThrough yX3_goThrough, Cond.code yX3_goThrough cX3_goThrough 6 none, Cond.fieldLink RX3 21 "LayeredTable$View" "kindsBefore" "[I", Cond.fieldLink RX3 24 "LayeredTable$View" "strengthsBefore" "[I", Cond.static yX4_layerOf, Cond.code yX4_layerOf cX4_layerOf 1 (some .int), Cond.fieldLink RX4 162 "LayeredTable" "LAYER_OF" "[I", Cond.methodLink RX3 47 yX3_takes, Cond.instanceMethod yX3_takes, Cond.selects RX3 yX3_takes yX3_takes, Cond.code yX3_takes cX3_takes 5 (some .boolean)]
def wsL_strengthOf_r3 : List Cond := [Cond.fieldLink RX3 55 "LayeredTable$Things" "ids" "[I", Cond.fieldLink RX3 58 "LayeredTable$Things" "targets" "[I", Cond.methodLink RX3 51 yX3_change, Cond.instanceMethod yX3_change, Cond.selects RX3 yX3_change yX3_change, Cond.code yX3_change cX3_change 4 none]
def wsL_strengthOf : List Cond := .codeWith yL_strengthOf cL_strengthOf 5 (some .int) [(0, 10, 13, 13), (0, 10, 17, 24)] :: ((wsL_strengthOf_r1 ++ (wsL_strengthOf_r2 ++ wsL_strengthOf_r3)) ++ wsX40 ++ wsX30 ++ wsX20 ++ (vx_atS RX4 45 "java/lang/IndexOutOfBoundsException" ["java/lang/RuntimeException", "java/lang/Exception"]).filter goodWord ++ (vx_atS RX4 102 "java/lang/IllegalArgumentException" ["java/lang/RuntimeException", "java/lang/Exception"]).filter goodWord)
def wsL_power_r1 : List Cond := [Cond.classLink RL 13 "java/lang/IndexOutOfBoundsException", Cond.methodLink RL 41 yX4_power, Cond.instanceMethod yX4_power, Cond.selects RX4 yX4_power yX4_power, Cond.initialized RX4, Cond.code yX4_power cX4_power 4 (some .int), Cond.classLink RX4 41 "java/lang/IndexOutOfBoundsException", Cond.initialized "java/lang/IndexOutOfBoundsException", Cond.fieldLink RX4 30 "LayeredTable" "view" "LLayeredTable$View;", Cond.fieldLink RX4 16 "LayeredTable" "table" "LLayeredTable$Things;", Cond.fieldLink RX4 114 "LayeredTable$Things" "size" "I", Cond.fieldLink RX4 131 "LayeredTable$View" "controllers" "[I", Cond.fieldLink RX4 134 "LayeredTable$View" "kinds" "[I", Cond.fieldLink RX4 137 "LayeredTable$View" "strengths" "[I", Cond.methodLink RX4 127 yX3_find, Cond.instanceMethod yX3_find, Cond.selects RX3 yX3_find yX3_find, Cond.initialized RX3, Cond.code yX3_find cX3_find 5 none, Cond.fieldLink RX3 27 "LayeredTable$Things" "size" "I", Cond.fieldLink RX3 33 "LayeredTable$Things" "cards" "[I", Cond.fieldLink RX3 9 "LayeredTable$View" "controllers" "[I", Cond.fieldLink RX3 36 "LayeredTable$Things" "players" "[I", Cond.fieldLink RX3 15 "LayeredTable$View" "kinds" "[I"]
def wsL_power_r2 : List Cond := [Cond.fieldLink RX3 18 "LayeredTable$View" "strengths" "[I", Cond.methodLink RX3 39 yX3_goThrough, Cond.instanceMethod yX3_goThrough, Cond.selects RX3 yX3_goThrough yX3_goThrough, Cond.code yX3_goThrough cX3_goThrough 6 none, Cond.fieldLink RX3 21 "LayeredTable$View" "kindsBefore" "[I", Cond.fieldLink RX3 24 "LayeredTable$View" "strengthsBefore" "[I", Cond.static yX4_layerOf, Cond.code yX4_layerOf cX4_layerOf 1 (some .int), Cond.fieldLink RX4 162 "LayeredTable" "LAYER_OF" "[I", Cond.methodLink RX3 47 yX3_takes, Cond.instanceMethod yX3_takes, Cond.selects RX3 yX3_takes yX3_takes, Cond.code yX3_takes cX3_takes 5 (some .boolean), Cond.fieldLink RX3 55 "LayeredTable$Things" "ids" "[I", Cond.fieldLink RX3 58 "LayeredTable$Things" "targets" "[I", Cond.methodLink RX3 51 yX3_change, Cond.instanceMethod yX3_change, Cond.selects RX3 yX3_change yX3_change, Cond.code yX3_change cX3_change 4 none]
def wsL_power : List Cond := .codeWith yL_power cL_power 4 (some .int) [(0, 9, 12, 13)] :: ((wsL_power_r1 ++ wsL_power_r2) ++ wsX40 ++ wsX20 ++ wsX30 ++ (vx_atS RX4 45 "java/lang/IndexOutOfBoundsException" ["java/lang/RuntimeException", "java/lang/Exception"]).filter goodWord)
def wsL_entryCard : List Cond := .codeWith yL_entryCard cL_entryCard 4 (some .int) [(0, 9, 12, 13)] :: ([.classLink RL 13 "java/lang/IndexOutOfBoundsException", .methodLink RL 44 yX4_entryCard, .instanceMethod yX4_entryCard, .selects RX4 yX4_entryCard yX4_entryCard, .initialized RX4, .code yX4_entryCard cX4_entryCard 2 (some .int), .classLink RX4 41 "java/lang/IndexOutOfBoundsException", .initialized "java/lang/IndexOutOfBoundsException", .fieldLink RX4 23 "LayeredTable" "pile" "LLayeredTable$Entries;", .fieldLink RX4 143 "LayeredTable$Entries" "cards" "[I", .methodLink RX4 140 yX0_has, .instanceMethod yX0_has, .selects RX0 yX0_has yX0_has, .initialized RX0, .code yX0_has cX0_has 2 (some .boolean), .fieldLink RX0 28 "LayeredTable$Entries" "size" "I", .methodLink RX4 144 yX0_indexOf, .instanceMethod yX0_indexOf, .selects RX0 yX0_indexOf yX0_indexOf, .code yX0_indexOf cX0_indexOf 2 (some .int), .methodLink RX0 32 yX0_has] ++ wsX40 ++ wsX00 ++ (vx_atS RX4 45 "java/lang/IndexOutOfBoundsException" ["java/lang/RuntimeException", "java/lang/Exception"]).filter goodWord)
def wsL_isTrigger : List Cond := .codeWith yL_isTrigger cL_isTrigger 4 (some .int) [(0, 16, 19, 13)] :: ([.classLink RL 13 "java/lang/IndexOutOfBoundsException", .methodLink RL 47 yX4_isTrigger, .instanceMethod yX4_isTrigger, .selects RX4 yX4_isTrigger yX4_isTrigger, .initialized RX4, .code yX4_isTrigger cX4_isTrigger 2 (some .boolean), .classLink RX4 41 "java/lang/IndexOutOfBoundsException", .initialized "java/lang/IndexOutOfBoundsException", .fieldLink RX4 23 "LayeredTable" "pile" "LLayeredTable$Entries;", .fieldLink RX4 147 "LayeredTable$Entries" "triggers" "[Z", .methodLink RX4 140 yX0_has, .instanceMethod yX0_has, .selects RX0 yX0_has yX0_has, .initialized RX0, .code yX0_has cX0_has 2 (some .boolean), .fieldLink RX0 28 "LayeredTable$Entries" "size" "I", .methodLink RX4 144 yX0_indexOf, .instanceMethod yX0_indexOf, .selects RX0 yX0_indexOf yX0_indexOf, .code yX0_indexOf cX0_indexOf 2 (some .int), .methodLink RX0 32 yX0_has] ++ wsX40 ++ wsX00 ++ (vx_atS RX4 45 "java/lang/IndexOutOfBoundsException" ["java/lang/RuntimeException", "java/lang/Exception"]).filter goodWord)
def wsL_entryPlayer : List Cond := .codeWith yL_entryPlayer cL_entryPlayer 4 (some .int) [(0, 9, 12, 13)] :: ([.classLink RL 13 "java/lang/IndexOutOfBoundsException", .methodLink RL 51 yX4_entryPlayer, .instanceMethod yX4_entryPlayer, .selects RX4 yX4_entryPlayer yX4_entryPlayer, .initialized RX4, .code yX4_entryPlayer cX4_entryPlayer 2 (some .int), .classLink RX4 41 "java/lang/IndexOutOfBoundsException", .initialized "java/lang/IndexOutOfBoundsException", .fieldLink RX4 23 "LayeredTable" "pile" "LLayeredTable$Entries;", .fieldLink RX4 151 "LayeredTable$Entries" "players" "[I", .methodLink RX4 140 yX0_has, .instanceMethod yX0_has, .selects RX0 yX0_has yX0_has, .initialized RX0, .code yX0_has cX0_has 2 (some .boolean), .fieldLink RX0 28 "LayeredTable$Entries" "size" "I", .methodLink RX4 144 yX0_indexOf, .instanceMethod yX0_indexOf, .selects RX0 yX0_indexOf yX0_indexOf, .code yX0_indexOf cX0_indexOf 2 (some .int), .methodLink RX0 32 yX0_has] ++ wsX40 ++ wsX00 ++ (vx_atS RX4 45 "java/lang/IndexOutOfBoundsException" ["java/lang/RuntimeException", "java/lang/Exception"]).filter goodWord)
def wsL_entryTarget_r1 : List Cond := [Cond.classLink RL 13 "java/lang/IndexOutOfBoundsException", Cond.methodLink RL 54 yX4_entryTarget, Cond.instanceMethod yX4_entryTarget, Cond.selects RX4 yX4_entryTarget yX4_entryTarget, Cond.initialized RX4, Cond.code yX4_entryTarget cX4_entryTarget 2 (some .int), Cond.classLink RX4 41 "java/lang/IndexOutOfBoundsException", Cond.initialized "java/lang/IndexOutOfBoundsException", Cond.fieldLink RX4 23 "LayeredTable" "pile" "LLayeredTable$Entries;", Cond.methodLink RX4 140 yX0_has, Cond.instanceMethod yX0_has, Cond.selects RX0 yX0_has yX0_has, Cond.initialized RX0, Cond.code yX0_has cX0_has 2 (some .boolean), Cond.fieldLink RX0 28 "LayeredTable$Entries" "size" "I", Cond.methodLink RX4 144 yX0_indexOf, Cond.instanceMethod yX0_indexOf, Cond.selects RX0 yX0_indexOf yX0_indexOf, Cond.code yX0_indexOf cX0_indexOf 2 (some .int), Cond.methodLink RX0 32 yX0_has, Cond.methodLink RX4 154 yX4_targetPlace, Cond.instanceMethod yX4_targetPlace, Cond.selects RX4 yX4_targetPlace yX4_targetPlace, Cond.code yX4_targetPlace cX4_targetPlace 3 (some .int)]
def wsL_entryTarget_r2 : List Cond := [Cond.fieldLink RX4 89 "LayeredTable$Entries" "size" "I", Cond.fieldLink RX4 182 "LayeredTable$Entries" "targets" "[I", Cond.fieldLink RX4 143 "LayeredTable$Entries" "cards" "[I", Cond.fieldLink RX4 16 "LayeredTable" "table" "LLayeredTable$Things;", Cond.methodLink RX4 185 yX0_placeOf, Cond.instanceMethod yX0_placeOf, Cond.selects RX0 yX0_placeOf yX0_placeOf, Cond.code yX0_placeOf cX0_placeOf 3 (some .int), Cond.fieldLink RX0 25 "LayeredTable$Entries" "ids" "[I", Cond.methodLink RX4 188 yX2_placeOf, Cond.instanceMethod yX2_placeOf, Cond.selects RX2 yX2_placeOf yX2_placeOf, Cond.initialized RX2, Cond.code yX2_placeOf cX2_placeOf 3 (some .int), Cond.fieldLink RX2 24 "LayeredTable$Things" "size" "I", Cond.fieldLink RX2 21 "LayeredTable$Things" "ids" "[I"]
def wsL_entryTarget : List Cond := .codeWith yL_entryTarget cL_entryTarget 4 (some .int) [(0, 9, 12, 13)] :: ((wsL_entryTarget_r1 ++ wsL_entryTarget_r2) ++ wsX40 ++ wsX00 ++ wsX20 ++ (vx_atS RX4 45 "java/lang/IndexOutOfBoundsException" ["java/lang/RuntimeException", "java/lang/Exception"]).filter goodWord)
def wsL_law0_r1 : List Cond := [Cond.classLink RL 8 RX4, Cond.instantiable RX4 11, Cond.initialized RX4, Cond.classLink RL 58 RX5, Cond.instantiable RX5 27, Cond.initialized RX5, Cond.arrayClass .long, Cond.methodLink RL 57 yX4_init, Cond.instanceMethod yX4_init, Cond.code yX4_init cX4_init 2 none, Cond.methodLink RX4 1 objectInit, Cond.instanceMethod objectInit, Cond.code objectInit ⟨#[0xb1]⟩ 1 none, Cond.arrayClass .int, Cond.fieldLink RX4 9 "LayeredTable" "purses" "[I", Cond.classLink RX4 13 RX2, Cond.instantiable RX2 5, Cond.initialized RX2, Cond.fieldLink RX4 16 "LayeredTable" "table" "LLayeredTable$Things;", Cond.classLink RX4 20 RX0, Cond.instantiable RX0 6, Cond.initialized RX0, Cond.fieldLink RX4 23 "LayeredTable" "pile" "LLayeredTable$Entries;", Cond.classLink RX4 27 RX3]
def wsL_law0_r2 : List Cond := [Cond.instantiable RX3 5, Cond.initialized RX3, Cond.fieldLink RX4 30 "LayeredTable" "view" "LLayeredTable$View;", Cond.classLink RX4 34 RX1, Cond.instantiable RX1 5, Cond.initialized RX1, Cond.fieldLink RX4 37 "LayeredTable" "memory" "LLayeredTable$Memory;", Cond.instanceMethod yX2_init, Cond.code yX2_init cX2_init 1 none, Cond.methodLink RX2 3 objectInit, Cond.fieldLink RX2 9 "LayeredTable$Things" "cards" "[I", Cond.fieldLink RX2 15 "LayeredTable$Things" "players" "[I", Cond.fieldLink RX2 18 "LayeredTable$Things" "targets" "[I", Cond.fieldLink RX2 21 "LayeredTable$Things" "ids" "[I", Cond.instanceMethod yX0_init, Cond.code yX0_init cX0_init 1 none, Cond.methodLink RX0 3 objectInit, Cond.fieldLink RX0 9 "LayeredTable$Entries" "cards" "[I", Cond.arrayClass .boolean, Cond.fieldLink RX0 15 "LayeredTable$Entries" "triggers" "[Z", Cond.fieldLink RX0 19 "LayeredTable$Entries" "players" "[I", Cond.fieldLink RX0 22 "LayeredTable$Entries" "targets" "[I", Cond.fieldLink RX0 25 "LayeredTable$Entries" "ids" "[I", Cond.instanceMethod yX3_init]
def wsL_law0_r3 : List Cond := [Cond.code yX3_init cX3_init 1 none, Cond.methodLink RX3 3 objectInit, Cond.fieldLink RX3 9 "LayeredTable$View" "controllers" "[I", Cond.fieldLink RX3 15 "LayeredTable$View" "kinds" "[I", Cond.fieldLink RX3 18 "LayeredTable$View" "strengths" "[I", Cond.fieldLink RX3 21 "LayeredTable$View" "kindsBefore" "[I", Cond.fieldLink RX3 24 "LayeredTable$View" "strengthsBefore" "[I", Cond.instanceMethod yX1_init, Cond.code yX1_init cX1_init 1 none, Cond.methodLink RX1 3 objectInit, Cond.fieldLink RX1 11 "LayeredTable$Memory" "state" "[I", Cond.classLink RX1 15 "[[I", Cond.fieldLink RX1 17 "LayeredTable$Memory" "kept" "[[I", Cond.methodLink RL 60 yX5_init, Cond.instanceMethod yX5_init, Cond.code yX5_init cX5_init 2 none, Cond.methodLink RX5 1 objectInit, Cond.fieldLink RX5 7 "LayeredTableModel" "coins" "[I", Cond.fieldLink RX5 13 "LayeredTableModel" "card" "[I", Cond.fieldLink RX5 16 "LayeredTableModel" "owner" "[I", Cond.fieldLink RX5 19 "LayeredTableModel" "name" "[I", Cond.fieldLink RX5 22 "LayeredTableModel" "aim" "[I", Cond.fieldLink RX5 25 "LayeredTableModel" "put" "[I", Cond.fieldLink RX5 28 "LayeredTableModel" "triggered" "[Z"]
def wsL_law0_r4 : List Cond := [Cond.fieldLink RX5 32 "LayeredTableModel" "whose" "[I", Cond.fieldLink RX5 35 "LayeredTableModel" "mark" "[I", Cond.fieldLink RX5 38 "LayeredTableModel" "target" "[I", Cond.fieldLink RX5 41 "LayeredTableModel" "controller" "[I", Cond.fieldLink RX5 44 "LayeredTableModel" "kinds" "[I", Cond.fieldLink RX5 47 "LayeredTableModel" "strength" "[I", Cond.fieldLink RX5 50 "LayeredTableModel" "kindsThen" "[I", Cond.fieldLink RX5 53 "LayeredTableModel" "strengthThen" "[I", Cond.fieldLink RX5 56 "LayeredTableModel" "states" "[I", Cond.fieldLink RX5 59 "LayeredTableModel" "state" "[I", Cond.methodLink RL 61 yL_play, Cond.static yL_play, Cond.initialized RL, Cond.codeWith yL_play cL_play 5 (some .int) [(0, 10, 13, 13), (0, 10, 17, 15)], Cond.classLink RL 13 "java/lang/IndexOutOfBoundsException", Cond.classLink RL 15 "java/lang/IllegalStateException", Cond.methodLink RL 7 yX4_play, Cond.instanceMethod yX4_play, Cond.selects RX4 yX4_play yX4_play, Cond.code yX4_play cX4_play 3 (some .int), Cond.classLink RX4 41 "java/lang/IndexOutOfBoundsException", Cond.initialized "java/lang/IndexOutOfBoundsException", Cond.classLink RX4 52 "java/lang/IllegalStateException", Cond.initialized "java/lang/IllegalStateException"]
def wsL_law0_r5 : List Cond := [Cond.fieldLink RX4 57 "LayeredTable" "actingPlayer" "I", Cond.fieldLink RX4 83 "LayeredTable" "passes" "I", Cond.fieldLink RX4 89 "LayeredTable$Entries" "size" "I", Cond.methodLink RX4 48 yX4_findObstacle, Cond.instanceMethod yX4_findObstacle, Cond.selects RX4 yX4_findObstacle yX4_findObstacle, Cond.code yX4_findObstacle cX4_findObstacle 3 (some .int), Cond.fieldLink RX4 103 "LayeredTable" "turnPlayer" "I", Cond.methodLink RX4 168 yX4_isThing, Cond.static yX4_isThing, Cond.code yX4_isThing cX4_isThing 1 (some .boolean), Cond.methodLink RX4 171 yX4_coinsOf, Cond.instanceMethod yX4_coinsOf, Cond.selects RX4 yX4_coinsOf yX4_coinsOf, Cond.code yX4_coinsOf cX4_coinsOf 2 (some .int), Cond.methodLink RX4 61 yX4_costOf, Cond.static yX4_costOf, Cond.code yX4_costOf cX4_costOf 1 (some .int), Cond.fieldLink RX4 159 "LayeredTable" "COST_OF" "[I", Cond.methodLink RX4 174 yX4_hasTarget, Cond.instanceMethod yX4_hasTarget, Cond.selects RX4 yX4_hasTarget yX4_hasTarget, Cond.code yX4_hasTarget cX4_hasTarget 3 (some .boolean), Cond.fieldLink RX4 147 "LayeredTable$Entries" "triggers" "[Z"]
def wsL_law0_r6 : List Cond := [Cond.methodLink RX4 115 yX2_has, Cond.instanceMethod yX2_has, Cond.selects RX2 yX2_has yX2_has, Cond.code yX2_has cX2_has 2 (some .boolean), Cond.fieldLink RX2 24 "LayeredTable$Things" "size" "I", Cond.methodLink RX4 140 yX0_has, Cond.instanceMethod yX0_has, Cond.selects RX0 yX0_has yX0_has, Cond.code yX0_has cX0_has 2 (some .boolean), Cond.fieldLink RX0 28 "LayeredTable$Entries" "size" "I", Cond.methodLink RX4 144 yX0_indexOf, Cond.instanceMethod yX0_indexOf, Cond.selects RX0 yX0_indexOf yX0_indexOf, Cond.code yX0_indexOf cX0_indexOf 2 (some .int), Cond.methodLink RX0 32 yX0_has, Cond.methodLink RX4 65 yX4_pay, Cond.instanceMethod yX4_pay, Cond.selects RX4 yX4_pay yX4_pay, Cond.code yX4_pay cX4_pay 3 none, Cond.methodLink RX4 69 yX4_targetId, Cond.instanceMethod yX4_targetId, Cond.selects RX4 yX4_targetId yX4_targetId, Cond.code yX4_targetId cX4_targetId 3 (some .int), Cond.fieldLink RX4 178 "LayeredTable$Things" "ids" "[I"]
def wsL_law0_r7 : List Cond := [Cond.fieldLink RX4 181 "LayeredTable$Entries" "ids" "[I", Cond.methodLink RX4 72 yX4_newId, Cond.instanceMethod yX4_newId, Cond.selects RX4 yX4_newId yX4_newId, Cond.code yX4_newId cX4_newId 2 (some .int), Cond.fieldLink RX4 165 "LayeredTable" "nextId" "I", Cond.methodLink RX4 76 yX0_push, Cond.instanceMethod yX0_push, Cond.selects RX0 yX0_push yX0_push, Cond.code yX0_push cX0_push 6 none, Cond.methodLink RX4 80 yX1_forget, Cond.instanceMethod yX1_forget, Cond.selects RX1 yX1_forget yX1_forget, Cond.code yX1_forget cX1_forget 1 none, Cond.fieldLink RX1 20 "LayeredTable$Memory" "size" "I", Cond.fieldLink RX1 24 "LayeredTable$Memory" "next" "I", Cond.methodLink RX4 86 yX4_nextPlayer, Cond.static yX4_nextPlayer, Cond.code yX4_nextPlayer cX4_nextPlayer 1 (some .int), Cond.methodLink RL 66 yX5_play, Cond.instanceMethod yX5_play, Cond.selects RX5 yX5_play yX5_play, Cond.code yX5_play cX5_play 3 (some .int), Cond.fieldLink RX5 62 "LayeredTableModel" "thrown" "I"]
def wsL_law0_r8 : List Cond := [Cond.fieldLink RX5 97 "LayeredTableModel" "acting" "I", Cond.fieldLink RX5 69 "LayeredTableModel" "height" "I", Cond.fieldLink RX5 80 "LayeredTableModel" "names" "I", Cond.fieldLink RX5 140 "LayeredTableModel" "passes" "I", Cond.fieldLink RX5 103 "LayeredTableModel" "known" "I", Cond.methodLink RX5 146 yX5_isIn, Cond.static yX5_isIn, Cond.code yX5_isIn cX5_isIn 3 (some .boolean), Cond.methodLink RX5 150 yX5_obstacleOf, Cond.instanceMethod yX5_obstacleOf, Cond.selects RX5 yX5_obstacleOf yX5_obstacleOf, Cond.code yX5_obstacleOf cX5_obstacleOf 5 (some .int), Cond.fieldLink RX5 87 "LayeredTableModel" "turn" "I", Cond.fieldLink RX5 66 "LayeredTableModel" "things" "I", Cond.methodLink RX5 143 yX5_cost, Cond.static yX5_cost, Cond.code yX5_cost cX5_cost 1 (some .int), Cond.methodLink RL 67 yX5_thrown, Cond.instanceMethod yX5_thrown, Cond.selects RX5 yX5_thrown yX5_thrown, Cond.code yX5_thrown cX5_thrown 1 (some .int), Cond.methodLink RL 71 yL_obstacle, Cond.static yL_obstacle, Cond.codeWith yL_obstacle cL_obstacle 5 (some .int) [(0, 10, 13, 13)]]
def wsL_law0_r9 : List Cond := [Cond.methodLink RL 17 yX4_obstacle, Cond.instanceMethod yX4_obstacle, Cond.selects RX4 yX4_obstacle yX4_obstacle, Cond.code yX4_obstacle cX4_obstacle 3 (some .int), Cond.methodLink RL 73 yX5_obstacle, Cond.instanceMethod yX5_obstacle, Cond.selects RX5 yX5_obstacle yX5_obstacle, Cond.code yX5_obstacle cX5_obstacle 3 (some .int), Cond.methodLink RL 74 yX4_pass, Cond.instanceMethod yX4_pass, Cond.selects RX4 yX4_pass yX4_pass, Cond.code yX4_pass cX4_pass 1 (some .int), Cond.methodLink RX4 92 yX4_resolveTop, Cond.instanceMethod yX4_resolveTop, Cond.selects RX4 yX4_resolveTop yX4_resolveTop, Cond.code yX4_resolveTop cX4_resolveTop 6 none, Cond.fieldLink RX4 143 "LayeredTable$Entries" "cards" "[I", Cond.fieldLink RX4 151 "LayeredTable$Entries" "players" "[I", Cond.fieldLink RX4 182 "LayeredTable$Entries" "targets" "[I", Cond.methodLink RX4 193 yX0_remove, Cond.instanceMethod yX0_remove, Cond.selects RX0 yX0_remove yX0_remove, Cond.code yX0_remove cX0_remove 3 none, Cond.methodLink RX4 196 yX4_triggerEffect]
def wsL_law0_r10 : List Cond := [Cond.instanceMethod yX4_triggerEffect, Cond.selects RX4 yX4_triggerEffect yX4_triggerEffect, Cond.code yX4_triggerEffect cX4_triggerEffect 3 (some .int), Cond.methodLink RX4 206 yX4_enter, Cond.instanceMethod yX4_enter, Cond.selects RX4 yX4_enter yX4_enter, Cond.code yX4_enter cX4_enter 4 (some .int), Cond.methodLink RX4 218 yX2_add, Cond.instanceMethod yX2_add, Cond.selects RX2 yX2_add yX2_add, Cond.code yX2_add cX2_add 5 (some .boolean), Cond.methodLink RX4 212 yX2_firstOf, Cond.instanceMethod yX2_firstOf, Cond.selects RX2 yX2_firstOf yX2_firstOf, Cond.code yX2_firstOf cX2_firstOf 3 (some .int), Cond.methodLink RX4 215 yX4_leave, Cond.instanceMethod yX4_leave, Cond.selects RX4 yX4_leave yX4_leave, Cond.code yX4_leave cX4_leave 2 (some .int), Cond.methodLink RX4 222 yX2_remove, Cond.instanceMethod yX2_remove, Cond.selects RX2 yX2_remove yX2_remove, Cond.code yX2_remove cX2_remove 3 (some .boolean), Cond.methodLink RX2 28 yX2_has]
def wsL_law0_r11 : List Cond := [Cond.methodLink RX4 199 yX4_cardEffect, Cond.instanceMethod yX4_cardEffect, Cond.selects RX4 yX4_cardEffect yX4_cardEffect, Cond.code yX4_cardEffect cX4_cardEffect 4 (some .int), Cond.methodLink RX4 188 yX2_placeOf, Cond.instanceMethod yX2_placeOf, Cond.selects RX2 yX2_placeOf yX2_placeOf, Cond.code yX2_placeOf cX2_placeOf 3 (some .int), Cond.methodLink RX4 209 yX4_strike, Cond.instanceMethod yX4_strike, Cond.selects RX4 yX4_strike yX4_strike, Cond.code yX4_strike cX4_strike 2 (some .int), Cond.fieldLink RX4 137 "LayeredTable$View" "strengths" "[I", Cond.methodLink RX4 127 yX3_find, Cond.instanceMethod yX3_find, Cond.selects RX3 yX3_find yX3_find, Cond.code yX3_find cX3_find 5 none, Cond.fieldLink RX3 27 "LayeredTable$Things" "size" "I", Cond.fieldLink RX3 33 "LayeredTable$Things" "cards" "[I", Cond.fieldLink RX3 36 "LayeredTable$Things" "players" "[I", Cond.methodLink RX3 39 yX3_goThrough, Cond.instanceMethod yX3_goThrough, Cond.selects RX3 yX3_goThrough yX3_goThrough, Cond.code yX3_goThrough cX3_goThrough 6 none]
def wsL_law0_r12 : List Cond := [Cond.static yX4_layerOf, Cond.code yX4_layerOf cX4_layerOf 1 (some .int), Cond.fieldLink RX4 162 "LayeredTable" "LAYER_OF" "[I", Cond.methodLink RX3 47 yX3_takes, Cond.instanceMethod yX3_takes, Cond.selects RX3 yX3_takes yX3_takes, Cond.code yX3_takes cX3_takes 5 (some .boolean), Cond.fieldLink RX3 55 "LayeredTable$Things" "ids" "[I", Cond.fieldLink RX3 58 "LayeredTable$Things" "targets" "[I", Cond.methodLink RX3 51 yX3_change, Cond.instanceMethod yX3_change, Cond.selects RX3 yX3_change yX3_change, Cond.code yX3_change cX3_change 4 none, Cond.methodLink RX4 185 yX0_placeOf, Cond.instanceMethod yX0_placeOf, Cond.selects RX0 yX0_placeOf yX0_placeOf, Cond.code yX0_placeOf cX0_placeOf 3 (some .int), Cond.methodLink RX4 189 yX4_raiseTriggers, Cond.instanceMethod yX4_raiseTriggers, Cond.selects RX4 yX4_raiseTriggers yX4_raiseTriggers, Cond.code yX4_raiseTriggers cX4_raiseTriggers 7 none, Cond.fieldLink RX4 114 "LayeredTable$Things" "size" "I", Cond.fieldLink RX4 121 "LayeredTable$Things" "cards" "[I", Cond.fieldLink RX4 131 "LayeredTable$View" "controllers" "[I"]
def wsL_law0_r13 : List Cond := [Cond.methodLink RX4 224 yX4_hasTrigger, Cond.instanceMethod yX4_hasTrigger, Cond.selects RX4 yX4_hasTrigger yX4_hasTrigger, Cond.code yX4_hasTrigger cX4_hasTrigger 4 (some .boolean), Cond.methodLink RX4 203 yX4_breakLoop, Cond.instanceMethod yX4_breakLoop, Cond.selects RX4 yX4_breakLoop yX4_breakLoop, Cond.code yX4_breakLoop cX4_breakLoop 2 none, Cond.fieldLink RX4 231 "LayeredTable$Things" "players" "[I", Cond.fieldLink RX4 232 "LayeredTable$Things" "targets" "[I", Cond.fieldLink RX4 109 "LayeredTable" "loopCount" "I", Cond.methodLink RX4 228 yX1_start, Cond.instanceMethod yX1_start, Cond.selects RX1 yX1_start yX1_start, Cond.code yX1_start cX1_start 3 none, Cond.fieldLink RX1 27 "LayeredTable$Memory" "length" "I", Cond.methodLink RX4 233 yX1_write, Cond.instanceMethod yX1_write, Cond.selects RX1 yX1_write yX1_write, Cond.code yX1_write cX1_write 5 none, Cond.methodLink RX4 154 yX4_targetPlace, Cond.instanceMethod yX4_targetPlace, Cond.selects RX4 yX4_targetPlace yX4_targetPlace, Cond.code yX4_targetPlace cX4_targetPlace 3 (some .int)]
def wsL_law0_r14 : List Cond := [Cond.methodLink RX4 237 yX1_knowsState, Cond.instanceMethod yX1_knowsState, Cond.selects RX1 yX1_knowsState yX1_knowsState, Cond.code yX1_knowsState cX1_knowsState 2 (some .boolean), Cond.methodLink RX1 30 yX1_isState, Cond.instanceMethod yX1_isState, Cond.selects RX1 yX1_isState yX1_isState, Cond.code yX1_isState cX1_isState 3 (some .boolean), Cond.methodLink RX4 241 yX1_keepState, Cond.instanceMethod yX1_keepState, Cond.selects RX1 yX1_keepState yX1_keepState, Cond.code yX1_keepState cX1_keepState 1 none, Cond.methodLink RX1 34 arraycopyName, Cond.native arraycopyName, Cond.static arraycopyName, Cond.initialized "java/lang/System", Cond.methodLink RX4 95 yX4_beginTurn, Cond.instanceMethod yX4_beginTurn, Cond.selects RX4 yX4_beginTurn yX4_beginTurn, Cond.code yX4_beginTurn cX4_beginTurn 1 none, Cond.fieldLink RX4 106 "LayeredTable" "roundCount" "I", Cond.methodLink RL 77 yX5_pass, Cond.instanceMethod yX5_pass, Cond.selects RX5 yX5_pass yX5_pass]
def wsL_law0_r15 : List Cond := [Cond.code yX5_pass cX5_pass 1 (some .int), Cond.methodLink RX5 154 yX5_resolves, Cond.instanceMethod yX5_resolves, Cond.selects RX5 yX5_resolves yX5_resolves, Cond.code yX5_resolves cX5_resolves 4 none, Cond.methodLink RX5 128 yX5_trigger, Cond.instanceMethod yX5_trigger, Cond.selects RX5 yX5_trigger yX5_trigger, Cond.code yX5_trigger cX5_trigger 3 none, Cond.methodLink RX5 106 yX5_enters, Cond.instanceMethod yX5_enters, Cond.selects RX5 yX5_enters yX5_enters, Cond.code yX5_enters cX5_enters 4 none, Cond.methodLink RX5 93 yX5_triggersOf, Cond.instanceMethod yX5_triggersOf, Cond.selects RX5 yX5_triggersOf yX5_triggersOf, Cond.code yX5_triggersOf cX5_triggersOf 7 none, Cond.methodLink RX5 83 yX5_lays, Cond.instanceMethod yX5_lays, Cond.selects RX5 yX5_lays yX5_lays, Cond.code yX5_lays cX5_lays 4 none, Cond.methodLink RX5 76 yX5_layer, Cond.instanceMethod yX5_layer, Cond.selects RX5 yX5_layer yX5_layer]
def wsL_law0_r16 : List Cond := [Cond.code yX5_layer cX5_layer 7 none, Cond.methodLink RX5 72 yX5_thingOf, Cond.instanceMethod yX5_thingOf, Cond.selects RX5 yX5_thingOf yX5_thingOf, Cond.code yX5_thingOf cX5_thingOf 4 (some .int), Cond.methodLink RX5 90 yX5_triggers, Cond.instanceMethod yX5_triggers, Cond.selects RX5 yX5_triggers yX5_triggers, Cond.code yX5_triggers cX5_triggers 3 none, Cond.methodLink RX5 109 yX5_firstBeast, Cond.instanceMethod yX5_firstBeast, Cond.selects RX5 yX5_firstBeast yX5_firstBeast, Cond.code yX5_firstBeast cX5_firstBeast 3 (some .int), Cond.methodLink RX5 113 yX5_leaves, Cond.instanceMethod yX5_leaves, Cond.selects RX5 yX5_leaves yX5_leaves, Cond.code yX5_leaves cX5_leaves 3 none, Cond.methodLink RX5 131 yX5_strikes, Cond.instanceMethod yX5_strikes, Cond.selects RX5 yX5_strikes yX5_strikes, Cond.code yX5_strikes cX5_strikes 3 none, Cond.methodLink RX5 116 yX5_entryOf, Cond.instanceMethod yX5_entryOf, Cond.selects RX5 yX5_entryOf yX5_entryOf]
def wsL_law0_r17 : List Cond := [Cond.code yX5_entryOf cX5_entryOf 4 (some .int), Cond.methodLink RX5 134 yX5_removes, Cond.instanceMethod yX5_removes, Cond.selects RX5 yX5_removes yX5_removes, Cond.code yX5_removes cX5_removes 3 none, Cond.methodLink RX5 137 yX5_remembers, Cond.instanceMethod yX5_remembers, Cond.selects RX5 yX5_remembers yX5_remembers, Cond.code yX5_remembers cX5_remembers 5 none, Cond.fieldLink RX5 125 "LayeredTableModel" "loops" "I", Cond.methodLink RX5 122 yX5_laysState, Cond.instanceMethod yX5_laysState, Cond.selects RX5 yX5_laysState yX5_laysState, Cond.code yX5_laysState cX5_laysState 3 none, Cond.methodLink RX5 119 yX5_targetOf, Cond.instanceMethod yX5_targetOf, Cond.selects RX5 yX5_targetOf yX5_targetOf, Cond.code yX5_targetOf cX5_targetOf 3 (some .int), Cond.methodLink RX5 157 yX5_begins, Cond.instanceMethod yX5_begins, Cond.selects RX5 yX5_begins yX5_begins, Cond.code yX5_begins cX5_begins 2 none, Cond.fieldLink RX5 100 "LayeredTableModel" "rounds" "I", Cond.methodLink RL 78 yL_settle]
def wsL_law0_r18 : List Cond := [Cond.static yL_settle, Cond.codeWith yL_settle cL_settle 4 (some .int) [(0, 9, 12, 24)], Cond.classLink RL 24 "java/lang/IllegalArgumentException", Cond.methodLink RL 20 yX4_settle, Cond.instanceMethod yX4_settle, Cond.selects RX4 yX4_settle yX4_settle, Cond.code yX4_settle cX4_settle 3 (some .int), Cond.classLink RX4 98 "java/lang/IllegalArgumentException", Cond.initialized "java/lang/IllegalArgumentException", Cond.methodLink RL 81 yX5_settle, Cond.instanceMethod yX5_settle, Cond.selects RX5 yX5_settle yX5_settle, Cond.code yX5_settle cX5_settle 3 (some .int), Cond.methodLink RL 82 yX4_turn, Cond.instanceMethod yX4_turn, Cond.selects RX4 yX4_turn yX4_turn, Cond.code yX4_turn cX4_turn 1 (some .int), Cond.methodLink RL 85 yX5_turn, Cond.instanceMethod yX5_turn, Cond.selects RX5 yX5_turn yX5_turn, Cond.code yX5_turn cX5_turn 1 (some .int), Cond.methodLink RL 86 yX4_acting, Cond.instanceMethod yX4_acting, Cond.selects RX4 yX4_acting yX4_acting]
def wsL_law0_r19 : List Cond := [Cond.code yX4_acting cX4_acting 1 (some .int), Cond.methodLink RL 89 yX5_acting, Cond.instanceMethod yX5_acting, Cond.selects RX5 yX5_acting yX5_acting, Cond.code yX5_acting cX5_acting 1 (some .int), Cond.methodLink RL 90 yX4_rounds, Cond.instanceMethod yX4_rounds, Cond.selects RX4 yX4_rounds yX4_rounds, Cond.code yX4_rounds cX4_rounds 1 (some .int), Cond.methodLink RL 93 yX5_rounds, Cond.instanceMethod yX5_rounds, Cond.selects RX5 yX5_rounds yX5_rounds, Cond.code yX5_rounds cX5_rounds 1 (some .int), Cond.methodLink RL 94 yX4_loops, Cond.instanceMethod yX4_loops, Cond.selects RX4 yX4_loops yX4_loops, Cond.code yX4_loops cX4_loops 1 (some .int), Cond.methodLink RL 97 yX5_loops, Cond.instanceMethod yX5_loops, Cond.selects RX5 yX5_loops yX5_loops, Cond.code yX5_loops cX5_loops 1 (some .int), Cond.methodLink RL 98 yL_coins, Cond.static yL_coins, Cond.codeWith yL_coins cL_coins 4 (some .int) [(0, 9, 12, 13)]]
def wsL_law0_r20 : List Cond := [Cond.methodLink RL 26 yX4_coins, Cond.instanceMethod yX4_coins, Cond.selects RX4 yX4_coins yX4_coins, Cond.code yX4_coins cX4_coins 2 (some .int), Cond.methodLink RL 100 yX5_coins, Cond.instanceMethod yX5_coins, Cond.selects RX5 yX5_coins yX5_coins, Cond.code yX5_coins cX5_coins 2 (some .int), Cond.methodLink RL 101 yX4_things, Cond.instanceMethod yX4_things, Cond.selects RX4 yX4_things yX4_things, Cond.code yX4_things cX4_things 1 (some .int), Cond.methodLink RL 104 yX5_things, Cond.instanceMethod yX5_things, Cond.selects RX5 yX5_things yX5_things, Cond.code yX5_things cX5_things 1 (some .int), Cond.methodLink RL 105 yL_cardOf, Cond.static yL_cardOf, Cond.codeWith yL_cardOf cL_cardOf 4 (some .int) [(0, 9, 12, 13)], Cond.methodLink RL 29 yX4_cardOf, Cond.instanceMethod yX4_cardOf, Cond.selects RX4 yX4_cardOf yX4_cardOf, Cond.code yX4_cardOf cX4_cardOf 2 (some .int), Cond.methodLink RL 107 yX5_cardOf]
def wsL_law0_r21 : List Cond := [Cond.instanceMethod yX5_cardOf, Cond.selects RX5 yX5_cardOf yX5_cardOf, Cond.code yX5_cardOf cX5_cardOf 2 (some .int), Cond.methodLink RL 108 yL_controllerOf, Cond.static yL_controllerOf, Cond.codeWith yL_controllerOf cL_controllerOf 5 (some .int) [(0, 10, 13, 13), (0, 10, 17, 24)], Cond.methodLink RL 32 yX4_controllerOf, Cond.instanceMethod yX4_controllerOf, Cond.selects RX4 yX4_controllerOf yX4_controllerOf, Cond.code yX4_controllerOf cX4_controllerOf 3 (some .int), Cond.methodLink RX4 124 yX4_requireThingAndLayer, Cond.instanceMethod yX4_requireThingAndLayer, Cond.selects RX4 yX4_requireThingAndLayer yX4_requireThingAndLayer, Cond.code yX4_requireThingAndLayer cX4_requireThingAndLayer 3 none, Cond.methodLink RL 110 yX5_controllerOf, Cond.instanceMethod yX5_controllerOf, Cond.selects RX5 yX5_controllerOf yX5_controllerOf, Cond.code yX5_controllerOf cX5_controllerOf 3 (some .int), Cond.methodLink RX5 160 yX5_isLaid, Cond.instanceMethod yX5_isLaid, Cond.selects RX5 yX5_isLaid yX5_isLaid, Cond.code yX5_isLaid cX5_isLaid 3 (some .boolean), Cond.methodLink RL 111 yL_kindsOf, Cond.static yL_kindsOf]
def wsL_law0_r22 : List Cond := [Cond.codeWith yL_kindsOf cL_kindsOf 5 (some .int) [(0, 10, 13, 13), (0, 10, 17, 24)], Cond.methodLink RL 35 yX4_kindsOf, Cond.instanceMethod yX4_kindsOf, Cond.selects RX4 yX4_kindsOf yX4_kindsOf, Cond.code yX4_kindsOf cX4_kindsOf 3 (some .int), Cond.fieldLink RX4 134 "LayeredTable$View" "kinds" "[I", Cond.methodLink RL 113 yX5_kindsOf, Cond.instanceMethod yX5_kindsOf, Cond.selects RX5 yX5_kindsOf yX5_kindsOf, Cond.code yX5_kindsOf cX5_kindsOf 3 (some .int), Cond.methodLink RL 114 yL_strengthOf, Cond.static yL_strengthOf, Cond.codeWith yL_strengthOf cL_strengthOf 5 (some .int) [(0, 10, 13, 13), (0, 10, 17, 24)], Cond.methodLink RL 38 yX4_strengthOf, Cond.instanceMethod yX4_strengthOf, Cond.selects RX4 yX4_strengthOf yX4_strengthOf, Cond.code yX4_strengthOf cX4_strengthOf 3 (some .int), Cond.methodLink RL 116 yX5_strengthOf, Cond.instanceMethod yX5_strengthOf, Cond.selects RX5 yX5_strengthOf yX5_strengthOf, Cond.code yX5_strengthOf cX5_strengthOf 3 (some .int), Cond.methodLink RL 117 yL_power, Cond.static yL_power, Cond.codeWith yL_power cL_power 4 (some .int) [(0, 9, 12, 13)]]
def wsL_law0_r23 : List Cond := [Cond.methodLink RL 41 yX4_power, Cond.instanceMethod yX4_power, Cond.selects RX4 yX4_power yX4_power, Cond.code yX4_power cX4_power 4 (some .int), Cond.methodLink RL 119 yX5_power, Cond.instanceMethod yX5_power, Cond.selects RX5 yX5_power yX5_power, Cond.code yX5_power cX5_power 4 (some .int), Cond.methodLink RL 120 yX4_stack, Cond.instanceMethod yX4_stack, Cond.selects RX4 yX4_stack yX4_stack, Cond.code yX4_stack cX4_stack 1 (some .int), Cond.methodLink RL 123 yX5_stack, Cond.instanceMethod yX5_stack, Cond.selects RX5 yX5_stack yX5_stack, Cond.code yX5_stack cX5_stack 1 (some .int), Cond.methodLink RL 124 yL_entryCard, Cond.static yL_entryCard, Cond.codeWith yL_entryCard cL_entryCard 4 (some .int) [(0, 9, 12, 13)], Cond.methodLink RL 44 yX4_entryCard, Cond.instanceMethod yX4_entryCard, Cond.selects RX4 yX4_entryCard yX4_entryCard, Cond.code yX4_entryCard cX4_entryCard 2 (some .int), Cond.methodLink RL 126 yX5_entryCard]
def wsL_law0_r24 : List Cond := [Cond.instanceMethod yX5_entryCard, Cond.selects RX5 yX5_entryCard yX5_entryCard, Cond.code yX5_entryCard cX5_entryCard 2 (some .int), Cond.methodLink RX5 164 yX5_isEntry, Cond.instanceMethod yX5_isEntry, Cond.selects RX5 yX5_isEntry yX5_isEntry, Cond.code yX5_isEntry cX5_isEntry 2 (some .boolean), Cond.methodLink RL 127 yL_isTrigger, Cond.static yL_isTrigger, Cond.codeWith yL_isTrigger cL_isTrigger 4 (some .int) [(0, 16, 19, 13)], Cond.methodLink RL 47 yX4_isTrigger, Cond.instanceMethod yX4_isTrigger, Cond.selects RX4 yX4_isTrigger yX4_isTrigger, Cond.code yX4_isTrigger cX4_isTrigger 2 (some .boolean), Cond.methodLink RL 129 yX5_isTrigger, Cond.instanceMethod yX5_isTrigger, Cond.selects RX5 yX5_isTrigger yX5_isTrigger, Cond.code yX5_isTrigger cX5_isTrigger 2 (some .boolean), Cond.methodLink RL 130 yL_entryPlayer, Cond.static yL_entryPlayer, Cond.codeWith yL_entryPlayer cL_entryPlayer 4 (some .int) [(0, 9, 12, 13)], Cond.methodLink RL 51 yX4_entryPlayer, Cond.instanceMethod yX4_entryPlayer, Cond.selects RX4 yX4_entryPlayer yX4_entryPlayer]
def wsL_law0_r25 : List Cond := [Cond.code yX4_entryPlayer cX4_entryPlayer 2 (some .int), Cond.methodLink RL 132 yX5_entryPlayer, Cond.instanceMethod yX5_entryPlayer, Cond.selects RX5 yX5_entryPlayer yX5_entryPlayer, Cond.code yX5_entryPlayer cX5_entryPlayer 2 (some .int), Cond.methodLink RL 133 yL_entryTarget, Cond.static yL_entryTarget, Cond.codeWith yL_entryTarget cL_entryTarget 4 (some .int) [(0, 9, 12, 13)], Cond.methodLink RL 54 yX4_entryTarget, Cond.instanceMethod yX4_entryTarget, Cond.selects RX4 yX4_entryTarget yX4_entryTarget, Cond.code yX4_entryTarget cX4_entryTarget 2 (some .int), Cond.methodLink RL 135 yX5_entryTarget, Cond.instanceMethod yX5_entryTarget, Cond.selects RX5 yX5_entryTarget yX5_entryTarget, Cond.code yX5_entryTarget cX5_entryTarget 2 (some .int)]
def wsL_law0 : List Cond := (wsL_law0_r1 ++ (wsL_law0_r2 ++ (wsL_law0_r3 ++ (wsL_law0_r4 ++ (wsL_law0_r5 ++ (wsL_law0_r6 ++ (wsL_law0_r7 ++ (wsL_law0_r8 ++ (wsL_law0_r9 ++ (wsL_law0_r10 ++ (wsL_law0_r11 ++ (wsL_law0_r12 ++ (wsL_law0_r13 ++ (wsL_law0_r14 ++ (wsL_law0_r15 ++ (wsL_law0_r16 ++ (wsL_law0_r17 ++ (wsL_law0_r18 ++ (wsL_law0_r19 ++ (wsL_law0_r20 ++ (wsL_law0_r21 ++ (wsL_law0_r22 ++ (wsL_law0_r23 ++ (wsL_law0_r24 ++ wsL_law0_r25)))))))))))))))))))))))) ++ wsX40 ++ wsX50 ++ wsX20 ++ wsX00 ++ wsX30 ++ wsX10 ++ ([] : List Cond)
def wsL_law : List Cond := wsL_law0 ++ (vx_atS RX4 45 "java/lang/IndexOutOfBoundsException" ["java/lang/RuntimeException", "java/lang/Exception"]).filter goodWord ++ (vx_atS RX4 56 "java/lang/IllegalStateException" ["java/lang/RuntimeException", "java/lang/Exception"]).filter goodWord ++ (vx_atS RX4 102 "java/lang/IllegalArgumentException" ["java/lang/RuntimeException", "java/lang/Exception"]).filter goodWord
abbrev vwCl : List vw_C := [(RX0, TX0, 6), (RX1, TX1, 5), (RX2, TX2, 5), (RX3, TX3, 5), (RX4, TX4, 11), (RX5, TX5, 27)]
end
section
theorem dX0_init_0 : decode cX0_init 0 = .ok (.aload_n 0, 1) := by decide +kernel
theorem dX0_init_1 : decode cX0_init 1 = .ok (.invokespecial 3, 3) := by decide +kernel
theorem dX0_init_4 : decode cX0_init 4 = .ok (.aload_n 0, 1) := by decide +kernel
theorem dX0_init_5 : decode cX0_init 5 = .ok (.bipush 12, 2) := by decide +kernel
theorem dX0_init_7 : decode cX0_init 7 = .ok (.newarray .int, 2) := by decide +kernel
theorem dX0_init_9 : decode cX0_init 9 = .ok (.putfield 9, 3) := by decide +kernel
theorem dX0_init_12 : decode cX0_init 12 = .ok (.aload_n 0, 1) := by decide +kernel
theorem dX0_init_13 : decode cX0_init 13 = .ok (.bipush 12, 2) := by decide +kernel
theorem dX0_init_15 : decode cX0_init 15 = .ok (.newarray .boolean, 2) := by decide +kernel
theorem dX0_init_17 : decode cX0_init 17 = .ok (.putfield 15, 3) := by decide +kernel
theorem dX0_init_20 : decode cX0_init 20 = .ok (.aload_n 0, 1) := by decide +kernel
theorem dX0_init_21 : decode cX0_init 21 = .ok (.bipush 12, 2) := by decide +kernel
theorem dX0_init_23 : decode cX0_init 23 = .ok (.newarray .int, 2) := by decide +kernel
theorem dX0_init_25 : decode cX0_init 25 = .ok (.putfield 19, 3) := by decide +kernel
theorem dX0_init_28 : decode cX0_init 28 = .ok (.aload_n 0, 1) := by decide +kernel
theorem dX0_init_29 : decode cX0_init 29 = .ok (.bipush 12, 2) := by decide +kernel
theorem dX0_init_31 : decode cX0_init 31 = .ok (.newarray .int, 2) := by decide +kernel
theorem dX0_init_33 : decode cX0_init 33 = .ok (.putfield 22, 3) := by decide +kernel
theorem dX0_init_36 : decode cX0_init 36 = .ok (.aload_n 0, 1) := by decide +kernel
theorem dX0_init_37 : decode cX0_init 37 = .ok (.bipush 12, 2) := by decide +kernel
theorem dX0_init_39 : decode cX0_init 39 = .ok (.newarray .int, 2) := by decide +kernel
theorem dX0_init_41 : decode cX0_init 41 = .ok (.putfield 25, 3) := by decide +kernel
theorem dX0_init_44 : decode cX0_init 44 = .ok (.return_, 1) := by decide +kernel
theorem dX0_has_0 : decode cX0_has 0 = .ok (.iload_n 1, 1) := by decide +kernel
theorem dX0_has_1 : decode cX0_has 1 = .ok (.ifCond .lt 15, 3) := by decide +kernel
theorem dX0_has_4 : decode cX0_has 4 = .ok (.iload_n 1, 1) := by decide +kernel
theorem dX0_has_5 : decode cX0_has 5 = .ok (.aload_n 0, 1) := by decide +kernel
theorem dX0_has_6 : decode cX0_has 6 = .ok (.getfield 28, 3) := by decide +kernel
theorem dX0_has_9 : decode cX0_has 9 = .ok (.if_icmp .ge 7, 3) := by decide +kernel
theorem dX0_has_12 : decode cX0_has 12 = .ok (.iconst 1, 1) := by decide +kernel
theorem dX0_has_13 : decode cX0_has 13 = .ok (.goto 4, 3) := by decide +kernel
theorem dX0_has_16 : decode cX0_has 16 = .ok (.iconst 0, 1) := by decide +kernel
theorem dX0_has_17 : decode cX0_has 17 = .ok (.ireturn, 1) := by decide +kernel
set_option maxRecDepth 20000 in
theorem ggX0_indexOf_X0_has : GoodIn wsX0_indexOf wsX0_has := goodIn_r _ [6, 1, 7, 8, 9, 10, 11, 12] (by decide +kernel) (by decide +kernel)
set_option maxRecDepth 20000 in
theorem gX0_indexOf_X0_has : GoodIn wsX0_indexOf (wsV RX0 32 RX0 yX0_has wsX0_has) := goodIn_app (goodIn_of _ (by decide +kernel)) ggX0_indexOf_X0_has
theorem dX0_indexOf_0 : decode cX0_indexOf 0 = .ok (.aload_n 0, 1) := by decide +kernel
theorem dX0_indexOf_1 : decode cX0_indexOf 1 = .ok (.iload_n 1, 1) := by decide +kernel
theorem dX0_indexOf_2 : decode cX0_indexOf 2 = .ok (.invokevirtual 32, 3) := by decide +kernel
theorem dX0_indexOf_5 : decode cX0_indexOf 5 = .ok (.ifCond .eq 14, 3) := by decide +kernel
theorem dX0_indexOf_8 : decode cX0_indexOf 8 = .ok (.aload_n 0, 1) := by decide +kernel
theorem dX0_indexOf_9 : decode cX0_indexOf 9 = .ok (.getfield 28, 3) := by decide +kernel
theorem dX0_indexOf_12 : decode cX0_indexOf 12 = .ok (.iconst 1, 1) := by decide +kernel
theorem dX0_indexOf_13 : decode cX0_indexOf 13 = .ok (.isub, 1) := by decide +kernel
theorem dX0_indexOf_14 : decode cX0_indexOf 14 = .ok (.iload_n 1, 1) := by decide +kernel
theorem dX0_indexOf_15 : decode cX0_indexOf 15 = .ok (.isub, 1) := by decide +kernel
theorem dX0_indexOf_16 : decode cX0_indexOf 16 = .ok (.goto 4, 3) := by decide +kernel
theorem dX0_indexOf_19 : decode cX0_indexOf 19 = .ok (.iconst (-1), 1) := by decide +kernel
theorem dX0_indexOf_20 : decode cX0_indexOf 20 = .ok (.ireturn, 1) := by decide +kernel
theorem dX0_push_0 : decode cX0_push 0 = .ok (.aload_n 0, 1) := by decide +kernel
theorem dX0_push_1 : decode cX0_push 1 = .ok (.getfield 28, 3) := by decide +kernel
theorem dX0_push_4 : decode cX0_push 4 = .ok (.bipush 12, 2) := by decide +kernel
theorem dX0_push_6 : decode cX0_push 6 = .ok (.if_icmp .lt 4, 3) := by decide +kernel
theorem dX0_push_9 : decode cX0_push 9 = .ok (.return_, 1) := by decide +kernel
theorem dX0_push_10 : decode cX0_push 10 = .ok (.aload_n 0, 1) := by decide +kernel
theorem dX0_push_11 : decode cX0_push 11 = .ok (.getfield 9, 3) := by decide +kernel
theorem dX0_push_14 : decode cX0_push 14 = .ok (.aload_n 0, 1) := by decide +kernel
theorem dX0_push_15 : decode cX0_push 15 = .ok (.getfield 28, 3) := by decide +kernel
theorem dX0_push_18 : decode cX0_push 18 = .ok (.iload_n 1, 1) := by decide +kernel
theorem dX0_push_19 : decode cX0_push 19 = .ok (.iastore, 1) := by decide +kernel
theorem dX0_push_20 : decode cX0_push 20 = .ok (.aload_n 0, 1) := by decide +kernel
theorem dX0_push_21 : decode cX0_push 21 = .ok (.getfield 15, 3) := by decide +kernel
theorem dX0_push_24 : decode cX0_push 24 = .ok (.aload_n 0, 1) := by decide +kernel
theorem dX0_push_25 : decode cX0_push 25 = .ok (.getfield 28, 3) := by decide +kernel
theorem dX0_push_28 : decode cX0_push 28 = .ok (.iload_n 2, 1) := by decide +kernel
theorem dX0_push_29 : decode cX0_push 29 = .ok (.bastore, 1) := by decide +kernel
theorem dX0_push_30 : decode cX0_push 30 = .ok (.aload_n 0, 1) := by decide +kernel
theorem dX0_push_31 : decode cX0_push 31 = .ok (.getfield 19, 3) := by decide +kernel
theorem dX0_push_34 : decode cX0_push 34 = .ok (.aload_n 0, 1) := by decide +kernel
theorem dX0_push_35 : decode cX0_push 35 = .ok (.getfield 28, 3) := by decide +kernel
theorem dX0_push_38 : decode cX0_push 38 = .ok (.iload_n 3, 1) := by decide +kernel
theorem dX0_push_39 : decode cX0_push 39 = .ok (.iastore, 1) := by decide +kernel
theorem dX0_push_40 : decode cX0_push 40 = .ok (.aload_n 0, 1) := by decide +kernel
theorem dX0_push_41 : decode cX0_push 41 = .ok (.getfield 22, 3) := by decide +kernel
theorem dX0_push_44 : decode cX0_push 44 = .ok (.aload_n 0, 1) := by decide +kernel
theorem dX0_push_45 : decode cX0_push 45 = .ok (.getfield 28, 3) := by decide +kernel
theorem dX0_push_48 : decode cX0_push 48 = .ok (.iload 4, 2) := by decide +kernel
theorem dX0_push_50 : decode cX0_push 50 = .ok (.iastore, 1) := by decide +kernel
theorem dX0_push_51 : decode cX0_push 51 = .ok (.aload_n 0, 1) := by decide +kernel
theorem dX0_push_52 : decode cX0_push 52 = .ok (.getfield 25, 3) := by decide +kernel
theorem dX0_push_55 : decode cX0_push 55 = .ok (.aload_n 0, 1) := by decide +kernel
theorem dX0_push_56 : decode cX0_push 56 = .ok (.getfield 28, 3) := by decide +kernel
theorem dX0_push_59 : decode cX0_push 59 = .ok (.iload 5, 2) := by decide +kernel
theorem dX0_push_61 : decode cX0_push 61 = .ok (.iastore, 1) := by decide +kernel
theorem dX0_push_62 : decode cX0_push 62 = .ok (.aload_n 0, 1) := by decide +kernel
theorem dX0_push_63 : decode cX0_push 63 = .ok (.dup, 1) := by decide +kernel
theorem dX0_push_64 : decode cX0_push 64 = .ok (.getfield 28, 3) := by decide +kernel
theorem dX0_push_67 : decode cX0_push 67 = .ok (.iconst 1, 1) := by decide +kernel
theorem dX0_push_68 : decode cX0_push 68 = .ok (.iadd, 1) := by decide +kernel
theorem dX0_push_69 : decode cX0_push 69 = .ok (.putfield 28, 3) := by decide +kernel
theorem dX0_push_72 : decode cX0_push 72 = .ok (.return_, 1) := by decide +kernel
theorem dX0_remove_0 : decode cX0_remove 0 = .ok (.iload_n 1, 1) := by decide +kernel
theorem dX0_remove_1 : decode cX0_remove 1 = .ok (.ifCond .lt 11, 3) := by decide +kernel
theorem dX0_remove_4 : decode cX0_remove 4 = .ok (.iload_n 1, 1) := by decide +kernel
theorem dX0_remove_5 : decode cX0_remove 5 = .ok (.aload_n 0, 1) := by decide +kernel
theorem dX0_remove_6 : decode cX0_remove 6 = .ok (.getfield 28, 3) := by decide +kernel
theorem dX0_remove_9 : decode cX0_remove 9 = .ok (.if_icmp .lt 4, 3) := by decide +kernel
theorem dX0_remove_12 : decode cX0_remove 12 = .ok (.return_, 1) := by decide +kernel
theorem dX0_remove_13 : decode cX0_remove 13 = .ok (.aload_n 0, 1) := by decide +kernel
theorem dX0_remove_14 : decode cX0_remove 14 = .ok (.dup, 1) := by decide +kernel
theorem dX0_remove_15 : decode cX0_remove 15 = .ok (.getfield 28, 3) := by decide +kernel
theorem dX0_remove_18 : decode cX0_remove 18 = .ok (.iconst 1, 1) := by decide +kernel
theorem dX0_remove_19 : decode cX0_remove 19 = .ok (.isub, 1) := by decide +kernel
theorem dX0_remove_20 : decode cX0_remove 20 = .ok (.putfield 28, 3) := by decide +kernel
theorem dX0_remove_23 : decode cX0_remove 23 = .ok (.iload_n 1, 1) := by decide +kernel
theorem dX0_remove_24 : decode cX0_remove 24 = .ok (.istore_n 2, 1) := by decide +kernel
theorem dX0_remove_25 : decode cX0_remove 25 = .ok (.iload_n 2, 1) := by decide +kernel
theorem dX0_remove_26 : decode cX0_remove 26 = .ok (.aload_n 0, 1) := by decide +kernel
theorem dX0_remove_27 : decode cX0_remove 27 = .ok (.getfield 28, 3) := by decide +kernel
theorem dX0_remove_30 : decode cX0_remove 30 = .ok (.if_icmp .ge 79, 3) := by decide +kernel
theorem dX0_remove_33 : decode cX0_remove 33 = .ok (.aload_n 0, 1) := by decide +kernel
theorem dX0_remove_34 : decode cX0_remove 34 = .ok (.getfield 9, 3) := by decide +kernel
theorem dX0_remove_37 : decode cX0_remove 37 = .ok (.iload_n 2, 1) := by decide +kernel
theorem dX0_remove_38 : decode cX0_remove 38 = .ok (.aload_n 0, 1) := by decide +kernel
theorem dX0_remove_39 : decode cX0_remove 39 = .ok (.getfield 9, 3) := by decide +kernel
theorem dX0_remove_42 : decode cX0_remove 42 = .ok (.iload_n 2, 1) := by decide +kernel
theorem dX0_remove_43 : decode cX0_remove 43 = .ok (.iconst 1, 1) := by decide +kernel
theorem dX0_remove_44 : decode cX0_remove 44 = .ok (.iadd, 1) := by decide +kernel
theorem dX0_remove_45 : decode cX0_remove 45 = .ok (.iaload, 1) := by decide +kernel
theorem dX0_remove_46 : decode cX0_remove 46 = .ok (.iastore, 1) := by decide +kernel
theorem dX0_remove_47 : decode cX0_remove 47 = .ok (.aload_n 0, 1) := by decide +kernel
theorem dX0_remove_48 : decode cX0_remove 48 = .ok (.getfield 15, 3) := by decide +kernel
theorem dX0_remove_51 : decode cX0_remove 51 = .ok (.iload_n 2, 1) := by decide +kernel
theorem dX0_remove_52 : decode cX0_remove 52 = .ok (.aload_n 0, 1) := by decide +kernel
theorem dX0_remove_53 : decode cX0_remove 53 = .ok (.getfield 15, 3) := by decide +kernel
theorem dX0_remove_56 : decode cX0_remove 56 = .ok (.iload_n 2, 1) := by decide +kernel
theorem dX0_remove_57 : decode cX0_remove 57 = .ok (.iconst 1, 1) := by decide +kernel
theorem dX0_remove_58 : decode cX0_remove 58 = .ok (.iadd, 1) := by decide +kernel
theorem dX0_remove_59 : decode cX0_remove 59 = .ok (.baload, 1) := by decide +kernel
theorem dX0_remove_60 : decode cX0_remove 60 = .ok (.bastore, 1) := by decide +kernel
theorem dX0_remove_61 : decode cX0_remove 61 = .ok (.aload_n 0, 1) := by decide +kernel
theorem dX0_remove_62 : decode cX0_remove 62 = .ok (.getfield 19, 3) := by decide +kernel
theorem dX0_remove_65 : decode cX0_remove 65 = .ok (.iload_n 2, 1) := by decide +kernel
theorem dX0_remove_66 : decode cX0_remove 66 = .ok (.aload_n 0, 1) := by decide +kernel
theorem dX0_remove_67 : decode cX0_remove 67 = .ok (.getfield 19, 3) := by decide +kernel
theorem dX0_remove_70 : decode cX0_remove 70 = .ok (.iload_n 2, 1) := by decide +kernel
theorem dX0_remove_71 : decode cX0_remove 71 = .ok (.iconst 1, 1) := by decide +kernel
theorem dX0_remove_72 : decode cX0_remove 72 = .ok (.iadd, 1) := by decide +kernel
theorem dX0_remove_73 : decode cX0_remove 73 = .ok (.iaload, 1) := by decide +kernel
theorem dX0_remove_74 : decode cX0_remove 74 = .ok (.iastore, 1) := by decide +kernel
theorem dX0_remove_75 : decode cX0_remove 75 = .ok (.aload_n 0, 1) := by decide +kernel
theorem dX0_remove_76 : decode cX0_remove 76 = .ok (.getfield 22, 3) := by decide +kernel
theorem dX0_remove_79 : decode cX0_remove 79 = .ok (.iload_n 2, 1) := by decide +kernel
theorem dX0_remove_80 : decode cX0_remove 80 = .ok (.aload_n 0, 1) := by decide +kernel
theorem dX0_remove_81 : decode cX0_remove 81 = .ok (.getfield 22, 3) := by decide +kernel
theorem dX0_remove_84 : decode cX0_remove 84 = .ok (.iload_n 2, 1) := by decide +kernel
theorem dX0_remove_85 : decode cX0_remove 85 = .ok (.iconst 1, 1) := by decide +kernel
theorem dX0_remove_86 : decode cX0_remove 86 = .ok (.iadd, 1) := by decide +kernel
theorem dX0_remove_87 : decode cX0_remove 87 = .ok (.iaload, 1) := by decide +kernel
theorem dX0_remove_88 : decode cX0_remove 88 = .ok (.iastore, 1) := by decide +kernel
theorem dX0_remove_89 : decode cX0_remove 89 = .ok (.aload_n 0, 1) := by decide +kernel
theorem dX0_remove_90 : decode cX0_remove 90 = .ok (.getfield 25, 3) := by decide +kernel
theorem dX0_remove_93 : decode cX0_remove 93 = .ok (.iload_n 2, 1) := by decide +kernel
theorem dX0_remove_94 : decode cX0_remove 94 = .ok (.aload_n 0, 1) := by decide +kernel
theorem dX0_remove_95 : decode cX0_remove 95 = .ok (.getfield 25, 3) := by decide +kernel
theorem dX0_remove_98 : decode cX0_remove 98 = .ok (.iload_n 2, 1) := by decide +kernel
theorem dX0_remove_99 : decode cX0_remove 99 = .ok (.iconst 1, 1) := by decide +kernel
theorem dX0_remove_100 : decode cX0_remove 100 = .ok (.iadd, 1) := by decide +kernel
theorem dX0_remove_101 : decode cX0_remove 101 = .ok (.iaload, 1) := by decide +kernel
theorem dX0_remove_102 : decode cX0_remove 102 = .ok (.iastore, 1) := by decide +kernel
theorem dX0_remove_103 : decode cX0_remove 103 = .ok (.iinc 2 1, 3) := by decide +kernel
theorem dX0_remove_106 : decode cX0_remove 106 = .ok (.goto (-81), 3) := by decide +kernel
theorem dX0_remove_109 : decode cX0_remove 109 = .ok (.return_, 1) := by decide +kernel
theorem dX0_placeOf_0 : decode cX0_placeOf 0 = .ok (.iconst 0, 1) := by decide +kernel
theorem dX0_placeOf_1 : decode cX0_placeOf 1 = .ok (.istore_n 2, 1) := by decide +kernel
theorem dX0_placeOf_2 : decode cX0_placeOf 2 = .ok (.iload_n 2, 1) := by decide +kernel
theorem dX0_placeOf_3 : decode cX0_placeOf 3 = .ok (.aload_n 0, 1) := by decide +kernel
theorem dX0_placeOf_4 : decode cX0_placeOf 4 = .ok (.getfield 28, 3) := by decide +kernel
theorem dX0_placeOf_7 : decode cX0_placeOf 7 = .ok (.if_icmp .ge 28, 3) := by decide +kernel
theorem dX0_placeOf_10 : decode cX0_placeOf 10 = .ok (.aload_n 0, 1) := by decide +kernel
theorem dX0_placeOf_11 : decode cX0_placeOf 11 = .ok (.getfield 25, 3) := by decide +kernel
theorem dX0_placeOf_14 : decode cX0_placeOf 14 = .ok (.iload_n 2, 1) := by decide +kernel
theorem dX0_placeOf_15 : decode cX0_placeOf 15 = .ok (.iaload, 1) := by decide +kernel
theorem dX0_placeOf_16 : decode cX0_placeOf 16 = .ok (.iload_n 1, 1) := by decide +kernel
theorem dX0_placeOf_17 : decode cX0_placeOf 17 = .ok (.if_icmp .ne 12, 3) := by decide +kernel
theorem dX0_placeOf_20 : decode cX0_placeOf 20 = .ok (.aload_n 0, 1) := by decide +kernel
theorem dX0_placeOf_21 : decode cX0_placeOf 21 = .ok (.getfield 28, 3) := by decide +kernel
theorem dX0_placeOf_24 : decode cX0_placeOf 24 = .ok (.iconst 1, 1) := by decide +kernel
theorem dX0_placeOf_25 : decode cX0_placeOf 25 = .ok (.isub, 1) := by decide +kernel
theorem dX0_placeOf_26 : decode cX0_placeOf 26 = .ok (.iload_n 2, 1) := by decide +kernel
theorem dX0_placeOf_27 : decode cX0_placeOf 27 = .ok (.isub, 1) := by decide +kernel
theorem dX0_placeOf_28 : decode cX0_placeOf 28 = .ok (.ireturn, 1) := by decide +kernel
theorem dX0_placeOf_29 : decode cX0_placeOf 29 = .ok (.iinc 2 1, 3) := by decide +kernel
theorem dX0_placeOf_32 : decode cX0_placeOf 32 = .ok (.goto (-30), 3) := by decide +kernel
theorem dX0_placeOf_35 : decode cX0_placeOf 35 = .ok (.iconst (-1), 1) := by decide +kernel
theorem dX0_placeOf_36 : decode cX0_placeOf 36 = .ok (.ireturn, 1) := by decide +kernel
theorem dX1_init_0 : decode cX1_init 0 = .ok (.aload_n 0, 1) := by decide +kernel
theorem dX1_init_1 : decode cX1_init 1 = .ok (.invokespecial 3, 3) := by decide +kernel
theorem dX1_init_4 : decode cX1_init 4 = .ok (.aload_n 0, 1) := by decide +kernel
theorem dX1_init_5 : decode cX1_init 5 = .ok (.bipush 24, 2) := by decide +kernel
theorem dX1_init_7 : decode cX1_init 7 = .ok (.newarray .int, 2) := by decide +kernel
theorem dX1_init_9 : decode cX1_init 9 = .ok (.putfield 11, 3) := by decide +kernel
theorem dX1_init_12 : decode cX1_init 12 = .ok (.aload_n 0, 1) := by decide +kernel
theorem dX1_init_13 : decode cX1_init 13 = .ok (.bipush 40, 2) := by decide +kernel
theorem dX1_init_15 : decode cX1_init 15 = .ok (.bipush 24, 2) := by decide +kernel
theorem dX1_init_17 : decode cX1_init 17 = .ok (.multianewarray 15 2, 4) := by decide +kernel
theorem dX1_init_21 : decode cX1_init 21 = .ok (.putfield 17, 3) := by decide +kernel
theorem dX1_init_24 : decode cX1_init 24 = .ok (.return_, 1) := by decide +kernel
theorem dX1_forget_0 : decode cX1_forget 0 = .ok (.aload_n 0, 1) := by decide +kernel
theorem dX1_forget_1 : decode cX1_forget 1 = .ok (.iconst 0, 1) := by decide +kernel
theorem dX1_forget_2 : decode cX1_forget 2 = .ok (.putfield 20, 3) := by decide +kernel
theorem dX1_forget_5 : decode cX1_forget 5 = .ok (.aload_n 0, 1) := by decide +kernel
theorem dX1_forget_6 : decode cX1_forget 6 = .ok (.iconst 0, 1) := by decide +kernel
theorem dX1_forget_7 : decode cX1_forget 7 = .ok (.putfield 24, 3) := by decide +kernel
theorem dX1_forget_10 : decode cX1_forget 10 = .ok (.return_, 1) := by decide +kernel
theorem dX1_start_0 : decode cX1_start 0 = .ok (.aload_n 0, 1) := by decide +kernel
theorem dX1_start_1 : decode cX1_start 1 = .ok (.getfield 11, 3) := by decide +kernel
theorem dX1_start_4 : decode cX1_start 4 = .ok (.iconst 0, 1) := by decide +kernel
theorem dX1_start_5 : decode cX1_start 5 = .ok (.iload_n 1, 1) := by decide +kernel
theorem dX1_start_6 : decode cX1_start 6 = .ok (.iastore, 1) := by decide +kernel
theorem dX1_start_7 : decode cX1_start 7 = .ok (.aload_n 0, 1) := by decide +kernel
theorem dX1_start_8 : decode cX1_start 8 = .ok (.getfield 11, 3) := by decide +kernel
theorem dX1_start_11 : decode cX1_start 11 = .ok (.iconst 1, 1) := by decide +kernel
theorem dX1_start_12 : decode cX1_start 12 = .ok (.iload_n 2, 1) := by decide +kernel
theorem dX1_start_13 : decode cX1_start 13 = .ok (.iastore, 1) := by decide +kernel
theorem dX1_start_14 : decode cX1_start 14 = .ok (.aload_n 0, 1) := by decide +kernel
theorem dX1_start_15 : decode cX1_start 15 = .ok (.iconst 2, 1) := by decide +kernel
theorem dX1_start_16 : decode cX1_start 16 = .ok (.putfield 27, 3) := by decide +kernel
theorem dX1_start_19 : decode cX1_start 19 = .ok (.return_, 1) := by decide +kernel
theorem dX1_write_0 : decode cX1_write 0 = .ok (.aload_n 0, 1) := by decide +kernel
theorem dX1_write_1 : decode cX1_write 1 = .ok (.getfield 27, 3) := by decide +kernel
theorem dX1_write_4 : decode cX1_write 4 = .ok (.bipush 24, 2) := by decide +kernel
theorem dX1_write_6 : decode cX1_write 6 = .ok (.if_icmp .ge 48, 3) := by decide +kernel
theorem dX1_write_9 : decode cX1_write 9 = .ok (.aload_n 0, 1) := by decide +kernel
theorem dX1_write_10 : decode cX1_write 10 = .ok (.getfield 11, 3) := by decide +kernel
theorem dX1_write_13 : decode cX1_write 13 = .ok (.aload_n 0, 1) := by decide +kernel
theorem dX1_write_14 : decode cX1_write 14 = .ok (.getfield 27, 3) := by decide +kernel
theorem dX1_write_17 : decode cX1_write 17 = .ok (.iload_n 1, 1) := by decide +kernel
theorem dX1_write_18 : decode cX1_write 18 = .ok (.bipush 16, 2) := by decide +kernel
theorem dX1_write_20 : decode cX1_write 20 = .ok (.ishl, 1) := by decide +kernel
theorem dX1_write_21 : decode cX1_write 21 = .ok (.iload_n 2, 1) := by decide +kernel
theorem dX1_write_22 : decode cX1_write 22 = .ok (.ifCond .eq 9, 3) := by decide +kernel
theorem dX1_write_25 : decode cX1_write 25 = .ok (.sipush 4096, 3) := by decide +kernel
theorem dX1_write_28 : decode cX1_write 28 = .ok (.goto 4, 3) := by decide +kernel
theorem dX1_write_31 : decode cX1_write 31 = .ok (.iconst 0, 1) := by decide +kernel
theorem dX1_write_32 : decode cX1_write 32 = .ok (.ior, 1) := by decide +kernel
theorem dX1_write_33 : decode cX1_write 33 = .ok (.iload_n 3, 1) := by decide +kernel
theorem dX1_write_34 : decode cX1_write 34 = .ok (.bipush 8, 2) := by decide +kernel
theorem dX1_write_36 : decode cX1_write 36 = .ok (.ishl, 1) := by decide +kernel
theorem dX1_write_37 : decode cX1_write 37 = .ok (.ior, 1) := by decide +kernel
theorem dX1_write_38 : decode cX1_write 38 = .ok (.iload 4, 2) := by decide +kernel
theorem dX1_write_40 : decode cX1_write 40 = .ok (.iconst 1, 1) := by decide +kernel
theorem dX1_write_41 : decode cX1_write 41 = .ok (.iadd, 1) := by decide +kernel
theorem dX1_write_42 : decode cX1_write 42 = .ok (.ior, 1) := by decide +kernel
theorem dX1_write_43 : decode cX1_write 43 = .ok (.iastore, 1) := by decide +kernel
theorem dX1_write_44 : decode cX1_write 44 = .ok (.aload_n 0, 1) := by decide +kernel
theorem dX1_write_45 : decode cX1_write 45 = .ok (.dup, 1) := by decide +kernel
theorem dX1_write_46 : decode cX1_write 46 = .ok (.getfield 27, 3) := by decide +kernel
theorem dX1_write_49 : decode cX1_write 49 = .ok (.iconst 1, 1) := by decide +kernel
theorem dX1_write_50 : decode cX1_write 50 = .ok (.iadd, 1) := by decide +kernel
theorem dX1_write_51 : decode cX1_write 51 = .ok (.putfield 27, 3) := by decide +kernel
theorem dX1_write_54 : decode cX1_write 54 = .ok (.return_, 1) := by decide +kernel
set_option maxRecDepth 20000 in
theorem ggX1_knowsState_X1_isState : GoodIn wsX1_knowsState wsX1_isState := goodIn_r _ [7, 8, 9, 10, 11, 12, 13, 14] (by decide +kernel) (by decide +kernel)
set_option maxRecDepth 20000 in
theorem gX1_knowsState_X1_isState : GoodIn wsX1_knowsState (wsV RX1 30 RX1 yX1_isState wsX1_isState) := goodIn_app (goodIn_of _ (by decide +kernel)) ggX1_knowsState_X1_isState
theorem dX1_knowsState_0 : decode cX1_knowsState 0 = .ok (.iconst 0, 1) := by decide +kernel
theorem dX1_knowsState_1 : decode cX1_knowsState 1 = .ok (.istore_n 1, 1) := by decide +kernel
theorem dX1_knowsState_2 : decode cX1_knowsState 2 = .ok (.iload_n 1, 1) := by decide +kernel
theorem dX1_knowsState_3 : decode cX1_knowsState 3 = .ok (.aload_n 0, 1) := by decide +kernel
theorem dX1_knowsState_4 : decode cX1_knowsState 4 = .ok (.getfield 20, 3) := by decide +kernel
theorem dX1_knowsState_7 : decode cX1_knowsState 7 = .ok (.if_icmp .ge 24, 3) := by decide +kernel
theorem dX1_knowsState_10 : decode cX1_knowsState 10 = .ok (.aload_n 0, 1) := by decide +kernel
theorem dX1_knowsState_11 : decode cX1_knowsState 11 = .ok (.aload_n 0, 1) := by decide +kernel
theorem dX1_knowsState_12 : decode cX1_knowsState 12 = .ok (.getfield 17, 3) := by decide +kernel
theorem dX1_knowsState_15 : decode cX1_knowsState 15 = .ok (.iload_n 1, 1) := by decide +kernel
theorem dX1_knowsState_16 : decode cX1_knowsState 16 = .ok (.aaload, 1) := by decide +kernel
theorem dX1_knowsState_17 : decode cX1_knowsState 17 = .ok (.invokevirtual 30, 3) := by decide +kernel
theorem dX1_knowsState_20 : decode cX1_knowsState 20 = .ok (.ifCond .eq 5, 3) := by decide +kernel
theorem dX1_knowsState_23 : decode cX1_knowsState 23 = .ok (.iconst 1, 1) := by decide +kernel
theorem dX1_knowsState_24 : decode cX1_knowsState 24 = .ok (.ireturn, 1) := by decide +kernel
theorem dX1_knowsState_25 : decode cX1_knowsState 25 = .ok (.iinc 1 1, 3) := by decide +kernel
theorem dX1_knowsState_28 : decode cX1_knowsState 28 = .ok (.goto (-26), 3) := by decide +kernel
theorem dX1_knowsState_31 : decode cX1_knowsState 31 = .ok (.iconst 0, 1) := by decide +kernel
theorem dX1_knowsState_32 : decode cX1_knowsState 32 = .ok (.ireturn, 1) := by decide +kernel
theorem dX1_isState_0 : decode cX1_isState 0 = .ok (.iconst 0, 1) := by decide +kernel
theorem dX1_isState_1 : decode cX1_isState 1 = .ok (.istore_n 2, 1) := by decide +kernel
theorem dX1_isState_2 : decode cX1_isState 2 = .ok (.iload_n 2, 1) := by decide +kernel
theorem dX1_isState_3 : decode cX1_isState 3 = .ok (.aload_n 0, 1) := by decide +kernel
theorem dX1_isState_4 : decode cX1_isState 4 = .ok (.getfield 27, 3) := by decide +kernel
theorem dX1_isState_7 : decode cX1_isState 7 = .ok (.if_icmp .ge 23, 3) := by decide +kernel
theorem dX1_isState_10 : decode cX1_isState 10 = .ok (.aload_n 1, 1) := by decide +kernel
theorem dX1_isState_11 : decode cX1_isState 11 = .ok (.iload_n 2, 1) := by decide +kernel
theorem dX1_isState_12 : decode cX1_isState 12 = .ok (.iaload, 1) := by decide +kernel
theorem dX1_isState_13 : decode cX1_isState 13 = .ok (.aload_n 0, 1) := by decide +kernel
theorem dX1_isState_14 : decode cX1_isState 14 = .ok (.getfield 11, 3) := by decide +kernel
theorem dX1_isState_17 : decode cX1_isState 17 = .ok (.iload_n 2, 1) := by decide +kernel
theorem dX1_isState_18 : decode cX1_isState 18 = .ok (.iaload, 1) := by decide +kernel
theorem dX1_isState_19 : decode cX1_isState 19 = .ok (.if_icmp .eq 5, 3) := by decide +kernel
theorem dX1_isState_22 : decode cX1_isState 22 = .ok (.iconst 0, 1) := by decide +kernel
theorem dX1_isState_23 : decode cX1_isState 23 = .ok (.ireturn, 1) := by decide +kernel
theorem dX1_isState_24 : decode cX1_isState 24 = .ok (.iinc 2 1, 3) := by decide +kernel
theorem dX1_isState_27 : decode cX1_isState 27 = .ok (.goto (-25), 3) := by decide +kernel
theorem dX1_isState_30 : decode cX1_isState 30 = .ok (.iconst 1, 1) := by decide +kernel
theorem dX1_isState_31 : decode cX1_isState 31 = .ok (.ireturn, 1) := by decide +kernel
theorem dX1_keepState_0 : decode cX1_keepState 0 = .ok (.aload_n 0, 1) := by decide +kernel
theorem dX1_keepState_1 : decode cX1_keepState 1 = .ok (.getfield 11, 3) := by decide +kernel
theorem dX1_keepState_4 : decode cX1_keepState 4 = .ok (.iconst 0, 1) := by decide +kernel
theorem dX1_keepState_5 : decode cX1_keepState 5 = .ok (.aload_n 0, 1) := by decide +kernel
theorem dX1_keepState_6 : decode cX1_keepState 6 = .ok (.getfield 17, 3) := by decide +kernel
theorem dX1_keepState_9 : decode cX1_keepState 9 = .ok (.aload_n 0, 1) := by decide +kernel
theorem dX1_keepState_10 : decode cX1_keepState 10 = .ok (.getfield 24, 3) := by decide +kernel
theorem dX1_keepState_13 : decode cX1_keepState 13 = .ok (.aaload, 1) := by decide +kernel
theorem dX1_keepState_14 : decode cX1_keepState 14 = .ok (.iconst 0, 1) := by decide +kernel
theorem dX1_keepState_15 : decode cX1_keepState 15 = .ok (.bipush 24, 2) := by decide +kernel
theorem dX1_keepState_17 : decode cX1_keepState 17 = .ok (.invokestatic 34, 3) := by decide +kernel
theorem dX1_keepState_20 : decode cX1_keepState 20 = .ok (.aload_n 0, 1) := by decide +kernel
theorem dX1_keepState_21 : decode cX1_keepState 21 = .ok (.aload_n 0, 1) := by decide +kernel
theorem dX1_keepState_22 : decode cX1_keepState 22 = .ok (.getfield 24, 3) := by decide +kernel
theorem dX1_keepState_25 : decode cX1_keepState 25 = .ok (.iconst 1, 1) := by decide +kernel
theorem dX1_keepState_26 : decode cX1_keepState 26 = .ok (.iadd, 1) := by decide +kernel
theorem dX1_keepState_27 : decode cX1_keepState 27 = .ok (.bipush 40, 2) := by decide +kernel
theorem dX1_keepState_29 : decode cX1_keepState 29 = .ok (.if_icmp .ge 12, 3) := by decide +kernel
theorem dX1_keepState_32 : decode cX1_keepState 32 = .ok (.aload_n 0, 1) := by decide +kernel
theorem dX1_keepState_33 : decode cX1_keepState 33 = .ok (.getfield 24, 3) := by decide +kernel
theorem dX1_keepState_36 : decode cX1_keepState 36 = .ok (.iconst 1, 1) := by decide +kernel
theorem dX1_keepState_37 : decode cX1_keepState 37 = .ok (.iadd, 1) := by decide +kernel
theorem dX1_keepState_38 : decode cX1_keepState 38 = .ok (.goto 4, 3) := by decide +kernel
theorem dX1_keepState_41 : decode cX1_keepState 41 = .ok (.iconst 0, 1) := by decide +kernel
theorem dX1_keepState_42 : decode cX1_keepState 42 = .ok (.putfield 24, 3) := by decide +kernel
theorem dX1_keepState_45 : decode cX1_keepState 45 = .ok (.aload_n 0, 1) := by decide +kernel
theorem dX1_keepState_46 : decode cX1_keepState 46 = .ok (.getfield 20, 3) := by decide +kernel
theorem dX1_keepState_49 : decode cX1_keepState 49 = .ok (.bipush 40, 2) := by decide +kernel
theorem dX1_keepState_51 : decode cX1_keepState 51 = .ok (.if_icmp .ge 13, 3) := by decide +kernel
theorem dX1_keepState_54 : decode cX1_keepState 54 = .ok (.aload_n 0, 1) := by decide +kernel
theorem dX1_keepState_55 : decode cX1_keepState 55 = .ok (.dup, 1) := by decide +kernel
theorem dX1_keepState_56 : decode cX1_keepState 56 = .ok (.getfield 20, 3) := by decide +kernel
theorem dX1_keepState_59 : decode cX1_keepState 59 = .ok (.iconst 1, 1) := by decide +kernel
theorem dX1_keepState_60 : decode cX1_keepState 60 = .ok (.iadd, 1) := by decide +kernel
theorem dX1_keepState_61 : decode cX1_keepState 61 = .ok (.putfield 20, 3) := by decide +kernel
theorem dX1_keepState_64 : decode cX1_keepState 64 = .ok (.return_, 1) := by decide +kernel
theorem dX2_init_0 : decode cX2_init 0 = .ok (.aload_n 0, 1) := by decide +kernel
theorem dX2_init_1 : decode cX2_init 1 = .ok (.invokespecial 3, 3) := by decide +kernel
theorem dX2_init_4 : decode cX2_init 4 = .ok (.aload_n 0, 1) := by decide +kernel
theorem dX2_init_5 : decode cX2_init 5 = .ok (.bipush 10, 2) := by decide +kernel
theorem dX2_init_7 : decode cX2_init 7 = .ok (.newarray .int, 2) := by decide +kernel
theorem dX2_init_9 : decode cX2_init 9 = .ok (.putfield 9, 3) := by decide +kernel
theorem dX2_init_12 : decode cX2_init 12 = .ok (.aload_n 0, 1) := by decide +kernel
theorem dX2_init_13 : decode cX2_init 13 = .ok (.bipush 10, 2) := by decide +kernel
theorem dX2_init_15 : decode cX2_init 15 = .ok (.newarray .int, 2) := by decide +kernel
theorem dX2_init_17 : decode cX2_init 17 = .ok (.putfield 15, 3) := by decide +kernel
theorem dX2_init_20 : decode cX2_init 20 = .ok (.aload_n 0, 1) := by decide +kernel
theorem dX2_init_21 : decode cX2_init 21 = .ok (.bipush 10, 2) := by decide +kernel
theorem dX2_init_23 : decode cX2_init 23 = .ok (.newarray .int, 2) := by decide +kernel
theorem dX2_init_25 : decode cX2_init 25 = .ok (.putfield 18, 3) := by decide +kernel
theorem dX2_init_28 : decode cX2_init 28 = .ok (.aload_n 0, 1) := by decide +kernel
theorem dX2_init_29 : decode cX2_init 29 = .ok (.bipush 10, 2) := by decide +kernel
theorem dX2_init_31 : decode cX2_init 31 = .ok (.newarray .int, 2) := by decide +kernel
theorem dX2_init_33 : decode cX2_init 33 = .ok (.putfield 21, 3) := by decide +kernel
theorem dX2_init_36 : decode cX2_init 36 = .ok (.return_, 1) := by decide +kernel
theorem dX2_has_0 : decode cX2_has 0 = .ok (.iload_n 1, 1) := by decide +kernel
theorem dX2_has_1 : decode cX2_has 1 = .ok (.ifCond .lt 15, 3) := by decide +kernel
theorem dX2_has_4 : decode cX2_has 4 = .ok (.iload_n 1, 1) := by decide +kernel
theorem dX2_has_5 : decode cX2_has 5 = .ok (.aload_n 0, 1) := by decide +kernel
theorem dX2_has_6 : decode cX2_has 6 = .ok (.getfield 24, 3) := by decide +kernel
theorem dX2_has_9 : decode cX2_has 9 = .ok (.if_icmp .ge 7, 3) := by decide +kernel
theorem dX2_has_12 : decode cX2_has 12 = .ok (.iconst 1, 1) := by decide +kernel
theorem dX2_has_13 : decode cX2_has 13 = .ok (.goto 4, 3) := by decide +kernel
theorem dX2_has_16 : decode cX2_has 16 = .ok (.iconst 0, 1) := by decide +kernel
theorem dX2_has_17 : decode cX2_has 17 = .ok (.ireturn, 1) := by decide +kernel
theorem dX2_add_0 : decode cX2_add 0 = .ok (.aload_n 0, 1) := by decide +kernel
theorem dX2_add_1 : decode cX2_add 1 = .ok (.getfield 24, 3) := by decide +kernel
theorem dX2_add_4 : decode cX2_add 4 = .ok (.bipush 10, 2) := by decide +kernel
theorem dX2_add_6 : decode cX2_add 6 = .ok (.if_icmp .lt 5, 3) := by decide +kernel
theorem dX2_add_9 : decode cX2_add 9 = .ok (.iconst 0, 1) := by decide +kernel
theorem dX2_add_10 : decode cX2_add 10 = .ok (.ireturn, 1) := by decide +kernel
theorem dX2_add_11 : decode cX2_add 11 = .ok (.aload_n 0, 1) := by decide +kernel
theorem dX2_add_12 : decode cX2_add 12 = .ok (.getfield 9, 3) := by decide +kernel
theorem dX2_add_15 : decode cX2_add 15 = .ok (.aload_n 0, 1) := by decide +kernel
theorem dX2_add_16 : decode cX2_add 16 = .ok (.getfield 24, 3) := by decide +kernel
theorem dX2_add_19 : decode cX2_add 19 = .ok (.iload_n 1, 1) := by decide +kernel
theorem dX2_add_20 : decode cX2_add 20 = .ok (.iastore, 1) := by decide +kernel
theorem dX2_add_21 : decode cX2_add 21 = .ok (.aload_n 0, 1) := by decide +kernel
theorem dX2_add_22 : decode cX2_add 22 = .ok (.getfield 15, 3) := by decide +kernel
theorem dX2_add_25 : decode cX2_add 25 = .ok (.aload_n 0, 1) := by decide +kernel
theorem dX2_add_26 : decode cX2_add 26 = .ok (.getfield 24, 3) := by decide +kernel
theorem dX2_add_29 : decode cX2_add 29 = .ok (.iload_n 2, 1) := by decide +kernel
theorem dX2_add_30 : decode cX2_add 30 = .ok (.iastore, 1) := by decide +kernel
theorem dX2_add_31 : decode cX2_add 31 = .ok (.aload_n 0, 1) := by decide +kernel
theorem dX2_add_32 : decode cX2_add 32 = .ok (.getfield 18, 3) := by decide +kernel
theorem dX2_add_35 : decode cX2_add 35 = .ok (.aload_n 0, 1) := by decide +kernel
theorem dX2_add_36 : decode cX2_add 36 = .ok (.getfield 24, 3) := by decide +kernel
theorem dX2_add_39 : decode cX2_add 39 = .ok (.iload_n 3, 1) := by decide +kernel
theorem dX2_add_40 : decode cX2_add 40 = .ok (.iastore, 1) := by decide +kernel
theorem dX2_add_41 : decode cX2_add 41 = .ok (.aload_n 0, 1) := by decide +kernel
theorem dX2_add_42 : decode cX2_add 42 = .ok (.getfield 21, 3) := by decide +kernel
theorem dX2_add_45 : decode cX2_add 45 = .ok (.aload_n 0, 1) := by decide +kernel
theorem dX2_add_46 : decode cX2_add 46 = .ok (.getfield 24, 3) := by decide +kernel
theorem dX2_add_49 : decode cX2_add 49 = .ok (.iload 4, 2) := by decide +kernel
theorem dX2_add_51 : decode cX2_add 51 = .ok (.iastore, 1) := by decide +kernel
theorem dX2_add_52 : decode cX2_add 52 = .ok (.aload_n 0, 1) := by decide +kernel
theorem dX2_add_53 : decode cX2_add 53 = .ok (.dup, 1) := by decide +kernel
theorem dX2_add_54 : decode cX2_add 54 = .ok (.getfield 24, 3) := by decide +kernel
theorem dX2_add_57 : decode cX2_add 57 = .ok (.iconst 1, 1) := by decide +kernel
theorem dX2_add_58 : decode cX2_add 58 = .ok (.iadd, 1) := by decide +kernel
theorem dX2_add_59 : decode cX2_add 59 = .ok (.putfield 24, 3) := by decide +kernel
theorem dX2_add_62 : decode cX2_add 62 = .ok (.iconst 1, 1) := by decide +kernel
theorem dX2_add_63 : decode cX2_add 63 = .ok (.ireturn, 1) := by decide +kernel
set_option maxRecDepth 20000 in
theorem ggX2_remove_X2_has : GoodIn wsX2_remove wsX2_has := goodIn_r _ [10, 1, 11, 12, 13, 14, 15] (by decide +kernel) (by decide +kernel)
set_option maxRecDepth 20000 in
theorem gX2_remove_X2_has : GoodIn wsX2_remove (wsV RX2 28 RX2 yX2_has wsX2_has) := goodIn_app (goodIn_of _ (by decide +kernel)) ggX2_remove_X2_has
theorem dX2_remove_0 : decode cX2_remove 0 = .ok (.aload_n 0, 1) := by decide +kernel
theorem dX2_remove_1 : decode cX2_remove 1 = .ok (.iload_n 1, 1) := by decide +kernel
theorem dX2_remove_2 : decode cX2_remove 2 = .ok (.invokevirtual 28, 3) := by decide +kernel
theorem dX2_remove_5 : decode cX2_remove 5 = .ok (.ifCond .ne 5, 3) := by decide +kernel
theorem dX2_remove_8 : decode cX2_remove 8 = .ok (.iconst 0, 1) := by decide +kernel
theorem dX2_remove_9 : decode cX2_remove 9 = .ok (.ireturn, 1) := by decide +kernel
theorem dX2_remove_10 : decode cX2_remove 10 = .ok (.aload_n 0, 1) := by decide +kernel
theorem dX2_remove_11 : decode cX2_remove 11 = .ok (.dup, 1) := by decide +kernel
theorem dX2_remove_12 : decode cX2_remove 12 = .ok (.getfield 24, 3) := by decide +kernel
theorem dX2_remove_15 : decode cX2_remove 15 = .ok (.iconst 1, 1) := by decide +kernel
theorem dX2_remove_16 : decode cX2_remove 16 = .ok (.isub, 1) := by decide +kernel
theorem dX2_remove_17 : decode cX2_remove 17 = .ok (.putfield 24, 3) := by decide +kernel
theorem dX2_remove_20 : decode cX2_remove 20 = .ok (.iload_n 1, 1) := by decide +kernel
theorem dX2_remove_21 : decode cX2_remove 21 = .ok (.istore_n 2, 1) := by decide +kernel
theorem dX2_remove_22 : decode cX2_remove 22 = .ok (.iload_n 2, 1) := by decide +kernel
theorem dX2_remove_23 : decode cX2_remove 23 = .ok (.aload_n 0, 1) := by decide +kernel
theorem dX2_remove_24 : decode cX2_remove 24 = .ok (.getfield 24, 3) := by decide +kernel
theorem dX2_remove_27 : decode cX2_remove 27 = .ok (.if_icmp .ge 65, 3) := by decide +kernel
theorem dX2_remove_30 : decode cX2_remove 30 = .ok (.aload_n 0, 1) := by decide +kernel
theorem dX2_remove_31 : decode cX2_remove 31 = .ok (.getfield 9, 3) := by decide +kernel
theorem dX2_remove_34 : decode cX2_remove 34 = .ok (.iload_n 2, 1) := by decide +kernel
theorem dX2_remove_35 : decode cX2_remove 35 = .ok (.aload_n 0, 1) := by decide +kernel
theorem dX2_remove_36 : decode cX2_remove 36 = .ok (.getfield 9, 3) := by decide +kernel
theorem dX2_remove_39 : decode cX2_remove 39 = .ok (.iload_n 2, 1) := by decide +kernel
theorem dX2_remove_40 : decode cX2_remove 40 = .ok (.iconst 1, 1) := by decide +kernel
theorem dX2_remove_41 : decode cX2_remove 41 = .ok (.iadd, 1) := by decide +kernel
theorem dX2_remove_42 : decode cX2_remove 42 = .ok (.iaload, 1) := by decide +kernel
theorem dX2_remove_43 : decode cX2_remove 43 = .ok (.iastore, 1) := by decide +kernel
theorem dX2_remove_44 : decode cX2_remove 44 = .ok (.aload_n 0, 1) := by decide +kernel
theorem dX2_remove_45 : decode cX2_remove 45 = .ok (.getfield 15, 3) := by decide +kernel
theorem dX2_remove_48 : decode cX2_remove 48 = .ok (.iload_n 2, 1) := by decide +kernel
theorem dX2_remove_49 : decode cX2_remove 49 = .ok (.aload_n 0, 1) := by decide +kernel
theorem dX2_remove_50 : decode cX2_remove 50 = .ok (.getfield 15, 3) := by decide +kernel
theorem dX2_remove_53 : decode cX2_remove 53 = .ok (.iload_n 2, 1) := by decide +kernel
theorem dX2_remove_54 : decode cX2_remove 54 = .ok (.iconst 1, 1) := by decide +kernel
theorem dX2_remove_55 : decode cX2_remove 55 = .ok (.iadd, 1) := by decide +kernel
theorem dX2_remove_56 : decode cX2_remove 56 = .ok (.iaload, 1) := by decide +kernel
theorem dX2_remove_57 : decode cX2_remove 57 = .ok (.iastore, 1) := by decide +kernel
theorem dX2_remove_58 : decode cX2_remove 58 = .ok (.aload_n 0, 1) := by decide +kernel
theorem dX2_remove_59 : decode cX2_remove 59 = .ok (.getfield 18, 3) := by decide +kernel
theorem dX2_remove_62 : decode cX2_remove 62 = .ok (.iload_n 2, 1) := by decide +kernel
theorem dX2_remove_63 : decode cX2_remove 63 = .ok (.aload_n 0, 1) := by decide +kernel
theorem dX2_remove_64 : decode cX2_remove 64 = .ok (.getfield 18, 3) := by decide +kernel
theorem dX2_remove_67 : decode cX2_remove 67 = .ok (.iload_n 2, 1) := by decide +kernel
theorem dX2_remove_68 : decode cX2_remove 68 = .ok (.iconst 1, 1) := by decide +kernel
theorem dX2_remove_69 : decode cX2_remove 69 = .ok (.iadd, 1) := by decide +kernel
theorem dX2_remove_70 : decode cX2_remove 70 = .ok (.iaload, 1) := by decide +kernel
theorem dX2_remove_71 : decode cX2_remove 71 = .ok (.iastore, 1) := by decide +kernel
theorem dX2_remove_72 : decode cX2_remove 72 = .ok (.aload_n 0, 1) := by decide +kernel
theorem dX2_remove_73 : decode cX2_remove 73 = .ok (.getfield 21, 3) := by decide +kernel
theorem dX2_remove_76 : decode cX2_remove 76 = .ok (.iload_n 2, 1) := by decide +kernel
theorem dX2_remove_77 : decode cX2_remove 77 = .ok (.aload_n 0, 1) := by decide +kernel
theorem dX2_remove_78 : decode cX2_remove 78 = .ok (.getfield 21, 3) := by decide +kernel
theorem dX2_remove_81 : decode cX2_remove 81 = .ok (.iload_n 2, 1) := by decide +kernel
theorem dX2_remove_82 : decode cX2_remove 82 = .ok (.iconst 1, 1) := by decide +kernel
theorem dX2_remove_83 : decode cX2_remove 83 = .ok (.iadd, 1) := by decide +kernel
theorem dX2_remove_84 : decode cX2_remove 84 = .ok (.iaload, 1) := by decide +kernel
theorem dX2_remove_85 : decode cX2_remove 85 = .ok (.iastore, 1) := by decide +kernel
theorem dX2_remove_86 : decode cX2_remove 86 = .ok (.iinc 2 1, 3) := by decide +kernel
theorem dX2_remove_89 : decode cX2_remove 89 = .ok (.goto (-67), 3) := by decide +kernel
theorem dX2_remove_92 : decode cX2_remove 92 = .ok (.iconst 1, 1) := by decide +kernel
theorem dX2_remove_93 : decode cX2_remove 93 = .ok (.ireturn, 1) := by decide +kernel
theorem dX2_placeOf_0 : decode cX2_placeOf 0 = .ok (.iconst 0, 1) := by decide +kernel
theorem dX2_placeOf_1 : decode cX2_placeOf 1 = .ok (.istore_n 2, 1) := by decide +kernel
theorem dX2_placeOf_2 : decode cX2_placeOf 2 = .ok (.iload_n 2, 1) := by decide +kernel
theorem dX2_placeOf_3 : decode cX2_placeOf 3 = .ok (.aload_n 0, 1) := by decide +kernel
theorem dX2_placeOf_4 : decode cX2_placeOf 4 = .ok (.getfield 24, 3) := by decide +kernel
theorem dX2_placeOf_7 : decode cX2_placeOf 7 = .ok (.if_icmp .ge 21, 3) := by decide +kernel
theorem dX2_placeOf_10 : decode cX2_placeOf 10 = .ok (.aload_n 0, 1) := by decide +kernel
theorem dX2_placeOf_11 : decode cX2_placeOf 11 = .ok (.getfield 21, 3) := by decide +kernel
theorem dX2_placeOf_14 : decode cX2_placeOf 14 = .ok (.iload_n 2, 1) := by decide +kernel
theorem dX2_placeOf_15 : decode cX2_placeOf 15 = .ok (.iaload, 1) := by decide +kernel
theorem dX2_placeOf_16 : decode cX2_placeOf 16 = .ok (.iload_n 1, 1) := by decide +kernel
theorem dX2_placeOf_17 : decode cX2_placeOf 17 = .ok (.if_icmp .ne 5, 3) := by decide +kernel
theorem dX2_placeOf_20 : decode cX2_placeOf 20 = .ok (.iload_n 2, 1) := by decide +kernel
theorem dX2_placeOf_21 : decode cX2_placeOf 21 = .ok (.ireturn, 1) := by decide +kernel
theorem dX2_placeOf_22 : decode cX2_placeOf 22 = .ok (.iinc 2 1, 3) := by decide +kernel
theorem dX2_placeOf_25 : decode cX2_placeOf 25 = .ok (.goto (-23), 3) := by decide +kernel
theorem dX2_placeOf_28 : decode cX2_placeOf 28 = .ok (.iconst (-1), 1) := by decide +kernel
theorem dX2_placeOf_29 : decode cX2_placeOf 29 = .ok (.ireturn, 1) := by decide +kernel
theorem dX2_firstOf_0 : decode cX2_firstOf 0 = .ok (.iconst 0, 1) := by decide +kernel
theorem dX2_firstOf_1 : decode cX2_firstOf 1 = .ok (.istore_n 2, 1) := by decide +kernel
theorem dX2_firstOf_2 : decode cX2_firstOf 2 = .ok (.iload_n 2, 1) := by decide +kernel
theorem dX2_firstOf_3 : decode cX2_firstOf 3 = .ok (.aload_n 0, 1) := by decide +kernel
theorem dX2_firstOf_4 : decode cX2_firstOf 4 = .ok (.getfield 24, 3) := by decide +kernel
theorem dX2_firstOf_7 : decode cX2_firstOf 7 = .ok (.if_icmp .ge 21, 3) := by decide +kernel
theorem dX2_firstOf_10 : decode cX2_firstOf 10 = .ok (.aload_n 0, 1) := by decide +kernel
theorem dX2_firstOf_11 : decode cX2_firstOf 11 = .ok (.getfield 9, 3) := by decide +kernel
theorem dX2_firstOf_14 : decode cX2_firstOf 14 = .ok (.iload_n 2, 1) := by decide +kernel
theorem dX2_firstOf_15 : decode cX2_firstOf 15 = .ok (.iaload, 1) := by decide +kernel
theorem dX2_firstOf_16 : decode cX2_firstOf 16 = .ok (.iload_n 1, 1) := by decide +kernel
theorem dX2_firstOf_17 : decode cX2_firstOf 17 = .ok (.if_icmp .ne 5, 3) := by decide +kernel
theorem dX2_firstOf_20 : decode cX2_firstOf 20 = .ok (.iload_n 2, 1) := by decide +kernel
theorem dX2_firstOf_21 : decode cX2_firstOf 21 = .ok (.ireturn, 1) := by decide +kernel
theorem dX2_firstOf_22 : decode cX2_firstOf 22 = .ok (.iinc 2 1, 3) := by decide +kernel
theorem dX2_firstOf_25 : decode cX2_firstOf 25 = .ok (.goto (-23), 3) := by decide +kernel
theorem dX2_firstOf_28 : decode cX2_firstOf 28 = .ok (.iconst (-1), 1) := by decide +kernel
theorem dX2_firstOf_29 : decode cX2_firstOf 29 = .ok (.ireturn, 1) := by decide +kernel
theorem dX3_init_0 : decode cX3_init 0 = .ok (.aload_n 0, 1) := by decide +kernel
theorem dX3_init_1 : decode cX3_init 1 = .ok (.invokespecial 3, 3) := by decide +kernel
theorem dX3_init_4 : decode cX3_init 4 = .ok (.aload_n 0, 1) := by decide +kernel
theorem dX3_init_5 : decode cX3_init 5 = .ok (.bipush 10, 2) := by decide +kernel
theorem dX3_init_7 : decode cX3_init 7 = .ok (.newarray .int, 2) := by decide +kernel
theorem dX3_init_9 : decode cX3_init 9 = .ok (.putfield 9, 3) := by decide +kernel
theorem dX3_init_12 : decode cX3_init 12 = .ok (.aload_n 0, 1) := by decide +kernel
theorem dX3_init_13 : decode cX3_init 13 = .ok (.bipush 10, 2) := by decide +kernel
theorem dX3_init_15 : decode cX3_init 15 = .ok (.newarray .int, 2) := by decide +kernel
theorem dX3_init_17 : decode cX3_init 17 = .ok (.putfield 15, 3) := by decide +kernel
theorem dX3_init_20 : decode cX3_init 20 = .ok (.aload_n 0, 1) := by decide +kernel
theorem dX3_init_21 : decode cX3_init 21 = .ok (.bipush 10, 2) := by decide +kernel
theorem dX3_init_23 : decode cX3_init 23 = .ok (.newarray .int, 2) := by decide +kernel
theorem dX3_init_25 : decode cX3_init 25 = .ok (.putfield 18, 3) := by decide +kernel
theorem dX3_init_28 : decode cX3_init 28 = .ok (.aload_n 0, 1) := by decide +kernel
theorem dX3_init_29 : decode cX3_init 29 = .ok (.bipush 10, 2) := by decide +kernel
theorem dX3_init_31 : decode cX3_init 31 = .ok (.newarray .int, 2) := by decide +kernel
theorem dX3_init_33 : decode cX3_init 33 = .ok (.putfield 21, 3) := by decide +kernel
theorem dX3_init_36 : decode cX3_init 36 = .ok (.aload_n 0, 1) := by decide +kernel
theorem dX3_init_37 : decode cX3_init 37 = .ok (.bipush 10, 2) := by decide +kernel
theorem dX3_init_39 : decode cX3_init 39 = .ok (.newarray .int, 2) := by decide +kernel
theorem dX3_init_41 : decode cX3_init 41 = .ok (.putfield 24, 3) := by decide +kernel
theorem dX3_init_44 : decode cX3_init 44 = .ok (.return_, 1) := by decide +kernel
set_option maxRecDepth 20000 in
theorem ggX3_find_X3_goThrough : GoodIn wsX3_find wsX3_goThrough := goodIn_r _ [11, 1, 12, 5, 13, 6, 2, 14, 15, 16, 17, 18, 19, 20, 10, 21, 22, 23, 3, 24, 25, 26, 27, 4, 28, 29, 30, 31, 32, 33, 34, 35, 36, 37] (by decide +kernel) (by decide +kernel)
set_option maxRecDepth 20000 in
theorem gX3_find_X3_goThrough : GoodIn wsX3_find (wsV RX3 39 RX3 yX3_goThrough wsX3_goThrough) := goodIn_app (goodIn_of _ (by decide +kernel)) ggX3_find_X3_goThrough
theorem dX3_find_0 : decode cX3_find 0 = .ok (.iconst 0, 1) := by decide +kernel
theorem dX3_find_1 : decode cX3_find 1 = .ok (.istore_n 3, 1) := by decide +kernel
theorem dX3_find_2 : decode cX3_find 2 = .ok (.iload_n 3, 1) := by decide +kernel
theorem dX3_find_3 : decode cX3_find 3 = .ok (.aload_n 1, 1) := by decide +kernel
theorem dX3_find_4 : decode cX3_find 4 = .ok (.getfield 27, 3) := by decide +kernel
theorem dX3_find_7 : decode cX3_find 7 = .ok (.if_icmp .ge 81, 3) := by decide +kernel
theorem dX3_find_10 : decode cX3_find 10 = .ok (.aload_n 1, 1) := by decide +kernel
theorem dX3_find_11 : decode cX3_find 11 = .ok (.getfield 33, 3) := by decide +kernel
theorem dX3_find_14 : decode cX3_find 14 = .ok (.iload_n 3, 1) := by decide +kernel
theorem dX3_find_15 : decode cX3_find 15 = .ok (.iaload, 1) := by decide +kernel
theorem dX3_find_16 : decode cX3_find 16 = .ok (.istore 4, 2) := by decide +kernel
theorem dX3_find_18 : decode cX3_find 18 = .ok (.aload_n 0, 1) := by decide +kernel
theorem dX3_find_19 : decode cX3_find 19 = .ok (.getfield 9, 3) := by decide +kernel
theorem dX3_find_22 : decode cX3_find 22 = .ok (.iload_n 3, 1) := by decide +kernel
theorem dX3_find_23 : decode cX3_find 23 = .ok (.aload_n 1, 1) := by decide +kernel
theorem dX3_find_24 : decode cX3_find 24 = .ok (.getfield 36, 3) := by decide +kernel
theorem dX3_find_27 : decode cX3_find 27 = .ok (.iload_n 3, 1) := by decide +kernel
theorem dX3_find_28 : decode cX3_find 28 = .ok (.iaload, 1) := by decide +kernel
theorem dX3_find_29 : decode cX3_find 29 = .ok (.iastore, 1) := by decide +kernel
theorem dX3_find_30 : decode cX3_find 30 = .ok (.aload_n 0, 1) := by decide +kernel
theorem dX3_find_31 : decode cX3_find 31 = .ok (.getfield 15, 3) := by decide +kernel
theorem dX3_find_34 : decode cX3_find 34 = .ok (.iload_n 3, 1) := by decide +kernel
theorem dX3_find_35 : decode cX3_find 35 = .ok (.iload 4, 2) := by decide +kernel
theorem dX3_find_37 : decode cX3_find 37 = .ok (.ifCond .ne 7, 3) := by decide +kernel
theorem dX3_find_40 : decode cX3_find 40 = .ok (.iconst 1, 1) := by decide +kernel
theorem dX3_find_41 : decode cX3_find 41 = .ok (.goto 14, 3) := by decide +kernel
theorem dX3_find_44 : decode cX3_find 44 = .ok (.iload 4, 2) := by decide +kernel
theorem dX3_find_46 : decode cX3_find 46 = .ok (.iconst 1, 1) := by decide +kernel
theorem dX3_find_47 : decode cX3_find 47 = .ok (.if_icmp .ne 7, 3) := by decide +kernel
theorem dX3_find_50 : decode cX3_find 50 = .ok (.iconst 2, 1) := by decide +kernel
theorem dX3_find_51 : decode cX3_find 51 = .ok (.goto 4, 3) := by decide +kernel
theorem dX3_find_54 : decode cX3_find 54 = .ok (.iconst 4, 1) := by decide +kernel
theorem dX3_find_55 : decode cX3_find 55 = .ok (.iastore, 1) := by decide +kernel
theorem dX3_find_56 : decode cX3_find 56 = .ok (.aload_n 0, 1) := by decide +kernel
theorem dX3_find_57 : decode cX3_find 57 = .ok (.getfield 18, 3) := by decide +kernel
theorem dX3_find_60 : decode cX3_find 60 = .ok (.iload_n 3, 1) := by decide +kernel
theorem dX3_find_61 : decode cX3_find 61 = .ok (.iload 4, 2) := by decide +kernel
theorem dX3_find_63 : decode cX3_find 63 = .ok (.ifCond .ne 7, 3) := by decide +kernel
theorem dX3_find_66 : decode cX3_find 66 = .ok (.iconst 2, 1) := by decide +kernel
theorem dX3_find_67 : decode cX3_find 67 = .ok (.goto 14, 3) := by decide +kernel
theorem dX3_find_70 : decode cX3_find 70 = .ok (.iload 4, 2) := by decide +kernel
theorem dX3_find_72 : decode cX3_find 72 = .ok (.iconst 1, 1) := by decide +kernel
theorem dX3_find_73 : decode cX3_find 73 = .ok (.if_icmp .ne 7, 3) := by decide +kernel
theorem dX3_find_76 : decode cX3_find 76 = .ok (.iconst 1, 1) := by decide +kernel
theorem dX3_find_77 : decode cX3_find 77 = .ok (.goto 4, 3) := by decide +kernel
theorem dX3_find_80 : decode cX3_find 80 = .ok (.iconst 0, 1) := by decide +kernel
theorem dX3_find_81 : decode cX3_find 81 = .ok (.iastore, 1) := by decide +kernel
theorem dX3_find_82 : decode cX3_find 82 = .ok (.iinc 3 1, 3) := by decide +kernel
theorem dX3_find_85 : decode cX3_find 85 = .ok (.goto (-83), 3) := by decide +kernel
theorem dX3_find_88 : decode cX3_find 88 = .ok (.iconst 1, 1) := by decide +kernel
theorem dX3_find_89 : decode cX3_find 89 = .ok (.istore_n 3, 1) := by decide +kernel
theorem dX3_find_90 : decode cX3_find 90 = .ok (.iload_n 3, 1) := by decide +kernel
theorem dX3_find_91 : decode cX3_find 91 = .ok (.iload_n 2, 1) := by decide +kernel
theorem dX3_find_92 : decode cX3_find 92 = .ok (.if_icmp .gt 15, 3) := by decide +kernel
theorem dX3_find_95 : decode cX3_find 95 = .ok (.aload_n 0, 1) := by decide +kernel
theorem dX3_find_96 : decode cX3_find 96 = .ok (.aload_n 1, 1) := by decide +kernel
theorem dX3_find_97 : decode cX3_find 97 = .ok (.iload_n 3, 1) := by decide +kernel
theorem dX3_find_98 : decode cX3_find 98 = .ok (.invokevirtual 39, 3) := by decide +kernel
theorem dX3_find_101 : decode cX3_find 101 = .ok (.iinc 3 1, 3) := by decide +kernel
theorem dX3_find_104 : decode cX3_find 104 = .ok (.goto (-14), 3) := by decide +kernel
theorem dX3_find_107 : decode cX3_find 107 = .ok (.return_, 1) := by decide +kernel
set_option maxRecDepth 20000 in
theorem ggX3_goThrough_X4_layerOf : GoodIn wsX3_goThrough wsX4_layerOf := goodIn_r _ [9, 10] (by decide +kernel) (by decide +kernel)
set_option maxRecDepth 20000 in
theorem gX3_goThrough_X4_layerOf_n43 : GoodIn wsX3_goThrough (wsX4_layerOf) := ggX3_goThrough_X4_layerOf
set_option maxRecDepth 20000 in
theorem ggX3_goThrough_X3_takes : GoodIn wsX3_goThrough wsX3_takes := goodIn_r _ [15, 2, 6, 16, 17, 18, 4, 29, 30, 31, 32, 33, 24, 25, 26, 27, 28] (by decide +kernel) (by decide +kernel)
set_option maxRecDepth 20000 in
theorem gX3_goThrough_X3_takes : GoodIn wsX3_goThrough (wsV RX3 47 RX3 yX3_takes wsX3_takes) := goodIn_app (goodIn_of _ (by decide +kernel)) ggX3_goThrough_X3_takes
set_option maxRecDepth 20000 in
theorem ggX3_goThrough_X3_change : GoodIn wsX3_goThrough wsX3_change := goodIn_r _ [22, 6, 18, 23, 3, 5, 24, 25, 26, 27, 28, 29, 30, 31, 32, 33] (by decide +kernel) (by decide +kernel)
set_option maxRecDepth 20000 in
theorem gX3_goThrough_X3_change : GoodIn wsX3_goThrough (wsV RX3 51 RX3 yX3_change wsX3_change) := goodIn_app (goodIn_of _ (by decide +kernel)) ggX3_goThrough_X3_change
theorem dX3_goThrough_0 : decode cX3_goThrough 0 = .ok (.iconst 0, 1) := by decide +kernel
theorem dX3_goThrough_1 : decode cX3_goThrough 1 = .ok (.istore_n 3, 1) := by decide +kernel
theorem dX3_goThrough_2 : decode cX3_goThrough 2 = .ok (.iload_n 3, 1) := by decide +kernel
theorem dX3_goThrough_3 : decode cX3_goThrough 3 = .ok (.aload_n 1, 1) := by decide +kernel
theorem dX3_goThrough_4 : decode cX3_goThrough 4 = .ok (.getfield 27, 3) := by decide +kernel
theorem dX3_goThrough_7 : decode cX3_goThrough 7 = .ok (.if_icmp .ge 33, 3) := by decide +kernel
theorem dX3_goThrough_10 : decode cX3_goThrough 10 = .ok (.aload_n 0, 1) := by decide +kernel
theorem dX3_goThrough_11 : decode cX3_goThrough 11 = .ok (.getfield 21, 3) := by decide +kernel
theorem dX3_goThrough_14 : decode cX3_goThrough 14 = .ok (.iload_n 3, 1) := by decide +kernel
theorem dX3_goThrough_15 : decode cX3_goThrough 15 = .ok (.aload_n 0, 1) := by decide +kernel
theorem dX3_goThrough_16 : decode cX3_goThrough 16 = .ok (.getfield 15, 3) := by decide +kernel
theorem dX3_goThrough_19 : decode cX3_goThrough 19 = .ok (.iload_n 3, 1) := by decide +kernel
theorem dX3_goThrough_20 : decode cX3_goThrough 20 = .ok (.iaload, 1) := by decide +kernel
theorem dX3_goThrough_21 : decode cX3_goThrough 21 = .ok (.iastore, 1) := by decide +kernel
theorem dX3_goThrough_22 : decode cX3_goThrough 22 = .ok (.aload_n 0, 1) := by decide +kernel
theorem dX3_goThrough_23 : decode cX3_goThrough 23 = .ok (.getfield 24, 3) := by decide +kernel
theorem dX3_goThrough_26 : decode cX3_goThrough 26 = .ok (.iload_n 3, 1) := by decide +kernel
theorem dX3_goThrough_27 : decode cX3_goThrough 27 = .ok (.aload_n 0, 1) := by decide +kernel
theorem dX3_goThrough_28 : decode cX3_goThrough 28 = .ok (.getfield 18, 3) := by decide +kernel
theorem dX3_goThrough_31 : decode cX3_goThrough 31 = .ok (.iload_n 3, 1) := by decide +kernel
theorem dX3_goThrough_32 : decode cX3_goThrough 32 = .ok (.iaload, 1) := by decide +kernel
theorem dX3_goThrough_33 : decode cX3_goThrough 33 = .ok (.iastore, 1) := by decide +kernel
theorem dX3_goThrough_34 : decode cX3_goThrough 34 = .ok (.iinc 3 1, 3) := by decide +kernel
theorem dX3_goThrough_37 : decode cX3_goThrough 37 = .ok (.goto (-35), 3) := by decide +kernel
theorem dX3_goThrough_40 : decode cX3_goThrough 40 = .ok (.iconst 0, 1) := by decide +kernel
theorem dX3_goThrough_41 : decode cX3_goThrough 41 = .ok (.istore_n 3, 1) := by decide +kernel
theorem dX3_goThrough_42 : decode cX3_goThrough 42 = .ok (.iload_n 3, 1) := by decide +kernel
theorem dX3_goThrough_43 : decode cX3_goThrough 43 = .ok (.aload_n 1, 1) := by decide +kernel
theorem dX3_goThrough_44 : decode cX3_goThrough 44 = .ok (.getfield 27, 3) := by decide +kernel
theorem dX3_goThrough_47 : decode cX3_goThrough 47 = .ok (.if_icmp .ge 71, 3) := by decide +kernel
theorem dX3_goThrough_50 : decode cX3_goThrough 50 = .ok (.aload_n 1, 1) := by decide +kernel
theorem dX3_goThrough_51 : decode cX3_goThrough 51 = .ok (.getfield 33, 3) := by decide +kernel
theorem dX3_goThrough_54 : decode cX3_goThrough 54 = .ok (.iload_n 3, 1) := by decide +kernel
theorem dX3_goThrough_55 : decode cX3_goThrough 55 = .ok (.iaload, 1) := by decide +kernel
theorem dX3_goThrough_56 : decode cX3_goThrough 56 = .ok (.invokestatic 43, 3) := by decide +kernel
theorem dX3_goThrough_59 : decode cX3_goThrough 59 = .ok (.iload_n 2, 1) := by decide +kernel
theorem dX3_goThrough_60 : decode cX3_goThrough 60 = .ok (.if_icmp .ne 7, 3) := by decide +kernel
theorem dX3_goThrough_63 : decode cX3_goThrough 63 = .ok (.iconst 1, 1) := by decide +kernel
theorem dX3_goThrough_64 : decode cX3_goThrough 64 = .ok (.goto 4, 3) := by decide +kernel
theorem dX3_goThrough_67 : decode cX3_goThrough 67 = .ok (.iconst 0, 1) := by decide +kernel
theorem dX3_goThrough_68 : decode cX3_goThrough 68 = .ok (.istore 4, 2) := by decide +kernel
theorem dX3_goThrough_70 : decode cX3_goThrough 70 = .ok (.iconst 0, 1) := by decide +kernel
theorem dX3_goThrough_71 : decode cX3_goThrough 71 = .ok (.istore 5, 2) := by decide +kernel
theorem dX3_goThrough_73 : decode cX3_goThrough 73 = .ok (.iload 4, 2) := by decide +kernel
theorem dX3_goThrough_75 : decode cX3_goThrough 75 = .ok (.ifCond .eq 37, 3) := by decide +kernel
theorem dX3_goThrough_78 : decode cX3_goThrough 78 = .ok (.iload 5, 2) := by decide +kernel
theorem dX3_goThrough_80 : decode cX3_goThrough 80 = .ok (.aload_n 1, 1) := by decide +kernel
theorem dX3_goThrough_81 : decode cX3_goThrough 81 = .ok (.getfield 27, 3) := by decide +kernel
theorem dX3_goThrough_84 : decode cX3_goThrough 84 = .ok (.if_icmp .ge 28, 3) := by decide +kernel
theorem dX3_goThrough_87 : decode cX3_goThrough 87 = .ok (.aload_n 0, 1) := by decide +kernel
theorem dX3_goThrough_88 : decode cX3_goThrough 88 = .ok (.aload_n 1, 1) := by decide +kernel
theorem dX3_goThrough_89 : decode cX3_goThrough 89 = .ok (.iload_n 3, 1) := by decide +kernel
theorem dX3_goThrough_90 : decode cX3_goThrough 90 = .ok (.iload 5, 2) := by decide +kernel
theorem dX3_goThrough_92 : decode cX3_goThrough 92 = .ok (.invokevirtual 47, 3) := by decide +kernel
theorem dX3_goThrough_95 : decode cX3_goThrough 95 = .ok (.ifCond .eq 11, 3) := by decide +kernel
theorem dX3_goThrough_98 : decode cX3_goThrough 98 = .ok (.aload_n 0, 1) := by decide +kernel
theorem dX3_goThrough_99 : decode cX3_goThrough 99 = .ok (.aload_n 1, 1) := by decide +kernel
theorem dX3_goThrough_100 : decode cX3_goThrough 100 = .ok (.iload_n 3, 1) := by decide +kernel
theorem dX3_goThrough_101 : decode cX3_goThrough 101 = .ok (.iload 5, 2) := by decide +kernel
theorem dX3_goThrough_103 : decode cX3_goThrough 103 = .ok (.invokevirtual 51, 3) := by decide +kernel
theorem dX3_goThrough_106 : decode cX3_goThrough 106 = .ok (.iinc 5 1, 3) := by decide +kernel
theorem dX3_goThrough_109 : decode cX3_goThrough 109 = .ok (.goto (-36), 3) := by decide +kernel
theorem dX3_goThrough_112 : decode cX3_goThrough 112 = .ok (.iinc 3 1, 3) := by decide +kernel
theorem dX3_goThrough_115 : decode cX3_goThrough 115 = .ok (.goto (-73), 3) := by decide +kernel
theorem dX3_goThrough_118 : decode cX3_goThrough 118 = .ok (.return_, 1) := by decide +kernel
theorem dX3_takes_0 : decode cX3_takes 0 = .ok (.aload_n 0, 1) := by decide +kernel
theorem dX3_takes_1 : decode cX3_takes 1 = .ok (.getfield 21, 3) := by decide +kernel
theorem dX3_takes_4 : decode cX3_takes 4 = .ok (.iload_n 3, 1) := by decide +kernel
theorem dX3_takes_5 : decode cX3_takes 5 = .ok (.iaload, 1) := by decide +kernel
theorem dX3_takes_6 : decode cX3_takes 6 = .ok (.iconst 1, 1) := by decide +kernel
theorem dX3_takes_7 : decode cX3_takes 7 = .ok (.iand, 1) := by decide +kernel
theorem dX3_takes_8 : decode cX3_takes 8 = .ok (.ifCond .eq 7, 3) := by decide +kernel
theorem dX3_takes_11 : decode cX3_takes 11 = .ok (.iconst 1, 1) := by decide +kernel
theorem dX3_takes_12 : decode cX3_takes 12 = .ok (.goto 4, 3) := by decide +kernel
theorem dX3_takes_15 : decode cX3_takes 15 = .ok (.iconst 0, 1) := by decide +kernel
theorem dX3_takes_16 : decode cX3_takes 16 = .ok (.istore 4, 2) := by decide +kernel
theorem dX3_takes_18 : decode cX3_takes 18 = .ok (.aload_n 1, 1) := by decide +kernel
theorem dX3_takes_19 : decode cX3_takes 19 = .ok (.getfield 33, 3) := by decide +kernel
theorem dX3_takes_22 : decode cX3_takes 22 = .ok (.iload_n 2, 1) := by decide +kernel
theorem dX3_takes_23 : decode cX3_takes 23 = .ok (.iaload, 1) := by decide +kernel
theorem dX3_takes_24 : decode cX3_takes 24 = .ok (.tableswitch 129 2 8 #[82, 129, 129, 65, 129, 44, 108], 44) := by decide +kernel
theorem dX3_takes_68 : decode cX3_takes 68 = .ok (.aload_n 1, 1) := by decide +kernel
theorem dX3_takes_69 : decode cX3_takes 69 = .ok (.getfield 55, 3) := by decide +kernel
theorem dX3_takes_72 : decode cX3_takes 72 = .ok (.iload_n 3, 1) := by decide +kernel
theorem dX3_takes_73 : decode cX3_takes 73 = .ok (.iaload, 1) := by decide +kernel
theorem dX3_takes_74 : decode cX3_takes 74 = .ok (.aload_n 1, 1) := by decide +kernel
theorem dX3_takes_75 : decode cX3_takes 75 = .ok (.getfield 58, 3) := by decide +kernel
theorem dX3_takes_78 : decode cX3_takes 78 = .ok (.iload_n 2, 1) := by decide +kernel
theorem dX3_takes_79 : decode cX3_takes 79 = .ok (.iaload, 1) := by decide +kernel
theorem dX3_takes_80 : decode cX3_takes 80 = .ok (.if_icmp .ne 7, 3) := by decide +kernel
theorem dX3_takes_83 : decode cX3_takes 83 = .ok (.iconst 1, 1) := by decide +kernel
theorem dX3_takes_84 : decode cX3_takes 84 = .ok (.goto 4, 3) := by decide +kernel
theorem dX3_takes_87 : decode cX3_takes 87 = .ok (.iconst 0, 1) := by decide +kernel
theorem dX3_takes_88 : decode cX3_takes 88 = .ok (.ireturn, 1) := by decide +kernel
theorem dX3_takes_89 : decode cX3_takes 89 = .ok (.aload_n 0, 1) := by decide +kernel
theorem dX3_takes_90 : decode cX3_takes 90 = .ok (.getfield 21, 3) := by decide +kernel
theorem dX3_takes_93 : decode cX3_takes 93 = .ok (.iload_n 3, 1) := by decide +kernel
theorem dX3_takes_94 : decode cX3_takes 94 = .ok (.iaload, 1) := by decide +kernel
theorem dX3_takes_95 : decode cX3_takes 95 = .ok (.iconst 2, 1) := by decide +kernel
theorem dX3_takes_96 : decode cX3_takes 96 = .ok (.iand, 1) := by decide +kernel
theorem dX3_takes_97 : decode cX3_takes 97 = .ok (.ifCond .eq 7, 3) := by decide +kernel
theorem dX3_takes_100 : decode cX3_takes 100 = .ok (.iconst 1, 1) := by decide +kernel
theorem dX3_takes_101 : decode cX3_takes 101 = .ok (.goto 4, 3) := by decide +kernel
theorem dX3_takes_104 : decode cX3_takes 104 = .ok (.iconst 0, 1) := by decide +kernel
theorem dX3_takes_105 : decode cX3_takes 105 = .ok (.ireturn, 1) := by decide +kernel
theorem dX3_takes_106 : decode cX3_takes 106 = .ok (.iload 4, 2) := by decide +kernel
theorem dX3_takes_108 : decode cX3_takes 108 = .ok (.ifCond .eq 22, 3) := by decide +kernel
theorem dX3_takes_111 : decode cX3_takes 111 = .ok (.aload_n 0, 1) := by decide +kernel
theorem dX3_takes_112 : decode cX3_takes 112 = .ok (.getfield 9, 3) := by decide +kernel
theorem dX3_takes_115 : decode cX3_takes 115 = .ok (.iload_n 3, 1) := by decide +kernel
theorem dX3_takes_116 : decode cX3_takes 116 = .ok (.iaload, 1) := by decide +kernel
theorem dX3_takes_117 : decode cX3_takes 117 = .ok (.aload_n 0, 1) := by decide +kernel
theorem dX3_takes_118 : decode cX3_takes 118 = .ok (.getfield 9, 3) := by decide +kernel
theorem dX3_takes_121 : decode cX3_takes 121 = .ok (.iload_n 2, 1) := by decide +kernel
theorem dX3_takes_122 : decode cX3_takes 122 = .ok (.iaload, 1) := by decide +kernel
theorem dX3_takes_123 : decode cX3_takes 123 = .ok (.if_icmp .ne 7, 3) := by decide +kernel
theorem dX3_takes_126 : decode cX3_takes 126 = .ok (.iconst 1, 1) := by decide +kernel
theorem dX3_takes_127 : decode cX3_takes 127 = .ok (.goto 4, 3) := by decide +kernel
theorem dX3_takes_130 : decode cX3_takes 130 = .ok (.iconst 0, 1) := by decide +kernel
theorem dX3_takes_131 : decode cX3_takes 131 = .ok (.ireturn, 1) := by decide +kernel
theorem dX3_takes_132 : decode cX3_takes 132 = .ok (.iload 4, 2) := by decide +kernel
theorem dX3_takes_134 : decode cX3_takes 134 = .ok (.ifCond .eq 17, 3) := by decide +kernel
theorem dX3_takes_137 : decode cX3_takes 137 = .ok (.aload_n 0, 1) := by decide +kernel
theorem dX3_takes_138 : decode cX3_takes 138 = .ok (.getfield 24, 3) := by decide +kernel
theorem dX3_takes_141 : decode cX3_takes 141 = .ok (.iload_n 3, 1) := by decide +kernel
theorem dX3_takes_142 : decode cX3_takes 142 = .ok (.iaload, 1) := by decide +kernel
theorem dX3_takes_143 : decode cX3_takes 143 = .ok (.iconst 3, 1) := by decide +kernel
theorem dX3_takes_144 : decode cX3_takes 144 = .ok (.if_icmp .lt 7, 3) := by decide +kernel
theorem dX3_takes_147 : decode cX3_takes 147 = .ok (.iconst 1, 1) := by decide +kernel
theorem dX3_takes_148 : decode cX3_takes 148 = .ok (.goto 4, 3) := by decide +kernel
theorem dX3_takes_151 : decode cX3_takes 151 = .ok (.iconst 0, 1) := by decide +kernel
theorem dX3_takes_152 : decode cX3_takes 152 = .ok (.ireturn, 1) := by decide +kernel
theorem dX3_takes_153 : decode cX3_takes 153 = .ok (.iload 4, 2) := by decide +kernel
theorem dX3_takes_155 : decode cX3_takes 155 = .ok (.ireturn, 1) := by decide +kernel
theorem dX3_change_0 : decode cX3_change 0 = .ok (.aload_n 1, 1) := by decide +kernel
theorem dX3_change_1 : decode cX3_change 1 = .ok (.getfield 33, 3) := by decide +kernel
theorem dX3_change_4 : decode cX3_change 4 = .ok (.iload_n 2, 1) := by decide +kernel
theorem dX3_change_5 : decode cX3_change 5 = .ok (.iaload, 1) := by decide +kernel
theorem dX3_change_6 : decode cX3_change 6 = .ok (.tableswitch 136 2 8 #[110, 90, 100, 57, 70, 42, 123], 42) := by decide +kernel
theorem dX3_change_48 : decode cX3_change 48 = .ok (.aload_n 0, 1) := by decide +kernel
theorem dX3_change_49 : decode cX3_change 49 = .ok (.getfield 9, 3) := by decide +kernel
theorem dX3_change_52 : decode cX3_change 52 = .ok (.iload_n 3, 1) := by decide +kernel
theorem dX3_change_53 : decode cX3_change 53 = .ok (.aload_n 1, 1) := by decide +kernel
theorem dX3_change_54 : decode cX3_change 54 = .ok (.getfield 36, 3) := by decide +kernel
theorem dX3_change_57 : decode cX3_change 57 = .ok (.iload_n 2, 1) := by decide +kernel
theorem dX3_change_58 : decode cX3_change 58 = .ok (.iaload, 1) := by decide +kernel
theorem dX3_change_59 : decode cX3_change 59 = .ok (.iastore, 1) := by decide +kernel
theorem dX3_change_60 : decode cX3_change 60 = .ok (.goto 82, 3) := by decide +kernel
theorem dX3_change_63 : decode cX3_change 63 = .ok (.aload_n 0, 1) := by decide +kernel
theorem dX3_change_64 : decode cX3_change 64 = .ok (.getfield 15, 3) := by decide +kernel
theorem dX3_change_67 : decode cX3_change 67 = .ok (.iload_n 3, 1) := by decide +kernel
theorem dX3_change_68 : decode cX3_change 68 = .ok (.dup2, 1) := by decide +kernel
theorem dX3_change_69 : decode cX3_change 69 = .ok (.iaload, 1) := by decide +kernel
theorem dX3_change_70 : decode cX3_change 70 = .ok (.iconst 1, 1) := by decide +kernel
theorem dX3_change_71 : decode cX3_change 71 = .ok (.ior, 1) := by decide +kernel
theorem dX3_change_72 : decode cX3_change 72 = .ok (.iastore, 1) := by decide +kernel
theorem dX3_change_73 : decode cX3_change 73 = .ok (.goto 69, 3) := by decide +kernel
theorem dX3_change_76 : decode cX3_change 76 = .ok (.aload_n 0, 1) := by decide +kernel
theorem dX3_change_77 : decode cX3_change 77 = .ok (.getfield 15, 3) := by decide +kernel
theorem dX3_change_80 : decode cX3_change 80 = .ok (.iload_n 3, 1) := by decide +kernel
theorem dX3_change_81 : decode cX3_change 81 = .ok (.aload_n 0, 1) := by decide +kernel
theorem dX3_change_82 : decode cX3_change 82 = .ok (.getfield 15, 3) := by decide +kernel
theorem dX3_change_85 : decode cX3_change 85 = .ok (.iload_n 3, 1) := by decide +kernel
theorem dX3_change_86 : decode cX3_change 86 = .ok (.iaload, 1) := by decide +kernel
theorem dX3_change_87 : decode cX3_change 87 = .ok (.bipush (-2), 2) := by decide +kernel
theorem dX3_change_89 : decode cX3_change 89 = .ok (.iand, 1) := by decide +kernel
theorem dX3_change_90 : decode cX3_change 90 = .ok (.iconst 2, 1) := by decide +kernel
theorem dX3_change_91 : decode cX3_change 91 = .ok (.ior, 1) := by decide +kernel
theorem dX3_change_92 : decode cX3_change 92 = .ok (.iastore, 1) := by decide +kernel
theorem dX3_change_93 : decode cX3_change 93 = .ok (.goto 49, 3) := by decide +kernel
theorem dX3_change_96 : decode cX3_change 96 = .ok (.aload_n 0, 1) := by decide +kernel
theorem dX3_change_97 : decode cX3_change 97 = .ok (.getfield 18, 3) := by decide +kernel
theorem dX3_change_100 : decode cX3_change 100 = .ok (.iload_n 3, 1) := by decide +kernel
theorem dX3_change_101 : decode cX3_change 101 = .ok (.iconst 1, 1) := by decide +kernel
theorem dX3_change_102 : decode cX3_change 102 = .ok (.iastore, 1) := by decide +kernel
theorem dX3_change_103 : decode cX3_change 103 = .ok (.goto 39, 3) := by decide +kernel
theorem dX3_change_106 : decode cX3_change 106 = .ok (.aload_n 0, 1) := by decide +kernel
theorem dX3_change_107 : decode cX3_change 107 = .ok (.getfield 18, 3) := by decide +kernel
theorem dX3_change_110 : decode cX3_change 110 = .ok (.iload_n 3, 1) := by decide +kernel
theorem dX3_change_111 : decode cX3_change 111 = .ok (.iconst 4, 1) := by decide +kernel
theorem dX3_change_112 : decode cX3_change 112 = .ok (.iastore, 1) := by decide +kernel
theorem dX3_change_113 : decode cX3_change 113 = .ok (.goto 29, 3) := by decide +kernel
theorem dX3_change_116 : decode cX3_change 116 = .ok (.aload_n 0, 1) := by decide +kernel
theorem dX3_change_117 : decode cX3_change 117 = .ok (.getfield 18, 3) := by decide +kernel
theorem dX3_change_120 : decode cX3_change 120 = .ok (.iload_n 3, 1) := by decide +kernel
theorem dX3_change_121 : decode cX3_change 121 = .ok (.dup2, 1) := by decide +kernel
theorem dX3_change_122 : decode cX3_change 122 = .ok (.iaload, 1) := by decide +kernel
theorem dX3_change_123 : decode cX3_change 123 = .ok (.iconst 2, 1) := by decide +kernel
theorem dX3_change_124 : decode cX3_change 124 = .ok (.iadd, 1) := by decide +kernel
theorem dX3_change_125 : decode cX3_change 125 = .ok (.iastore, 1) := by decide +kernel
theorem dX3_change_126 : decode cX3_change 126 = .ok (.goto 16, 3) := by decide +kernel
theorem dX3_change_129 : decode cX3_change 129 = .ok (.aload_n 0, 1) := by decide +kernel
theorem dX3_change_130 : decode cX3_change 130 = .ok (.getfield 18, 3) := by decide +kernel
theorem dX3_change_133 : decode cX3_change 133 = .ok (.iload_n 3, 1) := by decide +kernel
theorem dX3_change_134 : decode cX3_change 134 = .ok (.dup2, 1) := by decide +kernel
theorem dX3_change_135 : decode cX3_change 135 = .ok (.iaload, 1) := by decide +kernel
theorem dX3_change_136 : decode cX3_change 136 = .ok (.iconst 2, 1) := by decide +kernel
theorem dX3_change_137 : decode cX3_change 137 = .ok (.imul, 1) := by decide +kernel
theorem dX3_change_138 : decode cX3_change 138 = .ok (.iastore, 1) := by decide +kernel
theorem dX3_change_139 : decode cX3_change 139 = .ok (.goto 3, 3) := by decide +kernel
theorem dX3_change_142 : decode cX3_change 142 = .ok (.return_, 1) := by decide +kernel
set_option maxRecDepth 20000 in
theorem ggX4_init_X2_init : GoodIn wsX4_init wsX2_init := goodIn_r _ [23, 24, 2, 3, 4, 25, 26, 27, 28, 63, 64, 65, 66, 67] (by decide +kernel) (by decide +kernel)
set_option maxRecDepth 20000 in
theorem gX4_init_X2_init_n15 : GoodIn wsX4_init (wsX2_init) := ggX4_init_X2_init
set_option maxRecDepth 20000 in
theorem ggX4_init_X0_init : GoodIn wsX4_init wsX0_init := goodIn_r _ [30, 31, 2, 3, 4, 32, 33, 34, 35, 36, 37, 68, 69, 70, 71, 72, 73] (by decide +kernel) (by decide +kernel)
set_option maxRecDepth 20000 in
theorem gX4_init_X0_init_n22 : GoodIn wsX4_init (wsX0_init) := ggX4_init_X0_init
set_option maxRecDepth 20000 in
theorem ggX4_init_X3_init : GoodIn wsX4_init wsX3_init := goodIn_r _ [39, 40, 2, 3, 4, 41, 42, 43, 44, 45, 74, 75, 76, 77, 78] (by decide +kernel) (by decide +kernel)
set_option maxRecDepth 20000 in
theorem gX4_init_X3_init_n29 : GoodIn wsX4_init (wsX3_init) := ggX4_init_X3_init
set_option maxRecDepth 20000 in
theorem ggX4_init_X1_init : GoodIn wsX4_init wsX1_init := goodIn_r _ [47, 48, 2, 3, 4, 49, 50, 51, 79, 80, 81, 82, 83] (by decide +kernel) (by decide +kernel)
set_option maxRecDepth 20000 in
theorem gX4_init_X1_init_n36 : GoodIn wsX4_init (wsX1_init) := ggX4_init_X1_init
theorem dX4_init_0 : decode cX4_init 0 = .ok (.aload_n 0, 1) := by decide +kernel
theorem dX4_init_1 : decode cX4_init 1 = .ok (.invokespecial 1, 3) := by decide +kernel
theorem dX4_init_4 : decode cX4_init 4 = .ok (.aload_n 0, 1) := by decide +kernel
theorem dX4_init_5 : decode cX4_init 5 = .ok (.iconst 3, 1) := by decide +kernel
theorem dX4_init_6 : decode cX4_init 6 = .ok (.newarray .int, 2) := by decide +kernel
theorem dX4_init_8 : decode cX4_init 8 = .ok (.putfield 9, 3) := by decide +kernel
theorem dX4_init_11 : decode cX4_init 11 = .ok (.iconst 0, 1) := by decide +kernel
theorem dX4_init_12 : decode cX4_init 12 = .ok (.istore_n 1, 1) := by decide +kernel
theorem dX4_init_13 : decode cX4_init 13 = .ok (.iload_n 1, 1) := by decide +kernel
theorem dX4_init_14 : decode cX4_init 14 = .ok (.iconst 3, 1) := by decide +kernel
theorem dX4_init_15 : decode cX4_init 15 = .ok (.if_icmp .ge 17, 3) := by decide +kernel
theorem dX4_init_18 : decode cX4_init 18 = .ok (.aload_n 0, 1) := by decide +kernel
theorem dX4_init_19 : decode cX4_init 19 = .ok (.getfield 9, 3) := by decide +kernel
theorem dX4_init_22 : decode cX4_init 22 = .ok (.iload_n 1, 1) := by decide +kernel
theorem dX4_init_23 : decode cX4_init 23 = .ok (.bipush 6, 2) := by decide +kernel
theorem dX4_init_25 : decode cX4_init 25 = .ok (.iastore, 1) := by decide +kernel
theorem dX4_init_26 : decode cX4_init 26 = .ok (.iinc 1 1, 3) := by decide +kernel
theorem dX4_init_29 : decode cX4_init 29 = .ok (.goto (-16), 3) := by decide +kernel
theorem dX4_init_32 : decode cX4_init 32 = .ok (.aload_n 0, 1) := by decide +kernel
theorem dX4_init_33 : decode cX4_init 33 = .ok (.new 13, 3) := by decide +kernel
theorem dX4_init_36 : decode cX4_init 36 = .ok (.dup, 1) := by decide +kernel
theorem dX4_init_37 : decode cX4_init 37 = .ok (.invokespecial 15, 3) := by decide +kernel
theorem dX4_init_40 : decode cX4_init 40 = .ok (.putfield 16, 3) := by decide +kernel
theorem dX4_init_43 : decode cX4_init 43 = .ok (.aload_n 0, 1) := by decide +kernel
theorem dX4_init_44 : decode cX4_init 44 = .ok (.new 20, 3) := by decide +kernel
theorem dX4_init_47 : decode cX4_init 47 = .ok (.dup, 1) := by decide +kernel
theorem dX4_init_48 : decode cX4_init 48 = .ok (.invokespecial 22, 3) := by decide +kernel
theorem dX4_init_51 : decode cX4_init 51 = .ok (.putfield 23, 3) := by decide +kernel
theorem dX4_init_54 : decode cX4_init 54 = .ok (.aload_n 0, 1) := by decide +kernel
theorem dX4_init_55 : decode cX4_init 55 = .ok (.new 27, 3) := by decide +kernel
theorem dX4_init_58 : decode cX4_init 58 = .ok (.dup, 1) := by decide +kernel
theorem dX4_init_59 : decode cX4_init 59 = .ok (.invokespecial 29, 3) := by decide +kernel
theorem dX4_init_62 : decode cX4_init 62 = .ok (.putfield 30, 3) := by decide +kernel
theorem dX4_init_65 : decode cX4_init 65 = .ok (.aload_n 0, 1) := by decide +kernel
theorem dX4_init_66 : decode cX4_init 66 = .ok (.new 34, 3) := by decide +kernel
theorem dX4_init_69 : decode cX4_init 69 = .ok (.dup, 1) := by decide +kernel
theorem dX4_init_70 : decode cX4_init 70 = .ok (.invokespecial 36, 3) := by decide +kernel
theorem dX4_init_73 : decode cX4_init 73 = .ok (.putfield 37, 3) := by decide +kernel
theorem dX4_init_76 : decode cX4_init 76 = .ok (.return_, 1) := by decide +kernel
set_option maxRecDepth 20000 in
theorem ggX4_play_X4_findObstacle : GoodIn wsX4_play wsX4_findObstacle := goodIn_r _ [14, 6, 9, 5, 15, 16, 17, 13, 18, 19, 20, 21, 22, 23, 24, 25, 26, 27, 28, 29, 30, 31, 32, 33, 34, 35, 36, 37, 38, 39, 40, 41, 42, 43, 44, 45, 46, 47, 48, 49, 50, 85, 86, 87, 88, 89, 90, 91, 92, 93, 94, 95, 96, 97, 98, 99, 100, 101, 102, 103, 104, 105, 106] (by decide +kernel) (by decide +kernel)
set_option maxRecDepth 20000 in
theorem gX4_play_X4_findObstacle : GoodIn wsX4_play (wsV RX4 48 RX4 yX4_findObstacle wsX4_findObstacle) := goodIn_app (goodIn_of _ (by decide +kernel)) ggX4_play_X4_findObstacle
set_option maxRecDepth 20000 in
theorem ggX4_play_X4_costOf : GoodIn wsX4_play wsX4_costOf := goodIn_r _ [26, 27] (by decide +kernel) (by decide +kernel)
set_option maxRecDepth 20000 in
theorem gX4_play_X4_costOf : GoodIn wsX4_play (va_wsS RX4 61 yX4_costOf wsX4_costOf) := goodIn_app (goodIn_of _ (by decide +kernel)) ggX4_play_X4_costOf
set_option maxRecDepth 20000 in
theorem ggX4_play_X4_pay : GoodIn wsX4_play wsX4_pay := goodIn_r _ [54, 23, 85, 86, 87, 88, 89, 90, 91, 92, 93, 94, 95] (by decide +kernel) (by decide +kernel)
set_option maxRecDepth 20000 in
theorem gX4_play_X4_pay : GoodIn wsX4_play (wsV RX4 65 RX4 yX4_pay wsX4_pay) := goodIn_app (goodIn_of _ (by decide +kernel)) ggX4_play_X4_pay
set_option maxRecDepth 20000 in
theorem ggX4_play_X4_targetId : GoodIn wsX4_play wsX4_targetId := goodIn_r _ [58, 32, 59, 6, 60, 34, 35, 36, 37, 38, 39, 40, 41, 42, 43, 44, 45, 46, 47, 48, 49, 50, 85, 86, 87, 88, 89, 90, 91, 92, 93, 94, 95, 102, 103, 104, 105, 106, 96, 97, 98, 99, 100, 101] (by decide +kernel) (by decide +kernel)
set_option maxRecDepth 20000 in
theorem gX4_play_X4_targetId : GoodIn wsX4_play (wsV RX4 69 RX4 yX4_targetId wsX4_targetId) := goodIn_app (goodIn_of _ (by decide +kernel)) ggX4_play_X4_targetId
set_option maxRecDepth 20000 in
theorem ggX4_play_X4_newId : GoodIn wsX4_play wsX4_newId := goodIn_r _ [64, 65, 85, 86, 87, 88, 89, 90, 91, 92, 93, 94, 95] (by decide +kernel) (by decide +kernel)
set_option maxRecDepth 20000 in
theorem gX4_play_X4_newId : GoodIn wsX4_play (wsV RX4 72 RX4 yX4_newId wsX4_newId) := goodIn_app (goodIn_of _ (by decide +kernel)) ggX4_play_X4_newId
set_option maxRecDepth 20000 in
theorem ggX4_play_X0_push : GoodIn wsX4_play wsX0_push := goodIn_r _ [69, 45, 70, 71, 72, 73, 74, 96, 97, 98, 99, 100, 101] (by decide +kernel) (by decide +kernel)
set_option maxRecDepth 20000 in
theorem gX4_play_X0_push : GoodIn wsX4_play (wsV RX4 76 RX0 yX0_push wsX0_push) := goodIn_app (goodIn_of _ (by decide +kernel)) ggX4_play_X0_push
set_option maxRecDepth 20000 in
theorem ggX4_play_X1_forget : GoodIn wsX4_play wsX1_forget := goodIn_r _ [79, 80, 81, 107, 108, 109, 110, 111] (by decide +kernel) (by decide +kernel)
set_option maxRecDepth 20000 in
theorem gX4_play_X1_forget : GoodIn wsX4_play (wsV RX4 80 RX1 yX1_forget wsX1_forget) := goodIn_app (goodIn_of _ (by decide +kernel)) ggX4_play_X1_forget
set_option maxRecDepth 20000 in
theorem ggX4_play_X4_nextPlayer : GoodIn wsX4_play wsX4_nextPlayer := goodIn_r _ [84] (by decide +kernel) (by decide +kernel)
set_option maxRecDepth 20000 in
theorem gX4_play_X4_nextPlayer : GoodIn wsX4_play (va_wsS RX4 86 yX4_nextPlayer wsX4_nextPlayer) := goodIn_app (goodIn_of _ (by decide +kernel)) ggX4_play_X4_nextPlayer
theorem dX4_play_0 : decode cX4_play 0 = .ok (.iload_n 1, 1) := by decide +kernel
theorem dX4_play_1 : decode cX4_play 1 = .ok (.ifCond .lt 9, 3) := by decide +kernel
theorem dX4_play_4 : decode cX4_play 4 = .ok (.iload_n 1, 1) := by decide +kernel
theorem dX4_play_5 : decode cX4_play 5 = .ok (.bipush 14, 2) := by decide +kernel
theorem dX4_play_7 : decode cX4_play 7 = .ok (.if_icmp .lt 13, 3) := by decide +kernel
theorem dX4_play_10 : decode cX4_play 10 = .ok (.new 41, 3) := by decide +kernel
theorem dX4_play_13 : decode cX4_play 13 = .ok (.dup, 1) := by decide +kernel
theorem dX4_play_14 : decode cX4_play 14 = .ok (.ldc 43, 2) := by decide +kernel
theorem dX4_play_16 : decode cX4_play 16 = .ok (.invokespecial 45, 3) := by decide +kernel
theorem dX4_play_19 : decode cX4_play 19 = .ok (.athrow, 1) := by decide +kernel
theorem dX4_play_20 : decode cX4_play 20 = .ok (.aload_n 0, 1) := by decide +kernel
theorem dX4_play_21 : decode cX4_play 21 = .ok (.iload_n 1, 1) := by decide +kernel
theorem dX4_play_22 : decode cX4_play 22 = .ok (.iload_n 2, 1) := by decide +kernel
theorem dX4_play_23 : decode cX4_play 23 = .ok (.invokevirtual 48, 3) := by decide +kernel
theorem dX4_play_26 : decode cX4_play 26 = .ok (.ifCond .eq 13, 3) := by decide +kernel
theorem dX4_play_29 : decode cX4_play 29 = .ok (.new 52, 3) := by decide +kernel
theorem dX4_play_32 : decode cX4_play 32 = .ok (.dup, 1) := by decide +kernel
theorem dX4_play_33 : decode cX4_play 33 = .ok (.ldc 54, 2) := by decide +kernel
theorem dX4_play_35 : decode cX4_play 35 = .ok (.invokespecial 56, 3) := by decide +kernel
theorem dX4_play_38 : decode cX4_play 38 = .ok (.athrow, 1) := by decide +kernel
theorem dX4_play_39 : decode cX4_play 39 = .ok (.aload_n 0, 1) := by decide +kernel
theorem dX4_play_40 : decode cX4_play 40 = .ok (.aload_n 0, 1) := by decide +kernel
theorem dX4_play_41 : decode cX4_play 41 = .ok (.getfield 57, 3) := by decide +kernel
theorem dX4_play_44 : decode cX4_play 44 = .ok (.iload_n 1, 1) := by decide +kernel
theorem dX4_play_45 : decode cX4_play 45 = .ok (.invokestatic 61, 3) := by decide +kernel
theorem dX4_play_48 : decode cX4_play 48 = .ok (.ineg, 1) := by decide +kernel
theorem dX4_play_49 : decode cX4_play 49 = .ok (.invokevirtual 65, 3) := by decide +kernel
theorem dX4_play_52 : decode cX4_play 52 = .ok (.aload_n 0, 1) := by decide +kernel
theorem dX4_play_53 : decode cX4_play 53 = .ok (.getfield 23, 3) := by decide +kernel
theorem dX4_play_56 : decode cX4_play 56 = .ok (.iload_n 1, 1) := by decide +kernel
theorem dX4_play_57 : decode cX4_play 57 = .ok (.iconst 0, 1) := by decide +kernel
theorem dX4_play_58 : decode cX4_play 58 = .ok (.aload_n 0, 1) := by decide +kernel
theorem dX4_play_59 : decode cX4_play 59 = .ok (.getfield 57, 3) := by decide +kernel
theorem dX4_play_62 : decode cX4_play 62 = .ok (.aload_n 0, 1) := by decide +kernel
theorem dX4_play_63 : decode cX4_play 63 = .ok (.iload_n 1, 1) := by decide +kernel
theorem dX4_play_64 : decode cX4_play 64 = .ok (.iload_n 2, 1) := by decide +kernel
theorem dX4_play_65 : decode cX4_play 65 = .ok (.invokevirtual 69, 3) := by decide +kernel
theorem dX4_play_68 : decode cX4_play 68 = .ok (.aload_n 0, 1) := by decide +kernel
theorem dX4_play_69 : decode cX4_play 69 = .ok (.invokevirtual 72, 3) := by decide +kernel
theorem dX4_play_72 : decode cX4_play 72 = .ok (.invokevirtual 76, 3) := by decide +kernel
theorem dX4_play_75 : decode cX4_play 75 = .ok (.aload_n 0, 1) := by decide +kernel
theorem dX4_play_76 : decode cX4_play 76 = .ok (.getfield 37, 3) := by decide +kernel
theorem dX4_play_79 : decode cX4_play 79 = .ok (.invokevirtual 80, 3) := by decide +kernel
theorem dX4_play_82 : decode cX4_play 82 = .ok (.aload_n 0, 1) := by decide +kernel
theorem dX4_play_83 : decode cX4_play 83 = .ok (.iconst 0, 1) := by decide +kernel
theorem dX4_play_84 : decode cX4_play 84 = .ok (.putfield 83, 3) := by decide +kernel
theorem dX4_play_87 : decode cX4_play 87 = .ok (.aload_n 0, 1) := by decide +kernel
theorem dX4_play_88 : decode cX4_play 88 = .ok (.aload_n 0, 1) := by decide +kernel
theorem dX4_play_89 : decode cX4_play 89 = .ok (.getfield 57, 3) := by decide +kernel
theorem dX4_play_92 : decode cX4_play 92 = .ok (.invokestatic 86, 3) := by decide +kernel
theorem dX4_play_95 : decode cX4_play 95 = .ok (.putfield 57, 3) := by decide +kernel
theorem dX4_play_98 : decode cX4_play 98 = .ok (.aload_n 0, 1) := by decide +kernel
theorem dX4_play_99 : decode cX4_play 99 = .ok (.getfield 23, 3) := by decide +kernel
theorem dX4_play_102 : decode cX4_play 102 = .ok (.getfield 89, 3) := by decide +kernel
theorem dX4_play_105 : decode cX4_play 105 = .ok (.ireturn, 1) := by decide +kernel
set_option maxRecDepth 20000 in
theorem ggX4_obstacle_X4_findObstacle : GoodIn wsX4_obstacle wsX4_findObstacle := goodIn_r _ [7, 8, 9, 10, 11, 12, 13, 6, 14, 15, 16, 17, 18, 19, 20, 21, 22, 23, 24, 25, 26, 27, 28, 29, 30, 31, 32, 33, 34, 35, 36, 37, 38, 39, 40, 41, 42, 43, 44, 45, 46, 47, 48, 49, 50, 51, 52, 53, 54, 55, 56, 57, 58, 59, 60, 61, 62, 63, 64, 65, 66, 67, 68] (by decide +kernel) (by decide +kernel)
set_option maxRecDepth 20000 in
theorem gX4_obstacle_X4_findObstacle : GoodIn wsX4_obstacle (wsV RX4 48 RX4 yX4_findObstacle wsX4_findObstacle) := goodIn_app (goodIn_of _ (by decide +kernel)) ggX4_obstacle_X4_findObstacle
theorem dX4_obstacle_0 : decode cX4_obstacle 0 = .ok (.iload_n 1, 1) := by decide +kernel
theorem dX4_obstacle_1 : decode cX4_obstacle 1 = .ok (.ifCond .lt 9, 3) := by decide +kernel
theorem dX4_obstacle_4 : decode cX4_obstacle 4 = .ok (.iload_n 1, 1) := by decide +kernel
theorem dX4_obstacle_5 : decode cX4_obstacle 5 = .ok (.bipush 14, 2) := by decide +kernel
theorem dX4_obstacle_7 : decode cX4_obstacle 7 = .ok (.if_icmp .lt 13, 3) := by decide +kernel
theorem dX4_obstacle_10 : decode cX4_obstacle 10 = .ok (.new 41, 3) := by decide +kernel
theorem dX4_obstacle_13 : decode cX4_obstacle 13 = .ok (.dup, 1) := by decide +kernel
theorem dX4_obstacle_14 : decode cX4_obstacle 14 = .ok (.ldc 43, 2) := by decide +kernel
theorem dX4_obstacle_16 : decode cX4_obstacle 16 = .ok (.invokespecial 45, 3) := by decide +kernel
theorem dX4_obstacle_19 : decode cX4_obstacle 19 = .ok (.athrow, 1) := by decide +kernel
theorem dX4_obstacle_20 : decode cX4_obstacle 20 = .ok (.aload_n 0, 1) := by decide +kernel
theorem dX4_obstacle_21 : decode cX4_obstacle 21 = .ok (.iload_n 1, 1) := by decide +kernel
theorem dX4_obstacle_22 : decode cX4_obstacle 22 = .ok (.iload_n 2, 1) := by decide +kernel
theorem dX4_obstacle_23 : decode cX4_obstacle 23 = .ok (.invokevirtual 48, 3) := by decide +kernel
theorem dX4_obstacle_26 : decode cX4_obstacle 26 = .ok (.ireturn, 1) := by decide +kernel
set_option maxRecDepth 20000 in
theorem ggX4_pass_X4_nextPlayer : GoodIn wsX4_pass wsX4_nextPlayer := goodIn_r _ [8] (by decide +kernel) (by decide +kernel)
set_option maxRecDepth 20000 in
theorem gX4_pass_X4_nextPlayer : GoodIn wsX4_pass (va_wsS RX4 86 yX4_nextPlayer wsX4_nextPlayer) := goodIn_app (goodIn_of _ (by decide +kernel)) ggX4_pass_X4_nextPlayer
set_option maxRecDepth 20000 in
theorem ggX4_pass_X4_resolveTop : GoodIn wsX4_pass wsX4_resolveTop := goodIn_r _ [12, 3, 4, 13, 14, 15, 16, 1, 17, 2, 18, 19, 20, 21, 22, 23, 24, 25, 26, 27, 28, 29, 30, 31, 7, 32, 33, 34, 35, 36, 37, 38, 39, 40, 41, 42, 43, 44, 45, 46, 47, 48, 49, 50, 51, 52, 53, 54, 55, 56, 57, 58, 59, 60, 61, 62, 63, 64, 65, 66, 67, 68, 69, 70, 71, 72, 73, 74, 75, 76, 77, 78, 79, 80, 81, 82, 83, 84, 85, 86, 87, 88, 89, 90, 91, 92, 93, 94, 95, 96, 97, 98, 99, 100, 101, 102, 103, 104, 105, 106, 107, 108, 109, 110, 111, 112, 113, 114, 115, 116, 117, 118, 119, 120, 121, 122, 123, 124, 125, 126, 127, 128, 129, 130, 131, 132, 133, 134, 135, 136, 137, 138, 139, 140, 141, 142, 143, 144, 145, 146, 147, 148, 5, 6, 8, 149, 150, 151, 152, 153, 154, 155, 156, 157, 158, 159, 160, 161, 162, 163, 164, 165, 166, 167, 168, 169, 170, 171, 172, 173, 174, 175, 176, 177, 178, 179, 180, 181, 182, 183, 184, 185, 186, 187, 188, 189, 190, 191, 192, 193, 194, 200, 201, 202, 203, 204, 205, 206, 207, 208, 209, 210, 211, 212, 213, 214, 215, 216, 217, 218, 219, 220, 221, 222, 223, 224, 225, 226, 227, 228, 229, 230, 231] (by decide +kernel) (by decide +kernel)
set_option maxRecDepth 20000 in
theorem gX4_pass_X4_resolveTop : GoodIn wsX4_pass (wsV RX4 92 RX4 yX4_resolveTop wsX4_resolveTop) := goodIn_app (goodIn_of _ (by decide +kernel)) ggX4_pass_X4_resolveTop
set_option maxRecDepth 20000 in
theorem ggX4_pass_X4_beginTurn : GoodIn wsX4_pass wsX4_beginTurn := goodIn_r _ [198, 17, 2, 1, 199, 153, 5, 6, 7, 8, 182, 183, 184, 160, 185, 176, 186, 34, 35, 36, 37, 38, 134, 135, 136, 137, 89, 33, 138, 139, 140, 3, 92, 93, 94, 95, 96, 97, 98, 99, 100, 101, 102, 103, 104, 105, 106, 107, 108, 109, 110, 111, 112, 113, 114, 115, 116, 117, 118, 119, 120, 121, 141, 142, 143, 144, 43, 44, 45, 46, 47, 145, 146, 147, 21, 148, 23, 24, 25, 26, 27, 28, 200, 201, 202, 203, 204, 205, 206, 207, 208, 209, 210, 227, 228, 229, 230, 231, 217, 218, 219, 220, 221, 222, 223, 224, 225, 226, 211, 212, 213, 214, 215, 216] (by decide +kernel) (by decide +kernel)
set_option maxRecDepth 20000 in
theorem gX4_pass_X4_beginTurn : GoodIn wsX4_pass (wsV RX4 95 RX4 yX4_beginTurn wsX4_beginTurn) := goodIn_app (goodIn_of _ (by decide +kernel)) ggX4_pass_X4_beginTurn
theorem dX4_pass_0 : decode cX4_pass 0 = .ok (.aload_n 0, 1) := by decide +kernel
theorem dX4_pass_1 : decode cX4_pass 1 = .ok (.dup, 1) := by decide +kernel
theorem dX4_pass_2 : decode cX4_pass 2 = .ok (.getfield 83, 3) := by decide +kernel
theorem dX4_pass_5 : decode cX4_pass 5 = .ok (.iconst 1, 1) := by decide +kernel
theorem dX4_pass_6 : decode cX4_pass 6 = .ok (.iadd, 1) := by decide +kernel
theorem dX4_pass_7 : decode cX4_pass 7 = .ok (.putfield 83, 3) := by decide +kernel
theorem dX4_pass_10 : decode cX4_pass 10 = .ok (.aload_n 0, 1) := by decide +kernel
theorem dX4_pass_11 : decode cX4_pass 11 = .ok (.getfield 83, 3) := by decide +kernel
theorem dX4_pass_14 : decode cX4_pass 14 = .ok (.iconst 3, 1) := by decide +kernel
theorem dX4_pass_15 : decode cX4_pass 15 = .ok (.if_icmp .ge 16, 3) := by decide +kernel
theorem dX4_pass_18 : decode cX4_pass 18 = .ok (.aload_n 0, 1) := by decide +kernel
theorem dX4_pass_19 : decode cX4_pass 19 = .ok (.aload_n 0, 1) := by decide +kernel
theorem dX4_pass_20 : decode cX4_pass 20 = .ok (.getfield 57, 3) := by decide +kernel
theorem dX4_pass_23 : decode cX4_pass 23 = .ok (.invokestatic 86, 3) := by decide +kernel
theorem dX4_pass_26 : decode cX4_pass 26 = .ok (.putfield 57, 3) := by decide +kernel
theorem dX4_pass_29 : decode cX4_pass 29 = .ok (.iconst 0, 1) := by decide +kernel
theorem dX4_pass_30 : decode cX4_pass 30 = .ok (.ireturn, 1) := by decide +kernel
theorem dX4_pass_31 : decode cX4_pass 31 = .ok (.aload_n 0, 1) := by decide +kernel
theorem dX4_pass_32 : decode cX4_pass 32 = .ok (.getfield 23, 3) := by decide +kernel
theorem dX4_pass_35 : decode cX4_pass 35 = .ok (.getfield 89, 3) := by decide +kernel
theorem dX4_pass_38 : decode cX4_pass 38 = .ok (.ifCond .le 9, 3) := by decide +kernel
theorem dX4_pass_41 : decode cX4_pass 41 = .ok (.aload_n 0, 1) := by decide +kernel
theorem dX4_pass_42 : decode cX4_pass 42 = .ok (.invokevirtual 92, 3) := by decide +kernel
theorem dX4_pass_45 : decode cX4_pass 45 = .ok (.iconst 1, 1) := by decide +kernel
theorem dX4_pass_46 : decode cX4_pass 46 = .ok (.ireturn, 1) := by decide +kernel
theorem dX4_pass_47 : decode cX4_pass 47 = .ok (.aload_n 0, 1) := by decide +kernel
theorem dX4_pass_48 : decode cX4_pass 48 = .ok (.invokevirtual 95, 3) := by decide +kernel
theorem dX4_pass_51 : decode cX4_pass 51 = .ok (.iconst 2, 1) := by decide +kernel
theorem dX4_pass_52 : decode cX4_pass 52 = .ok (.ireturn, 1) := by decide +kernel
set_option maxRecDepth 20000 in
theorem ggX4_settle_X4_resolveTop : GoodIn wsX4_settle wsX4_resolveTop := goodIn_r _ [9, 3, 4, 10, 11, 12, 13, 14, 15, 16, 17, 18, 19, 20, 21, 22, 23, 24, 25, 26, 27, 28, 29, 30, 8, 31, 32, 33, 34, 35, 36, 37, 38, 39, 40, 41, 42, 43, 44, 45, 46, 47, 48, 49, 50, 51, 52, 53, 54, 55, 56, 57, 58, 59, 60, 61, 62, 63, 64, 65, 66, 67, 68, 69, 70, 71, 72, 73, 74, 75, 76, 77, 78, 79, 80, 81, 82, 83, 84, 85, 86, 87, 88, 89, 90, 91, 92, 93, 94, 95, 96, 97, 98, 99, 100, 101, 102, 103, 104, 105, 106, 107, 108, 109, 110, 111, 112, 113, 114, 115, 116, 117, 118, 119, 120, 121, 122, 123, 124, 125, 126, 127, 128, 129, 130, 131, 132, 133, 134, 135, 136, 137, 138, 139, 140, 141, 142, 143, 144, 145, 146, 147, 148, 149, 150, 151, 152, 153, 154, 155, 156, 157, 158, 159, 160, 161, 162, 163, 164, 165, 166, 167, 168, 169, 170, 171, 172, 173, 174, 175, 176, 177, 178, 179, 180, 181, 182, 183, 184, 185, 186, 187, 188, 189, 190, 191, 192, 193, 194, 195, 196, 197, 198, 199, 200, 201, 202, 203, 204, 205, 206, 207, 208, 209, 210, 211, 212, 213, 214, 215, 216, 217, 218, 219, 220, 221, 222, 223, 224, 225, 226, 227, 228] (by decide +kernel) (by decide +kernel)
set_option maxRecDepth 20000 in
theorem gX4_settle_X4_resolveTop : GoodIn wsX4_settle (wsV RX4 92 RX4 yX4_resolveTop wsX4_resolveTop) := goodIn_app (goodIn_of _ (by decide +kernel)) ggX4_settle_X4_resolveTop
theorem dX4_settle_0 : decode cX4_settle 0 = .ok (.iload_n 1, 1) := by decide +kernel
theorem dX4_settle_1 : decode cX4_settle 1 = .ok (.iconst 1, 1) := by decide +kernel
theorem dX4_settle_2 : decode cX4_settle 2 = .ok (.if_icmp .lt 9, 3) := by decide +kernel
theorem dX4_settle_5 : decode cX4_settle 5 = .ok (.iload_n 1, 1) := by decide +kernel
theorem dX4_settle_6 : decode cX4_settle 6 = .ok (.bipush 60, 2) := by decide +kernel
theorem dX4_settle_8 : decode cX4_settle 8 = .ok (.if_icmp .le 13, 3) := by decide +kernel
theorem dX4_settle_11 : decode cX4_settle 11 = .ok (.new 98, 3) := by decide +kernel
theorem dX4_settle_14 : decode cX4_settle 14 = .ok (.dup, 1) := by decide +kernel
theorem dX4_settle_15 : decode cX4_settle 15 = .ok (.ldc 100, 2) := by decide +kernel
theorem dX4_settle_17 : decode cX4_settle 17 = .ok (.invokespecial 102, 3) := by decide +kernel
theorem dX4_settle_20 : decode cX4_settle 20 = .ok (.athrow, 1) := by decide +kernel
theorem dX4_settle_21 : decode cX4_settle 21 = .ok (.iconst 0, 1) := by decide +kernel
theorem dX4_settle_22 : decode cX4_settle 22 = .ok (.istore_n 2, 1) := by decide +kernel
theorem dX4_settle_23 : decode cX4_settle 23 = .ok (.iload_n 2, 1) := by decide +kernel
theorem dX4_settle_24 : decode cX4_settle 24 = .ok (.iload_n 1, 1) := by decide +kernel
theorem dX4_settle_25 : decode cX4_settle 25 = .ok (.if_icmp .ge 23, 3) := by decide +kernel
theorem dX4_settle_28 : decode cX4_settle 28 = .ok (.aload_n 0, 1) := by decide +kernel
theorem dX4_settle_29 : decode cX4_settle 29 = .ok (.getfield 23, 3) := by decide +kernel
theorem dX4_settle_32 : decode cX4_settle 32 = .ok (.getfield 89, 3) := by decide +kernel
theorem dX4_settle_35 : decode cX4_settle 35 = .ok (.ifCond .le 13, 3) := by decide +kernel
theorem dX4_settle_38 : decode cX4_settle 38 = .ok (.aload_n 0, 1) := by decide +kernel
theorem dX4_settle_39 : decode cX4_settle 39 = .ok (.invokevirtual 92, 3) := by decide +kernel
theorem dX4_settle_42 : decode cX4_settle 42 = .ok (.iinc 2 1, 3) := by decide +kernel
theorem dX4_settle_45 : decode cX4_settle 45 = .ok (.goto (-22), 3) := by decide +kernel
theorem dX4_settle_48 : decode cX4_settle 48 = .ok (.iload_n 2, 1) := by decide +kernel
theorem dX4_settle_49 : decode cX4_settle 49 = .ok (.ireturn, 1) := by decide +kernel
theorem dX4_turn_0 : decode cX4_turn 0 = .ok (.aload_n 0, 1) := by decide +kernel
theorem dX4_turn_1 : decode cX4_turn 1 = .ok (.getfield 103, 3) := by decide +kernel
theorem dX4_turn_4 : decode cX4_turn 4 = .ok (.ireturn, 1) := by decide +kernel
theorem dX4_acting_0 : decode cX4_acting 0 = .ok (.aload_n 0, 1) := by decide +kernel
theorem dX4_acting_1 : decode cX4_acting 1 = .ok (.getfield 57, 3) := by decide +kernel
theorem dX4_acting_4 : decode cX4_acting 4 = .ok (.ireturn, 1) := by decide +kernel
theorem dX4_rounds_0 : decode cX4_rounds 0 = .ok (.aload_n 0, 1) := by decide +kernel
theorem dX4_rounds_1 : decode cX4_rounds 1 = .ok (.getfield 106, 3) := by decide +kernel
theorem dX4_rounds_4 : decode cX4_rounds 4 = .ok (.ireturn, 1) := by decide +kernel
theorem dX4_loops_0 : decode cX4_loops 0 = .ok (.aload_n 0, 1) := by decide +kernel
theorem dX4_loops_1 : decode cX4_loops 1 = .ok (.getfield 109, 3) := by decide +kernel
theorem dX4_loops_4 : decode cX4_loops 4 = .ok (.ireturn, 1) := by decide +kernel
theorem dX4_coins_0 : decode cX4_coins 0 = .ok (.iload_n 1, 1) := by decide +kernel
theorem dX4_coins_1 : decode cX4_coins 1 = .ok (.ifCond .lt 8, 3) := by decide +kernel
theorem dX4_coins_4 : decode cX4_coins 4 = .ok (.iload_n 1, 1) := by decide +kernel
theorem dX4_coins_5 : decode cX4_coins 5 = .ok (.iconst 3, 1) := by decide +kernel
theorem dX4_coins_6 : decode cX4_coins 6 = .ok (.if_icmp .lt 13, 3) := by decide +kernel
theorem dX4_coins_9 : decode cX4_coins 9 = .ok (.new 41, 3) := by decide +kernel
theorem dX4_coins_12 : decode cX4_coins 12 = .ok (.dup, 1) := by decide +kernel
theorem dX4_coins_13 : decode cX4_coins 13 = .ok (.ldc 112, 2) := by decide +kernel
theorem dX4_coins_15 : decode cX4_coins 15 = .ok (.invokespecial 45, 3) := by decide +kernel
theorem dX4_coins_18 : decode cX4_coins 18 = .ok (.athrow, 1) := by decide +kernel
theorem dX4_coins_19 : decode cX4_coins 19 = .ok (.aload_n 0, 1) := by decide +kernel
theorem dX4_coins_20 : decode cX4_coins 20 = .ok (.getfield 9, 3) := by decide +kernel
theorem dX4_coins_23 : decode cX4_coins 23 = .ok (.iload_n 1, 1) := by decide +kernel
theorem dX4_coins_24 : decode cX4_coins 24 = .ok (.iaload, 1) := by decide +kernel
theorem dX4_coins_25 : decode cX4_coins 25 = .ok (.ireturn, 1) := by decide +kernel
theorem dX4_things_0 : decode cX4_things 0 = .ok (.aload_n 0, 1) := by decide +kernel
theorem dX4_things_1 : decode cX4_things 1 = .ok (.getfield 16, 3) := by decide +kernel
theorem dX4_things_4 : decode cX4_things 4 = .ok (.getfield 114, 3) := by decide +kernel
theorem dX4_things_7 : decode cX4_things 7 = .ok (.ireturn, 1) := by decide +kernel
set_option maxRecDepth 20000 in
theorem ggX4_cardOf_X2_has : GoodIn wsX4_cardOf wsX2_has := goodIn_r _ [9, 10, 22, 23, 24, 25, 26] (by decide +kernel) (by decide +kernel)
set_option maxRecDepth 20000 in
theorem gX4_cardOf_X2_has : GoodIn wsX4_cardOf (wsV RX4 115 RX2 yX2_has wsX2_has) := goodIn_app (goodIn_of _ (by decide +kernel)) ggX4_cardOf_X2_has
theorem dX4_cardOf_0 : decode cX4_cardOf 0 = .ok (.aload_n 0, 1) := by decide +kernel
theorem dX4_cardOf_1 : decode cX4_cardOf 1 = .ok (.getfield 16, 3) := by decide +kernel
theorem dX4_cardOf_4 : decode cX4_cardOf 4 = .ok (.iload_n 1, 1) := by decide +kernel
theorem dX4_cardOf_5 : decode cX4_cardOf 5 = .ok (.invokevirtual 115, 3) := by decide +kernel
theorem dX4_cardOf_8 : decode cX4_cardOf 8 = .ok (.ifCond .ne 13, 3) := by decide +kernel
theorem dX4_cardOf_11 : decode cX4_cardOf 11 = .ok (.new 41, 3) := by decide +kernel
theorem dX4_cardOf_14 : decode cX4_cardOf 14 = .ok (.dup, 1) := by decide +kernel
theorem dX4_cardOf_15 : decode cX4_cardOf 15 = .ok (.ldc 119, 2) := by decide +kernel
theorem dX4_cardOf_17 : decode cX4_cardOf 17 = .ok (.invokespecial 45, 3) := by decide +kernel
theorem dX4_cardOf_20 : decode cX4_cardOf 20 = .ok (.athrow, 1) := by decide +kernel
theorem dX4_cardOf_21 : decode cX4_cardOf 21 = .ok (.aload_n 0, 1) := by decide +kernel
theorem dX4_cardOf_22 : decode cX4_cardOf 22 = .ok (.getfield 16, 3) := by decide +kernel
theorem dX4_cardOf_25 : decode cX4_cardOf 25 = .ok (.getfield 121, 3) := by decide +kernel
theorem dX4_cardOf_28 : decode cX4_cardOf 28 = .ok (.iload_n 1, 1) := by decide +kernel
theorem dX4_cardOf_29 : decode cX4_cardOf 29 = .ok (.iaload, 1) := by decide +kernel
theorem dX4_cardOf_30 : decode cX4_cardOf 30 = .ok (.ireturn, 1) := by decide +kernel
set_option maxRecDepth 20000 in
theorem ggX4_controllerOf_X4_requireThingAndLayer : GoodIn wsX4_controllerOf wsX4_requireThingAndLayer := goodIn_ca (goodIn_ca (goodIn_r _ [8, 9, 10, 11, 12, 2, 13, 14, 15, 16, 17, 18, 49, 50, 51, 52, 53, 54, 55, 56, 57, 58, 59, 65, 66, 67, 68, 69] (by decide +kernel) (by decide +kernel)) (goodIn_sub (fun _ h => List.mem_cons_of_mem _ (List.mem_append_left _ (List.mem_append_right _ h))) (by decide +kernel))) (goodIn_sub (fun _ h => List.mem_cons_of_mem _ (List.mem_append_right _ h)) (by decide +kernel))
set_option maxRecDepth 20000 in
theorem gX4_controllerOf_X4_requireThingAndLayer : GoodIn wsX4_controllerOf (wsV RX4 124 RX4 yX4_requireThingAndLayer wsX4_requireThingAndLayer) := goodIn_app (goodIn_of _ (by decide +kernel)) ggX4_controllerOf_X4_requireThingAndLayer
set_option maxRecDepth 20000 in
theorem ggX4_controllerOf_X3_find : GoodIn wsX4_controllerOf wsX3_find := goodIn_r _ [23, 24, 25, 26, 27, 28, 29, 30, 31, 32, 22, 33, 34, 35, 36, 7, 37, 38, 39, 40, 41, 42, 43, 44, 45, 46, 47, 48, 65, 66, 67, 68, 69, 60, 61, 62, 63, 64] (by decide +kernel) (by decide +kernel)
set_option maxRecDepth 20000 in
theorem gX4_controllerOf_X3_find : GoodIn wsX4_controllerOf (wsV RX4 127 RX3 yX3_find wsX3_find) := goodIn_app (goodIn_of _ (by decide +kernel)) ggX4_controllerOf_X3_find
theorem dX4_controllerOf_0 : decode cX4_controllerOf 0 = .ok (.aload_n 0, 1) := by decide +kernel
theorem dX4_controllerOf_1 : decode cX4_controllerOf 1 = .ok (.iload_n 1, 1) := by decide +kernel
theorem dX4_controllerOf_2 : decode cX4_controllerOf 2 = .ok (.iload_n 2, 1) := by decide +kernel
theorem dX4_controllerOf_3 : decode cX4_controllerOf 3 = .ok (.invokevirtual 124, 3) := by decide +kernel
theorem dX4_controllerOf_6 : decode cX4_controllerOf 6 = .ok (.aload_n 0, 1) := by decide +kernel
theorem dX4_controllerOf_7 : decode cX4_controllerOf 7 = .ok (.getfield 30, 3) := by decide +kernel
theorem dX4_controllerOf_10 : decode cX4_controllerOf 10 = .ok (.aload_n 0, 1) := by decide +kernel
theorem dX4_controllerOf_11 : decode cX4_controllerOf 11 = .ok (.getfield 16, 3) := by decide +kernel
theorem dX4_controllerOf_14 : decode cX4_controllerOf 14 = .ok (.iload_n 2, 1) := by decide +kernel
theorem dX4_controllerOf_15 : decode cX4_controllerOf 15 = .ok (.invokevirtual 127, 3) := by decide +kernel
theorem dX4_controllerOf_18 : decode cX4_controllerOf 18 = .ok (.aload_n 0, 1) := by decide +kernel
theorem dX4_controllerOf_19 : decode cX4_controllerOf 19 = .ok (.getfield 30, 3) := by decide +kernel
theorem dX4_controllerOf_22 : decode cX4_controllerOf 22 = .ok (.getfield 131, 3) := by decide +kernel
theorem dX4_controllerOf_25 : decode cX4_controllerOf 25 = .ok (.iload_n 1, 1) := by decide +kernel
theorem dX4_controllerOf_26 : decode cX4_controllerOf 26 = .ok (.iaload, 1) := by decide +kernel
theorem dX4_controllerOf_27 : decode cX4_controllerOf 27 = .ok (.ireturn, 1) := by decide +kernel
set_option maxRecDepth 20000 in
theorem ggX4_kindsOf_X4_requireThingAndLayer : GoodIn wsX4_kindsOf wsX4_requireThingAndLayer := goodIn_ca (goodIn_ca (goodIn_r _ [8, 9, 10, 11, 12, 2, 13, 14, 15, 16, 17, 18, 49, 50, 51, 52, 53, 54, 55, 56, 57, 58, 59, 65, 66, 67, 68, 69] (by decide +kernel) (by decide +kernel)) (goodIn_sub (fun _ h => List.mem_cons_of_mem _ (List.mem_append_left _ (List.mem_append_right _ h))) (by decide +kernel))) (goodIn_sub (fun _ h => List.mem_cons_of_mem _ (List.mem_append_right _ h)) (by decide +kernel))
set_option maxRecDepth 20000 in
theorem gX4_kindsOf_X4_requireThingAndLayer : GoodIn wsX4_kindsOf (wsV RX4 124 RX4 yX4_requireThingAndLayer wsX4_requireThingAndLayer) := goodIn_app (goodIn_of _ (by decide +kernel)) ggX4_kindsOf_X4_requireThingAndLayer
set_option maxRecDepth 20000 in
theorem ggX4_kindsOf_X3_find : GoodIn wsX4_kindsOf wsX3_find := goodIn_r _ [23, 24, 25, 26, 27, 28, 29, 30, 31, 32, 22, 33, 34, 35, 36, 7, 37, 38, 39, 40, 41, 42, 43, 44, 45, 46, 47, 48, 65, 66, 67, 68, 69, 60, 61, 62, 63, 64] (by decide +kernel) (by decide +kernel)
set_option maxRecDepth 20000 in
theorem gX4_kindsOf_X3_find : GoodIn wsX4_kindsOf (wsV RX4 127 RX3 yX3_find wsX3_find) := goodIn_app (goodIn_of _ (by decide +kernel)) ggX4_kindsOf_X3_find
theorem dX4_kindsOf_0 : decode cX4_kindsOf 0 = .ok (.aload_n 0, 1) := by decide +kernel
theorem dX4_kindsOf_1 : decode cX4_kindsOf 1 = .ok (.iload_n 1, 1) := by decide +kernel
theorem dX4_kindsOf_2 : decode cX4_kindsOf 2 = .ok (.iload_n 2, 1) := by decide +kernel
theorem dX4_kindsOf_3 : decode cX4_kindsOf 3 = .ok (.invokevirtual 124, 3) := by decide +kernel
theorem dX4_kindsOf_6 : decode cX4_kindsOf 6 = .ok (.aload_n 0, 1) := by decide +kernel
theorem dX4_kindsOf_7 : decode cX4_kindsOf 7 = .ok (.getfield 30, 3) := by decide +kernel
theorem dX4_kindsOf_10 : decode cX4_kindsOf 10 = .ok (.aload_n 0, 1) := by decide +kernel
theorem dX4_kindsOf_11 : decode cX4_kindsOf 11 = .ok (.getfield 16, 3) := by decide +kernel
theorem dX4_kindsOf_14 : decode cX4_kindsOf 14 = .ok (.iload_n 2, 1) := by decide +kernel
theorem dX4_kindsOf_15 : decode cX4_kindsOf 15 = .ok (.invokevirtual 127, 3) := by decide +kernel
theorem dX4_kindsOf_18 : decode cX4_kindsOf 18 = .ok (.aload_n 0, 1) := by decide +kernel
theorem dX4_kindsOf_19 : decode cX4_kindsOf 19 = .ok (.getfield 30, 3) := by decide +kernel
theorem dX4_kindsOf_22 : decode cX4_kindsOf 22 = .ok (.getfield 134, 3) := by decide +kernel
theorem dX4_kindsOf_25 : decode cX4_kindsOf 25 = .ok (.iload_n 1, 1) := by decide +kernel
theorem dX4_kindsOf_26 : decode cX4_kindsOf 26 = .ok (.iaload, 1) := by decide +kernel
theorem dX4_kindsOf_27 : decode cX4_kindsOf 27 = .ok (.ireturn, 1) := by decide +kernel
set_option maxRecDepth 20000 in
theorem ggX4_strengthOf_X4_requireThingAndLayer : GoodIn wsX4_strengthOf wsX4_requireThingAndLayer := goodIn_ca (goodIn_ca (goodIn_r _ [8, 9, 10, 11, 12, 2, 13, 14, 15, 16, 17, 18, 49, 50, 51, 52, 53, 54, 55, 56, 57, 58, 59, 65, 66, 67, 68, 69] (by decide +kernel) (by decide +kernel)) (goodIn_sub (fun _ h => List.mem_cons_of_mem _ (List.mem_append_left _ (List.mem_append_right _ h))) (by decide +kernel))) (goodIn_sub (fun _ h => List.mem_cons_of_mem _ (List.mem_append_right _ h)) (by decide +kernel))
set_option maxRecDepth 20000 in
theorem gX4_strengthOf_X4_requireThingAndLayer : GoodIn wsX4_strengthOf (wsV RX4 124 RX4 yX4_requireThingAndLayer wsX4_requireThingAndLayer) := goodIn_app (goodIn_of _ (by decide +kernel)) ggX4_strengthOf_X4_requireThingAndLayer
set_option maxRecDepth 20000 in
theorem ggX4_strengthOf_X3_find : GoodIn wsX4_strengthOf wsX3_find := goodIn_r _ [23, 24, 25, 26, 27, 28, 29, 30, 31, 32, 22, 33, 34, 35, 36, 7, 37, 38, 39, 40, 41, 42, 43, 44, 45, 46, 47, 48, 65, 66, 67, 68, 69, 60, 61, 62, 63, 64] (by decide +kernel) (by decide +kernel)
set_option maxRecDepth 20000 in
theorem gX4_strengthOf_X3_find : GoodIn wsX4_strengthOf (wsV RX4 127 RX3 yX3_find wsX3_find) := goodIn_app (goodIn_of _ (by decide +kernel)) ggX4_strengthOf_X3_find
theorem dX4_strengthOf_0 : decode cX4_strengthOf 0 = .ok (.aload_n 0, 1) := by decide +kernel
theorem dX4_strengthOf_1 : decode cX4_strengthOf 1 = .ok (.iload_n 1, 1) := by decide +kernel
theorem dX4_strengthOf_2 : decode cX4_strengthOf 2 = .ok (.iload_n 2, 1) := by decide +kernel
theorem dX4_strengthOf_3 : decode cX4_strengthOf 3 = .ok (.invokevirtual 124, 3) := by decide +kernel
theorem dX4_strengthOf_6 : decode cX4_strengthOf 6 = .ok (.aload_n 0, 1) := by decide +kernel
theorem dX4_strengthOf_7 : decode cX4_strengthOf 7 = .ok (.getfield 30, 3) := by decide +kernel
theorem dX4_strengthOf_10 : decode cX4_strengthOf 10 = .ok (.aload_n 0, 1) := by decide +kernel
theorem dX4_strengthOf_11 : decode cX4_strengthOf 11 = .ok (.getfield 16, 3) := by decide +kernel
theorem dX4_strengthOf_14 : decode cX4_strengthOf 14 = .ok (.iload_n 2, 1) := by decide +kernel
theorem dX4_strengthOf_15 : decode cX4_strengthOf 15 = .ok (.invokevirtual 127, 3) := by decide +kernel
theorem dX4_strengthOf_18 : decode cX4_strengthOf 18 = .ok (.aload_n 0, 1) := by decide +kernel
theorem dX4_strengthOf_19 : decode cX4_strengthOf 19 = .ok (.getfield 30, 3) := by decide +kernel
theorem dX4_strengthOf_22 : decode cX4_strengthOf 22 = .ok (.getfield 137, 3) := by decide +kernel
theorem dX4_strengthOf_25 : decode cX4_strengthOf 25 = .ok (.iload_n 1, 1) := by decide +kernel
theorem dX4_strengthOf_26 : decode cX4_strengthOf 26 = .ok (.iaload, 1) := by decide +kernel
theorem dX4_strengthOf_27 : decode cX4_strengthOf 27 = .ok (.ireturn, 1) := by decide +kernel
set_option maxRecDepth 20000 in
theorem ggX4_power_X3_find : GoodIn wsX4_power wsX3_find := goodIn_r _ [13, 14, 15, 16, 17, 18, 19, 20, 21, 22, 12, 23, 24, 25, 26, 27, 28, 29, 30, 31, 32, 33, 34, 35, 36, 37, 38, 39, 51, 52, 53, 54, 55, 56, 57, 58, 59, 60] (by decide +kernel) (by decide +kernel)
set_option maxRecDepth 20000 in
theorem gX4_power_X3_find : GoodIn wsX4_power (wsV RX4 127 RX3 yX3_find wsX3_find) := goodIn_app (goodIn_of _ (by decide +kernel)) ggX4_power_X3_find
theorem dX4_power_0 : decode cX4_power 0 = .ok (.iload_n 1, 1) := by decide +kernel
theorem dX4_power_1 : decode cX4_power 1 = .ok (.ifCond .lt 8, 3) := by decide +kernel
theorem dX4_power_4 : decode cX4_power 4 = .ok (.iload_n 1, 1) := by decide +kernel
theorem dX4_power_5 : decode cX4_power 5 = .ok (.iconst 3, 1) := by decide +kernel
theorem dX4_power_6 : decode cX4_power 6 = .ok (.if_icmp .lt 13, 3) := by decide +kernel
theorem dX4_power_9 : decode cX4_power 9 = .ok (.new 41, 3) := by decide +kernel
theorem dX4_power_12 : decode cX4_power 12 = .ok (.dup, 1) := by decide +kernel
theorem dX4_power_13 : decode cX4_power 13 = .ok (.ldc 112, 2) := by decide +kernel
theorem dX4_power_15 : decode cX4_power 15 = .ok (.invokespecial 45, 3) := by decide +kernel
theorem dX4_power_18 : decode cX4_power 18 = .ok (.athrow, 1) := by decide +kernel
theorem dX4_power_19 : decode cX4_power 19 = .ok (.aload_n 0, 1) := by decide +kernel
theorem dX4_power_20 : decode cX4_power 20 = .ok (.getfield 30, 3) := by decide +kernel
theorem dX4_power_23 : decode cX4_power 23 = .ok (.aload_n 0, 1) := by decide +kernel
theorem dX4_power_24 : decode cX4_power 24 = .ok (.getfield 16, 3) := by decide +kernel
theorem dX4_power_27 : decode cX4_power 27 = .ok (.iconst 5, 1) := by decide +kernel
theorem dX4_power_28 : decode cX4_power 28 = .ok (.invokevirtual 127, 3) := by decide +kernel
theorem dX4_power_31 : decode cX4_power 31 = .ok (.iconst 0, 1) := by decide +kernel
theorem dX4_power_32 : decode cX4_power 32 = .ok (.istore_n 2, 1) := by decide +kernel
theorem dX4_power_33 : decode cX4_power 33 = .ok (.iconst 0, 1) := by decide +kernel
theorem dX4_power_34 : decode cX4_power 34 = .ok (.istore_n 3, 1) := by decide +kernel
theorem dX4_power_35 : decode cX4_power 35 = .ok (.iload_n 3, 1) := by decide +kernel
theorem dX4_power_36 : decode cX4_power 36 = .ok (.aload_n 0, 1) := by decide +kernel
theorem dX4_power_37 : decode cX4_power 37 = .ok (.getfield 16, 3) := by decide +kernel
theorem dX4_power_40 : decode cX4_power 40 = .ok (.getfield 114, 3) := by decide +kernel
theorem dX4_power_43 : decode cX4_power 43 = .ok (.if_icmp .ge 48, 3) := by decide +kernel
theorem dX4_power_46 : decode cX4_power 46 = .ok (.aload_n 0, 1) := by decide +kernel
theorem dX4_power_47 : decode cX4_power 47 = .ok (.getfield 30, 3) := by decide +kernel
theorem dX4_power_50 : decode cX4_power 50 = .ok (.getfield 131, 3) := by decide +kernel
theorem dX4_power_53 : decode cX4_power 53 = .ok (.iload_n 3, 1) := by decide +kernel
theorem dX4_power_54 : decode cX4_power 54 = .ok (.iaload, 1) := by decide +kernel
theorem dX4_power_55 : decode cX4_power 55 = .ok (.iload_n 1, 1) := by decide +kernel
theorem dX4_power_56 : decode cX4_power 56 = .ok (.if_icmp .ne 29, 3) := by decide +kernel
theorem dX4_power_59 : decode cX4_power 59 = .ok (.aload_n 0, 1) := by decide +kernel
theorem dX4_power_60 : decode cX4_power 60 = .ok (.getfield 30, 3) := by decide +kernel
theorem dX4_power_63 : decode cX4_power 63 = .ok (.getfield 134, 3) := by decide +kernel
theorem dX4_power_66 : decode cX4_power 66 = .ok (.iload_n 3, 1) := by decide +kernel
theorem dX4_power_67 : decode cX4_power 67 = .ok (.iaload, 1) := by decide +kernel
theorem dX4_power_68 : decode cX4_power 68 = .ok (.iconst 1, 1) := by decide +kernel
theorem dX4_power_69 : decode cX4_power 69 = .ok (.iand, 1) := by decide +kernel
theorem dX4_power_70 : decode cX4_power 70 = .ok (.ifCond .eq 15, 3) := by decide +kernel
theorem dX4_power_73 : decode cX4_power 73 = .ok (.iload_n 2, 1) := by decide +kernel
theorem dX4_power_74 : decode cX4_power 74 = .ok (.aload_n 0, 1) := by decide +kernel
theorem dX4_power_75 : decode cX4_power 75 = .ok (.getfield 30, 3) := by decide +kernel
theorem dX4_power_78 : decode cX4_power 78 = .ok (.getfield 137, 3) := by decide +kernel
theorem dX4_power_81 : decode cX4_power 81 = .ok (.iload_n 3, 1) := by decide +kernel
theorem dX4_power_82 : decode cX4_power 82 = .ok (.iaload, 1) := by decide +kernel
theorem dX4_power_83 : decode cX4_power 83 = .ok (.iadd, 1) := by decide +kernel
theorem dX4_power_84 : decode cX4_power 84 = .ok (.istore_n 2, 1) := by decide +kernel
theorem dX4_power_85 : decode cX4_power 85 = .ok (.iinc 3 1, 3) := by decide +kernel
theorem dX4_power_88 : decode cX4_power 88 = .ok (.goto (-53), 3) := by decide +kernel
theorem dX4_power_91 : decode cX4_power 91 = .ok (.iload_n 2, 1) := by decide +kernel
theorem dX4_power_92 : decode cX4_power 92 = .ok (.ireturn, 1) := by decide +kernel
theorem dX4_stack_0 : decode cX4_stack 0 = .ok (.aload_n 0, 1) := by decide +kernel
theorem dX4_stack_1 : decode cX4_stack 1 = .ok (.getfield 23, 3) := by decide +kernel
theorem dX4_stack_4 : decode cX4_stack 4 = .ok (.getfield 89, 3) := by decide +kernel
theorem dX4_stack_7 : decode cX4_stack 7 = .ok (.ireturn, 1) := by decide +kernel
set_option maxRecDepth 20000 in
theorem ggX4_entryCard_X0_has : GoodIn wsX4_entryCard wsX0_has := goodIn_r _ [9, 10, 27, 28, 29, 30, 31, 32] (by decide +kernel) (by decide +kernel)
set_option maxRecDepth 20000 in
theorem gX4_entryCard_X0_has : GoodIn wsX4_entryCard (wsV RX4 140 RX0 yX0_has wsX0_has) := goodIn_app (goodIn_of _ (by decide +kernel)) ggX4_entryCard_X0_has
set_option maxRecDepth 20000 in
theorem ggX4_entryCard_X0_indexOf : GoodIn wsX4_entryCard wsX0_indexOf := goodIn_r _ [14, 10, 15, 6, 7, 8, 9, 27, 28, 29, 30, 31, 32] (by decide +kernel) (by decide +kernel)
set_option maxRecDepth 20000 in
theorem gX4_entryCard_X0_indexOf : GoodIn wsX4_entryCard (wsV RX4 144 RX0 yX0_indexOf wsX0_indexOf) := goodIn_app (goodIn_of _ (by decide +kernel)) ggX4_entryCard_X0_indexOf
theorem dX4_entryCard_0 : decode cX4_entryCard 0 = .ok (.aload_n 0, 1) := by decide +kernel
theorem dX4_entryCard_1 : decode cX4_entryCard 1 = .ok (.getfield 23, 3) := by decide +kernel
theorem dX4_entryCard_4 : decode cX4_entryCard 4 = .ok (.iload_n 1, 1) := by decide +kernel
theorem dX4_entryCard_5 : decode cX4_entryCard 5 = .ok (.invokevirtual 140, 3) := by decide +kernel
theorem dX4_entryCard_8 : decode cX4_entryCard 8 = .ok (.ifCond .ne 13, 3) := by decide +kernel
theorem dX4_entryCard_11 : decode cX4_entryCard 11 = .ok (.new 41, 3) := by decide +kernel
theorem dX4_entryCard_14 : decode cX4_entryCard 14 = .ok (.dup, 1) := by decide +kernel
theorem dX4_entryCard_15 : decode cX4_entryCard 15 = .ok (.ldc 141, 2) := by decide +kernel
theorem dX4_entryCard_17 : decode cX4_entryCard 17 = .ok (.invokespecial 45, 3) := by decide +kernel
theorem dX4_entryCard_20 : decode cX4_entryCard 20 = .ok (.athrow, 1) := by decide +kernel
theorem dX4_entryCard_21 : decode cX4_entryCard 21 = .ok (.aload_n 0, 1) := by decide +kernel
theorem dX4_entryCard_22 : decode cX4_entryCard 22 = .ok (.getfield 23, 3) := by decide +kernel
theorem dX4_entryCard_25 : decode cX4_entryCard 25 = .ok (.getfield 143, 3) := by decide +kernel
theorem dX4_entryCard_28 : decode cX4_entryCard 28 = .ok (.aload_n 0, 1) := by decide +kernel
theorem dX4_entryCard_29 : decode cX4_entryCard 29 = .ok (.getfield 23, 3) := by decide +kernel
theorem dX4_entryCard_32 : decode cX4_entryCard 32 = .ok (.iload_n 1, 1) := by decide +kernel
theorem dX4_entryCard_33 : decode cX4_entryCard 33 = .ok (.invokevirtual 144, 3) := by decide +kernel
theorem dX4_entryCard_36 : decode cX4_entryCard 36 = .ok (.iaload, 1) := by decide +kernel
theorem dX4_entryCard_37 : decode cX4_entryCard 37 = .ok (.ireturn, 1) := by decide +kernel
set_option maxRecDepth 20000 in
theorem ggX4_isTrigger_X0_has : GoodIn wsX4_isTrigger wsX0_has := goodIn_r _ [9, 10, 27, 28, 29, 30, 31, 32] (by decide +kernel) (by decide +kernel)
set_option maxRecDepth 20000 in
theorem gX4_isTrigger_X0_has : GoodIn wsX4_isTrigger (wsV RX4 140 RX0 yX0_has wsX0_has) := goodIn_app (goodIn_of _ (by decide +kernel)) ggX4_isTrigger_X0_has
set_option maxRecDepth 20000 in
theorem ggX4_isTrigger_X0_indexOf : GoodIn wsX4_isTrigger wsX0_indexOf := goodIn_r _ [14, 10, 15, 6, 7, 8, 9, 27, 28, 29, 30, 31, 32] (by decide +kernel) (by decide +kernel)
set_option maxRecDepth 20000 in
theorem gX4_isTrigger_X0_indexOf : GoodIn wsX4_isTrigger (wsV RX4 144 RX0 yX0_indexOf wsX0_indexOf) := goodIn_app (goodIn_of _ (by decide +kernel)) ggX4_isTrigger_X0_indexOf
theorem dX4_isTrigger_0 : decode cX4_isTrigger 0 = .ok (.aload_n 0, 1) := by decide +kernel
theorem dX4_isTrigger_1 : decode cX4_isTrigger 1 = .ok (.getfield 23, 3) := by decide +kernel
theorem dX4_isTrigger_4 : decode cX4_isTrigger 4 = .ok (.iload_n 1, 1) := by decide +kernel
theorem dX4_isTrigger_5 : decode cX4_isTrigger 5 = .ok (.invokevirtual 140, 3) := by decide +kernel
theorem dX4_isTrigger_8 : decode cX4_isTrigger 8 = .ok (.ifCond .ne 13, 3) := by decide +kernel
theorem dX4_isTrigger_11 : decode cX4_isTrigger 11 = .ok (.new 41, 3) := by decide +kernel
theorem dX4_isTrigger_14 : decode cX4_isTrigger 14 = .ok (.dup, 1) := by decide +kernel
theorem dX4_isTrigger_15 : decode cX4_isTrigger 15 = .ok (.ldc 141, 2) := by decide +kernel
theorem dX4_isTrigger_17 : decode cX4_isTrigger 17 = .ok (.invokespecial 45, 3) := by decide +kernel
theorem dX4_isTrigger_20 : decode cX4_isTrigger 20 = .ok (.athrow, 1) := by decide +kernel
theorem dX4_isTrigger_21 : decode cX4_isTrigger 21 = .ok (.aload_n 0, 1) := by decide +kernel
theorem dX4_isTrigger_22 : decode cX4_isTrigger 22 = .ok (.getfield 23, 3) := by decide +kernel
theorem dX4_isTrigger_25 : decode cX4_isTrigger 25 = .ok (.getfield 147, 3) := by decide +kernel
theorem dX4_isTrigger_28 : decode cX4_isTrigger 28 = .ok (.aload_n 0, 1) := by decide +kernel
theorem dX4_isTrigger_29 : decode cX4_isTrigger 29 = .ok (.getfield 23, 3) := by decide +kernel
theorem dX4_isTrigger_32 : decode cX4_isTrigger 32 = .ok (.iload_n 1, 1) := by decide +kernel
theorem dX4_isTrigger_33 : decode cX4_isTrigger 33 = .ok (.invokevirtual 144, 3) := by decide +kernel
theorem dX4_isTrigger_36 : decode cX4_isTrigger 36 = .ok (.baload, 1) := by decide +kernel
theorem dX4_isTrigger_37 : decode cX4_isTrigger 37 = .ok (.ireturn, 1) := by decide +kernel
set_option maxRecDepth 20000 in
theorem ggX4_entryPlayer_X0_has : GoodIn wsX4_entryPlayer wsX0_has := goodIn_r _ [9, 10, 27, 28, 29, 30, 31, 32] (by decide +kernel) (by decide +kernel)
set_option maxRecDepth 20000 in
theorem gX4_entryPlayer_X0_has : GoodIn wsX4_entryPlayer (wsV RX4 140 RX0 yX0_has wsX0_has) := goodIn_app (goodIn_of _ (by decide +kernel)) ggX4_entryPlayer_X0_has
set_option maxRecDepth 20000 in
theorem ggX4_entryPlayer_X0_indexOf : GoodIn wsX4_entryPlayer wsX0_indexOf := goodIn_r _ [14, 10, 15, 6, 7, 8, 9, 27, 28, 29, 30, 31, 32] (by decide +kernel) (by decide +kernel)
set_option maxRecDepth 20000 in
theorem gX4_entryPlayer_X0_indexOf : GoodIn wsX4_entryPlayer (wsV RX4 144 RX0 yX0_indexOf wsX0_indexOf) := goodIn_app (goodIn_of _ (by decide +kernel)) ggX4_entryPlayer_X0_indexOf
theorem dX4_entryPlayer_0 : decode cX4_entryPlayer 0 = .ok (.aload_n 0, 1) := by decide +kernel
theorem dX4_entryPlayer_1 : decode cX4_entryPlayer 1 = .ok (.getfield 23, 3) := by decide +kernel
theorem dX4_entryPlayer_4 : decode cX4_entryPlayer 4 = .ok (.iload_n 1, 1) := by decide +kernel
end
section
theorem dX4_entryPlayer_5 : decode cX4_entryPlayer 5 = .ok (.invokevirtual 140, 3) := by decide +kernel
theorem dX4_entryPlayer_8 : decode cX4_entryPlayer 8 = .ok (.ifCond .ne 13, 3) := by decide +kernel
theorem dX4_entryPlayer_11 : decode cX4_entryPlayer 11 = .ok (.new 41, 3) := by decide +kernel
theorem dX4_entryPlayer_14 : decode cX4_entryPlayer 14 = .ok (.dup, 1) := by decide +kernel
theorem dX4_entryPlayer_15 : decode cX4_entryPlayer 15 = .ok (.ldc 141, 2) := by decide +kernel
theorem dX4_entryPlayer_17 : decode cX4_entryPlayer 17 = .ok (.invokespecial 45, 3) := by decide +kernel
theorem dX4_entryPlayer_20 : decode cX4_entryPlayer 20 = .ok (.athrow, 1) := by decide +kernel
theorem dX4_entryPlayer_21 : decode cX4_entryPlayer 21 = .ok (.aload_n 0, 1) := by decide +kernel
theorem dX4_entryPlayer_22 : decode cX4_entryPlayer 22 = .ok (.getfield 23, 3) := by decide +kernel
theorem dX4_entryPlayer_25 : decode cX4_entryPlayer 25 = .ok (.getfield 151, 3) := by decide +kernel
theorem dX4_entryPlayer_28 : decode cX4_entryPlayer 28 = .ok (.aload_n 0, 1) := by decide +kernel
theorem dX4_entryPlayer_29 : decode cX4_entryPlayer 29 = .ok (.getfield 23, 3) := by decide +kernel
theorem dX4_entryPlayer_32 : decode cX4_entryPlayer 32 = .ok (.iload_n 1, 1) := by decide +kernel
theorem dX4_entryPlayer_33 : decode cX4_entryPlayer 33 = .ok (.invokevirtual 144, 3) := by decide +kernel
theorem dX4_entryPlayer_36 : decode cX4_entryPlayer 36 = .ok (.iaload, 1) := by decide +kernel
theorem dX4_entryPlayer_37 : decode cX4_entryPlayer 37 = .ok (.ireturn, 1) := by decide +kernel
set_option maxRecDepth 20000 in
theorem ggX4_entryTarget_X0_has : GoodIn wsX4_entryTarget wsX0_has := goodIn_r _ [8, 9, 47, 48, 49, 50, 51, 52] (by decide +kernel) (by decide +kernel)
set_option maxRecDepth 20000 in
theorem gX4_entryTarget_X0_has : GoodIn wsX4_entryTarget (wsV RX4 140 RX0 yX0_has wsX0_has) := goodIn_app (goodIn_of _ (by decide +kernel)) ggX4_entryTarget_X0_has
set_option maxRecDepth 20000 in
theorem ggX4_entryTarget_X0_indexOf : GoodIn wsX4_entryTarget wsX0_indexOf := goodIn_r _ [13, 9, 14, 5, 6, 7, 8, 47, 48, 49, 50, 51, 52] (by decide +kernel) (by decide +kernel)
set_option maxRecDepth 20000 in
theorem gX4_entryTarget_X0_indexOf : GoodIn wsX4_entryTarget (wsV RX4 144 RX0 yX0_indexOf wsX0_indexOf) := goodIn_app (goodIn_of _ (by decide +kernel)) ggX4_entryTarget_X0_indexOf
set_option maxRecDepth 20000 in
theorem ggX4_entryTarget_X4_targetPlace : GoodIn wsX4_entryTarget wsX4_targetPlace := goodIn_r _ [19, 3, 20, 21, 22, 23, 24, 25, 26, 7, 27, 9, 28, 29, 30, 31, 32, 33, 34, 35, 36, 37, 38, 39, 40, 41, 42, 43, 44, 45, 46, 47, 48, 49, 50, 51, 52, 53, 54, 55, 56, 57] (by decide +kernel) (by decide +kernel)
set_option maxRecDepth 20000 in
theorem gX4_entryTarget_X4_targetPlace : GoodIn wsX4_entryTarget (wsV RX4 154 RX4 yX4_targetPlace wsX4_targetPlace) := goodIn_app (goodIn_of _ (by decide +kernel)) ggX4_entryTarget_X4_targetPlace
theorem dX4_entryTarget_0 : decode cX4_entryTarget 0 = .ok (.aload_n 0, 1) := by decide +kernel
theorem dX4_entryTarget_1 : decode cX4_entryTarget 1 = .ok (.getfield 23, 3) := by decide +kernel
theorem dX4_entryTarget_4 : decode cX4_entryTarget 4 = .ok (.iload_n 1, 1) := by decide +kernel
theorem dX4_entryTarget_5 : decode cX4_entryTarget 5 = .ok (.invokevirtual 140, 3) := by decide +kernel
theorem dX4_entryTarget_8 : decode cX4_entryTarget 8 = .ok (.ifCond .ne 13, 3) := by decide +kernel
theorem dX4_entryTarget_11 : decode cX4_entryTarget 11 = .ok (.new 41, 3) := by decide +kernel
theorem dX4_entryTarget_14 : decode cX4_entryTarget 14 = .ok (.dup, 1) := by decide +kernel
theorem dX4_entryTarget_15 : decode cX4_entryTarget 15 = .ok (.ldc 141, 2) := by decide +kernel
theorem dX4_entryTarget_17 : decode cX4_entryTarget 17 = .ok (.invokespecial 45, 3) := by decide +kernel
theorem dX4_entryTarget_20 : decode cX4_entryTarget 20 = .ok (.athrow, 1) := by decide +kernel
theorem dX4_entryTarget_21 : decode cX4_entryTarget 21 = .ok (.aload_n 0, 1) := by decide +kernel
theorem dX4_entryTarget_22 : decode cX4_entryTarget 22 = .ok (.aload_n 0, 1) := by decide +kernel
theorem dX4_entryTarget_23 : decode cX4_entryTarget 23 = .ok (.getfield 23, 3) := by decide +kernel
theorem dX4_entryTarget_26 : decode cX4_entryTarget 26 = .ok (.iload_n 1, 1) := by decide +kernel
theorem dX4_entryTarget_27 : decode cX4_entryTarget 27 = .ok (.invokevirtual 144, 3) := by decide +kernel
theorem dX4_entryTarget_30 : decode cX4_entryTarget 30 = .ok (.invokevirtual 154, 3) := by decide +kernel
theorem dX4_entryTarget_33 : decode cX4_entryTarget 33 = .ok (.ireturn, 1) := by decide +kernel
set_option maxRecDepth 20000 in
theorem ggX4_requireThingAndLayer_X2_has : GoodIn wsX4_requireThingAndLayer wsX2_has := goodIn_r _ [10, 11, 23, 24, 25, 26, 27] (by decide +kernel) (by decide +kernel)
set_option maxRecDepth 20000 in
theorem gX4_requireThingAndLayer_X2_has : GoodIn wsX4_requireThingAndLayer (wsV RX4 115 RX2 yX2_has wsX2_has) := goodIn_app (goodIn_of _ (by decide +kernel)) ggX4_requireThingAndLayer_X2_has
theorem dX4_requireThingAndLayer_0 : decode cX4_requireThingAndLayer 0 = .ok (.aload_n 0, 1) := by decide +kernel
theorem dX4_requireThingAndLayer_1 : decode cX4_requireThingAndLayer 1 = .ok (.getfield 16, 3) := by decide +kernel
theorem dX4_requireThingAndLayer_4 : decode cX4_requireThingAndLayer 4 = .ok (.iload_n 1, 1) := by decide +kernel
theorem dX4_requireThingAndLayer_5 : decode cX4_requireThingAndLayer 5 = .ok (.invokevirtual 115, 3) := by decide +kernel
theorem dX4_requireThingAndLayer_8 : decode cX4_requireThingAndLayer 8 = .ok (.ifCond .ne 13, 3) := by decide +kernel
theorem dX4_requireThingAndLayer_11 : decode cX4_requireThingAndLayer 11 = .ok (.new 41, 3) := by decide +kernel
theorem dX4_requireThingAndLayer_14 : decode cX4_requireThingAndLayer 14 = .ok (.dup, 1) := by decide +kernel
theorem dX4_requireThingAndLayer_15 : decode cX4_requireThingAndLayer 15 = .ok (.ldc 119, 2) := by decide +kernel
theorem dX4_requireThingAndLayer_17 : decode cX4_requireThingAndLayer 17 = .ok (.invokespecial 45, 3) := by decide +kernel
theorem dX4_requireThingAndLayer_20 : decode cX4_requireThingAndLayer 20 = .ok (.athrow, 1) := by decide +kernel
theorem dX4_requireThingAndLayer_21 : decode cX4_requireThingAndLayer 21 = .ok (.iload_n 2, 1) := by decide +kernel
theorem dX4_requireThingAndLayer_22 : decode cX4_requireThingAndLayer 22 = .ok (.ifCond .lt 8, 3) := by decide +kernel
theorem dX4_requireThingAndLayer_25 : decode cX4_requireThingAndLayer 25 = .ok (.iload_n 2, 1) := by decide +kernel
theorem dX4_requireThingAndLayer_26 : decode cX4_requireThingAndLayer 26 = .ok (.iconst 5, 1) := by decide +kernel
theorem dX4_requireThingAndLayer_27 : decode cX4_requireThingAndLayer 27 = .ok (.if_icmp .le 13, 3) := by decide +kernel
theorem dX4_requireThingAndLayer_30 : decode cX4_requireThingAndLayer 30 = .ok (.new 98, 3) := by decide +kernel
theorem dX4_requireThingAndLayer_33 : decode cX4_requireThingAndLayer 33 = .ok (.dup, 1) := by decide +kernel
theorem dX4_requireThingAndLayer_34 : decode cX4_requireThingAndLayer 34 = .ok (.ldc 157, 2) := by decide +kernel
theorem dX4_requireThingAndLayer_36 : decode cX4_requireThingAndLayer 36 = .ok (.invokespecial 102, 3) := by decide +kernel
theorem dX4_requireThingAndLayer_39 : decode cX4_requireThingAndLayer 39 = .ok (.athrow, 1) := by decide +kernel
theorem dX4_requireThingAndLayer_40 : decode cX4_requireThingAndLayer 40 = .ok (.return_, 1) := by decide +kernel
theorem dX4_nextPlayer_0 : decode cX4_nextPlayer 0 = .ok (.iload_n 0, 1) := by decide +kernel
theorem dX4_nextPlayer_1 : decode cX4_nextPlayer 1 = .ok (.iconst 1, 1) := by decide +kernel
theorem dX4_nextPlayer_2 : decode cX4_nextPlayer 2 = .ok (.iadd, 1) := by decide +kernel
theorem dX4_nextPlayer_3 : decode cX4_nextPlayer 3 = .ok (.iconst 3, 1) := by decide +kernel
theorem dX4_nextPlayer_4 : decode cX4_nextPlayer 4 = .ok (.if_icmp .ge 9, 3) := by decide +kernel
theorem dX4_nextPlayer_7 : decode cX4_nextPlayer 7 = .ok (.iload_n 0, 1) := by decide +kernel
theorem dX4_nextPlayer_8 : decode cX4_nextPlayer 8 = .ok (.iconst 1, 1) := by decide +kernel
theorem dX4_nextPlayer_9 : decode cX4_nextPlayer 9 = .ok (.iadd, 1) := by decide +kernel
theorem dX4_nextPlayer_10 : decode cX4_nextPlayer 10 = .ok (.goto 4, 3) := by decide +kernel
theorem dX4_nextPlayer_13 : decode cX4_nextPlayer 13 = .ok (.iconst 0, 1) := by decide +kernel
theorem dX4_nextPlayer_14 : decode cX4_nextPlayer 14 = .ok (.ireturn, 1) := by decide +kernel
theorem dX4_costOf_0 : decode cX4_costOf 0 = .ok (.iload_n 0, 1) := by decide +kernel
theorem dX4_costOf_1 : decode cX4_costOf 1 = .ok (.ifCond .lt 17, 3) := by decide +kernel
theorem dX4_costOf_4 : decode cX4_costOf 4 = .ok (.iload_n 0, 1) := by decide +kernel
theorem dX4_costOf_5 : decode cX4_costOf 5 = .ok (.bipush 14, 2) := by decide +kernel
theorem dX4_costOf_7 : decode cX4_costOf 7 = .ok (.if_icmp .ge 11, 3) := by decide +kernel
theorem dX4_costOf_10 : decode cX4_costOf 10 = .ok (.getstatic 159, 3) := by decide +kernel
theorem dX4_costOf_13 : decode cX4_costOf 13 = .ok (.iload_n 0, 1) := by decide +kernel
theorem dX4_costOf_14 : decode cX4_costOf 14 = .ok (.iaload, 1) := by decide +kernel
theorem dX4_costOf_15 : decode cX4_costOf 15 = .ok (.goto 4, 3) := by decide +kernel
theorem dX4_costOf_18 : decode cX4_costOf 18 = .ok (.iconst 0, 1) := by decide +kernel
theorem dX4_costOf_19 : decode cX4_costOf 19 = .ok (.ireturn, 1) := by decide +kernel
theorem dX4_layerOf_0 : decode cX4_layerOf 0 = .ok (.iload_n 0, 1) := by decide +kernel
theorem dX4_layerOf_1 : decode cX4_layerOf 1 = .ok (.ifCond .lt 17, 3) := by decide +kernel
theorem dX4_layerOf_4 : decode cX4_layerOf 4 = .ok (.iload_n 0, 1) := by decide +kernel
theorem dX4_layerOf_5 : decode cX4_layerOf 5 = .ok (.bipush 14, 2) := by decide +kernel
theorem dX4_layerOf_7 : decode cX4_layerOf 7 = .ok (.if_icmp .ge 11, 3) := by decide +kernel
theorem dX4_layerOf_10 : decode cX4_layerOf 10 = .ok (.getstatic 162, 3) := by decide +kernel
theorem dX4_layerOf_13 : decode cX4_layerOf 13 = .ok (.iload_n 0, 1) := by decide +kernel
theorem dX4_layerOf_14 : decode cX4_layerOf 14 = .ok (.iaload, 1) := by decide +kernel
theorem dX4_layerOf_15 : decode cX4_layerOf 15 = .ok (.goto 4, 3) := by decide +kernel
theorem dX4_layerOf_18 : decode cX4_layerOf 18 = .ok (.iconst 0, 1) := by decide +kernel
theorem dX4_layerOf_19 : decode cX4_layerOf 19 = .ok (.ireturn, 1) := by decide +kernel
theorem dX4_isThing_0 : decode cX4_isThing 0 = .ok (.iload_n 0, 1) := by decide +kernel
theorem dX4_isThing_1 : decode cX4_isThing 1 = .ok (.bipush 12, 2) := by decide +kernel
theorem dX4_isThing_3 : decode cX4_isThing 3 = .ok (.if_icmp .ge 7, 3) := by decide +kernel
theorem dX4_isThing_6 : decode cX4_isThing 6 = .ok (.iconst 1, 1) := by decide +kernel
theorem dX4_isThing_7 : decode cX4_isThing 7 = .ok (.goto 4, 3) := by decide +kernel
theorem dX4_isThing_10 : decode cX4_isThing 10 = .ok (.iconst 0, 1) := by decide +kernel
theorem dX4_isThing_11 : decode cX4_isThing 11 = .ok (.ireturn, 1) := by decide +kernel
theorem dX4_newId_0 : decode cX4_newId 0 = .ok (.aload_n 0, 1) := by decide +kernel
theorem dX4_newId_1 : decode cX4_newId 1 = .ok (.getfield 165, 3) := by decide +kernel
theorem dX4_newId_4 : decode cX4_newId 4 = .ok (.istore_n 1, 1) := by decide +kernel
theorem dX4_newId_5 : decode cX4_newId 5 = .ok (.aload_n 0, 1) := by decide +kernel
theorem dX4_newId_6 : decode cX4_newId 6 = .ok (.dup, 1) := by decide +kernel
theorem dX4_newId_7 : decode cX4_newId 7 = .ok (.getfield 165, 3) := by decide +kernel
theorem dX4_newId_10 : decode cX4_newId 10 = .ok (.iconst 1, 1) := by decide +kernel
theorem dX4_newId_11 : decode cX4_newId 11 = .ok (.iadd, 1) := by decide +kernel
theorem dX4_newId_12 : decode cX4_newId 12 = .ok (.putfield 165, 3) := by decide +kernel
theorem dX4_newId_15 : decode cX4_newId 15 = .ok (.iload_n 1, 1) := by decide +kernel
theorem dX4_newId_16 : decode cX4_newId 16 = .ok (.ireturn, 1) := by decide +kernel
theorem dX4_coinsOf_0 : decode cX4_coinsOf 0 = .ok (.iload_n 1, 1) := by decide +kernel
theorem dX4_coinsOf_1 : decode cX4_coinsOf 1 = .ok (.ifCond .lt 17, 3) := by decide +kernel
theorem dX4_coinsOf_4 : decode cX4_coinsOf 4 = .ok (.iload_n 1, 1) := by decide +kernel
theorem dX4_coinsOf_5 : decode cX4_coinsOf 5 = .ok (.iconst 3, 1) := by decide +kernel
theorem dX4_coinsOf_6 : decode cX4_coinsOf 6 = .ok (.if_icmp .ge 12, 3) := by decide +kernel
theorem dX4_coinsOf_9 : decode cX4_coinsOf 9 = .ok (.aload_n 0, 1) := by decide +kernel
theorem dX4_coinsOf_10 : decode cX4_coinsOf 10 = .ok (.getfield 9, 3) := by decide +kernel
theorem dX4_coinsOf_13 : decode cX4_coinsOf 13 = .ok (.iload_n 1, 1) := by decide +kernel
theorem dX4_coinsOf_14 : decode cX4_coinsOf 14 = .ok (.iaload, 1) := by decide +kernel
theorem dX4_coinsOf_15 : decode cX4_coinsOf 15 = .ok (.goto 4, 3) := by decide +kernel
theorem dX4_coinsOf_18 : decode cX4_coinsOf 18 = .ok (.iconst 0, 1) := by decide +kernel
theorem dX4_coinsOf_19 : decode cX4_coinsOf 19 = .ok (.ireturn, 1) := by decide +kernel
theorem dX4_pay_0 : decode cX4_pay 0 = .ok (.iload_n 1, 1) := by decide +kernel
theorem dX4_pay_1 : decode cX4_pay 1 = .ok (.ifCond .lt 18, 3) := by decide +kernel
theorem dX4_pay_4 : decode cX4_pay 4 = .ok (.iload_n 1, 1) := by decide +kernel
theorem dX4_pay_5 : decode cX4_pay 5 = .ok (.iconst 3, 1) := by decide +kernel
theorem dX4_pay_6 : decode cX4_pay 6 = .ok (.if_icmp .ge 13, 3) := by decide +kernel
theorem dX4_pay_9 : decode cX4_pay 9 = .ok (.aload_n 0, 1) := by decide +kernel
theorem dX4_pay_10 : decode cX4_pay 10 = .ok (.getfield 9, 3) := by decide +kernel
theorem dX4_pay_13 : decode cX4_pay 13 = .ok (.iload_n 1, 1) := by decide +kernel
theorem dX4_pay_14 : decode cX4_pay 14 = .ok (.dup2, 1) := by decide +kernel
theorem dX4_pay_15 : decode cX4_pay 15 = .ok (.iaload, 1) := by decide +kernel
theorem dX4_pay_16 : decode cX4_pay 16 = .ok (.iload_n 2, 1) := by decide +kernel
theorem dX4_pay_17 : decode cX4_pay 17 = .ok (.iadd, 1) := by decide +kernel
theorem dX4_pay_18 : decode cX4_pay 18 = .ok (.iastore, 1) := by decide +kernel
theorem dX4_pay_19 : decode cX4_pay 19 = .ok (.return_, 1) := by decide +kernel
set_option maxRecDepth 20000 in
theorem ggX4_findObstacle_X4_isThing : GoodIn wsX4_findObstacle wsX4_isThing := goodIn_r _ [8] (by decide +kernel) (by decide +kernel)
set_option maxRecDepth 20000 in
theorem gX4_findObstacle_X4_isThing : GoodIn wsX4_findObstacle (va_wsS RX4 168 yX4_isThing wsX4_isThing) := goodIn_app (goodIn_of _ (by decide +kernel)) ggX4_findObstacle_X4_isThing
set_option maxRecDepth 20000 in
theorem ggX4_findObstacle_X4_coinsOf : GoodIn wsX4_findObstacle wsX4_coinsOf := goodIn_r _ [12, 13, 41, 42, 43, 44, 45, 46, 47, 48, 49, 50, 51] (by decide +kernel) (by decide +kernel)
set_option maxRecDepth 20000 in
theorem gX4_findObstacle_X4_coinsOf : GoodIn wsX4_findObstacle (wsV RX4 171 RX4 yX4_coinsOf wsX4_coinsOf) := goodIn_app (goodIn_of _ (by decide +kernel)) ggX4_findObstacle_X4_coinsOf
set_option maxRecDepth 20000 in
theorem ggX4_findObstacle_X4_costOf : GoodIn wsX4_findObstacle wsX4_costOf := goodIn_r _ [16, 17] (by decide +kernel) (by decide +kernel)
set_option maxRecDepth 20000 in
theorem gX4_findObstacle_X4_costOf : GoodIn wsX4_findObstacle (va_wsS RX4 61 yX4_costOf wsX4_costOf) := goodIn_app (goodIn_of _ (by decide +kernel)) ggX4_findObstacle_X4_costOf
set_option maxRecDepth 20000 in
theorem ggX4_findObstacle_X4_hasTarget : GoodIn wsX4_findObstacle wsX4_hasTarget := goodIn_r _ [21, 22, 1, 23, 24, 25, 26, 27, 28, 29, 30, 31, 32, 33, 34, 35, 36, 37, 38, 39, 40, 41, 42, 43, 44, 45, 46, 47, 48, 49, 50, 51, 52, 53, 54, 55, 56, 57, 58, 59, 60, 61, 62] (by decide +kernel) (by decide +kernel)
set_option maxRecDepth 20000 in
theorem gX4_findObstacle_X4_hasTarget : GoodIn wsX4_findObstacle (wsV RX4 174 RX4 yX4_hasTarget wsX4_hasTarget) := goodIn_app (goodIn_of _ (by decide +kernel)) ggX4_findObstacle_X4_hasTarget
theorem dX4_findObstacle_0 : decode cX4_findObstacle 0 = .ok (.iload_n 1, 1) := by decide +kernel
theorem dX4_findObstacle_1 : decode cX4_findObstacle 1 = .ok (.invokestatic 168, 3) := by decide +kernel
theorem dX4_findObstacle_4 : decode cX4_findObstacle 4 = .ok (.ifCond .eq 26, 3) := by decide +kernel
theorem dX4_findObstacle_7 : decode cX4_findObstacle 7 = .ok (.aload_n 0, 1) := by decide +kernel
theorem dX4_findObstacle_8 : decode cX4_findObstacle 8 = .ok (.getfield 23, 3) := by decide +kernel
theorem dX4_findObstacle_11 : decode cX4_findObstacle 11 = .ok (.getfield 89, 3) := by decide +kernel
theorem dX4_findObstacle_14 : decode cX4_findObstacle 14 = .ok (.ifCond .gt 14, 3) := by decide +kernel
theorem dX4_findObstacle_17 : decode cX4_findObstacle 17 = .ok (.aload_n 0, 1) := by decide +kernel
theorem dX4_findObstacle_18 : decode cX4_findObstacle 18 = .ok (.getfield 57, 3) := by decide +kernel
theorem dX4_findObstacle_21 : decode cX4_findObstacle 21 = .ok (.aload_n 0, 1) := by decide +kernel
theorem dX4_findObstacle_22 : decode cX4_findObstacle 22 = .ok (.getfield 103, 3) := by decide +kernel
theorem dX4_findObstacle_25 : decode cX4_findObstacle 25 = .ok (.if_icmp .eq 5, 3) := by decide +kernel
theorem dX4_findObstacle_28 : decode cX4_findObstacle 28 = .ok (.iconst 1, 1) := by decide +kernel
theorem dX4_findObstacle_29 : decode cX4_findObstacle 29 = .ok (.ireturn, 1) := by decide +kernel
theorem dX4_findObstacle_30 : decode cX4_findObstacle 30 = .ok (.aload_n 0, 1) := by decide +kernel
theorem dX4_findObstacle_31 : decode cX4_findObstacle 31 = .ok (.aload_n 0, 1) := by decide +kernel
theorem dX4_findObstacle_32 : decode cX4_findObstacle 32 = .ok (.getfield 57, 3) := by decide +kernel
theorem dX4_findObstacle_35 : decode cX4_findObstacle 35 = .ok (.invokevirtual 171, 3) := by decide +kernel
theorem dX4_findObstacle_38 : decode cX4_findObstacle 38 = .ok (.iload_n 1, 1) := by decide +kernel
theorem dX4_findObstacle_39 : decode cX4_findObstacle 39 = .ok (.invokestatic 61, 3) := by decide +kernel
theorem dX4_findObstacle_42 : decode cX4_findObstacle 42 = .ok (.if_icmp .ge 5, 3) := by decide +kernel
theorem dX4_findObstacle_45 : decode cX4_findObstacle 45 = .ok (.iconst 2, 1) := by decide +kernel
theorem dX4_findObstacle_46 : decode cX4_findObstacle 46 = .ok (.ireturn, 1) := by decide +kernel
theorem dX4_findObstacle_47 : decode cX4_findObstacle 47 = .ok (.aload_n 0, 1) := by decide +kernel
theorem dX4_findObstacle_48 : decode cX4_findObstacle 48 = .ok (.iload_n 1, 1) := by decide +kernel
theorem dX4_findObstacle_49 : decode cX4_findObstacle 49 = .ok (.iload_n 2, 1) := by decide +kernel
theorem dX4_findObstacle_50 : decode cX4_findObstacle 50 = .ok (.invokevirtual 174, 3) := by decide +kernel
theorem dX4_findObstacle_53 : decode cX4_findObstacle 53 = .ok (.ifCond .ne 5, 3) := by decide +kernel
theorem dX4_findObstacle_56 : decode cX4_findObstacle 56 = .ok (.iconst 3, 1) := by decide +kernel
theorem dX4_findObstacle_57 : decode cX4_findObstacle 57 = .ok (.ireturn, 1) := by decide +kernel
theorem dX4_findObstacle_58 : decode cX4_findObstacle 58 = .ok (.aload_n 0, 1) := by decide +kernel
theorem dX4_findObstacle_59 : decode cX4_findObstacle 59 = .ok (.getfield 23, 3) := by decide +kernel
theorem dX4_findObstacle_62 : decode cX4_findObstacle 62 = .ok (.getfield 89, 3) := by decide +kernel
theorem dX4_findObstacle_65 : decode cX4_findObstacle 65 = .ok (.bipush 12, 2) := by decide +kernel
theorem dX4_findObstacle_67 : decode cX4_findObstacle 67 = .ok (.if_icmp .lt 7, 3) := by decide +kernel
theorem dX4_findObstacle_70 : decode cX4_findObstacle 70 = .ok (.iconst 4, 1) := by decide +kernel
theorem dX4_findObstacle_71 : decode cX4_findObstacle 71 = .ok (.goto 4, 3) := by decide +kernel
theorem dX4_findObstacle_74 : decode cX4_findObstacle 74 = .ok (.iconst 0, 1) := by decide +kernel
theorem dX4_findObstacle_75 : decode cX4_findObstacle 75 = .ok (.ireturn, 1) := by decide +kernel
set_option maxRecDepth 20000 in
theorem ggX4_hasTarget_X2_has : GoodIn wsX4_hasTarget wsX2_has := goodIn_r _ [8, 9, 38, 39, 40, 41, 42] (by decide +kernel) (by decide +kernel)
set_option maxRecDepth 20000 in
theorem gX4_hasTarget_X2_has : GoodIn wsX4_hasTarget (wsV RX4 115 RX2 yX2_has wsX2_has) := goodIn_app (goodIn_of _ (by decide +kernel)) ggX4_hasTarget_X2_has
set_option maxRecDepth 20000 in
theorem ggX4_hasTarget_X0_has : GoodIn wsX4_hasTarget wsX0_has := goodIn_r _ [14, 15, 32, 33, 34, 35, 36, 37] (by decide +kernel) (by decide +kernel)
set_option maxRecDepth 20000 in
theorem gX4_hasTarget_X0_has : GoodIn wsX4_hasTarget (wsV RX4 140 RX0 yX0_has wsX0_has) := goodIn_app (goodIn_of _ (by decide +kernel)) ggX4_hasTarget_X0_has
set_option maxRecDepth 20000 in
theorem ggX4_hasTarget_X0_indexOf : GoodIn wsX4_hasTarget wsX0_indexOf := goodIn_r _ [19, 15, 20, 11, 12, 13, 14, 32, 33, 34, 35, 36, 37] (by decide +kernel) (by decide +kernel)
set_option maxRecDepth 20000 in
theorem gX4_hasTarget_X0_indexOf : GoodIn wsX4_hasTarget (wsV RX4 144 RX0 yX0_indexOf wsX0_indexOf) := goodIn_app (goodIn_of _ (by decide +kernel)) ggX4_hasTarget_X0_indexOf
theorem dX4_hasTarget_0 : decode cX4_hasTarget 0 = .ok (.iload_n 1, 1) := by decide +kernel
theorem dX4_hasTarget_1 : decode cX4_hasTarget 1 = .ok (.bipush 7, 2) := by decide +kernel
theorem dX4_hasTarget_3 : decode cX4_hasTarget 3 = .ok (.if_icmp .eq 9, 3) := by decide +kernel
theorem dX4_hasTarget_6 : decode cX4_hasTarget 6 = .ok (.iload_n 1, 1) := by decide +kernel
theorem dX4_hasTarget_7 : decode cX4_hasTarget 7 = .ok (.bipush 12, 2) := by decide +kernel
theorem dX4_hasTarget_9 : decode cX4_hasTarget 9 = .ok (.if_icmp .ne 12, 3) := by decide +kernel
theorem dX4_hasTarget_12 : decode cX4_hasTarget 12 = .ok (.aload_n 0, 1) := by decide +kernel
theorem dX4_hasTarget_13 : decode cX4_hasTarget 13 = .ok (.getfield 16, 3) := by decide +kernel
theorem dX4_hasTarget_16 : decode cX4_hasTarget 16 = .ok (.iload_n 2, 1) := by decide +kernel
theorem dX4_hasTarget_17 : decode cX4_hasTarget 17 = .ok (.invokevirtual 115, 3) := by decide +kernel
theorem dX4_hasTarget_20 : decode cX4_hasTarget 20 = .ok (.ireturn, 1) := by decide +kernel
theorem dX4_hasTarget_21 : decode cX4_hasTarget 21 = .ok (.iload_n 1, 1) := by decide +kernel
theorem dX4_hasTarget_22 : decode cX4_hasTarget 22 = .ok (.bipush 13, 2) := by decide +kernel
theorem dX4_hasTarget_24 : decode cX4_hasTarget 24 = .ok (.if_icmp .ne 39, 3) := by decide +kernel
theorem dX4_hasTarget_27 : decode cX4_hasTarget 27 = .ok (.aload_n 0, 1) := by decide +kernel
theorem dX4_hasTarget_28 : decode cX4_hasTarget 28 = .ok (.getfield 23, 3) := by decide +kernel
theorem dX4_hasTarget_31 : decode cX4_hasTarget 31 = .ok (.iload_n 2, 1) := by decide +kernel
theorem dX4_hasTarget_32 : decode cX4_hasTarget 32 = .ok (.invokevirtual 140, 3) := by decide +kernel
theorem dX4_hasTarget_35 : decode cX4_hasTarget 35 = .ok (.ifCond .eq 26, 3) := by decide +kernel
theorem dX4_hasTarget_38 : decode cX4_hasTarget 38 = .ok (.aload_n 0, 1) := by decide +kernel
theorem dX4_hasTarget_39 : decode cX4_hasTarget 39 = .ok (.getfield 23, 3) := by decide +kernel
theorem dX4_hasTarget_42 : decode cX4_hasTarget 42 = .ok (.getfield 147, 3) := by decide +kernel
theorem dX4_hasTarget_45 : decode cX4_hasTarget 45 = .ok (.aload_n 0, 1) := by decide +kernel
theorem dX4_hasTarget_46 : decode cX4_hasTarget 46 = .ok (.getfield 23, 3) := by decide +kernel
theorem dX4_hasTarget_49 : decode cX4_hasTarget 49 = .ok (.iload_n 2, 1) := by decide +kernel
theorem dX4_hasTarget_50 : decode cX4_hasTarget 50 = .ok (.invokevirtual 144, 3) := by decide +kernel
theorem dX4_hasTarget_53 : decode cX4_hasTarget 53 = .ok (.baload, 1) := by decide +kernel
theorem dX4_hasTarget_54 : decode cX4_hasTarget 54 = .ok (.ifCond .ne 7, 3) := by decide +kernel
theorem dX4_hasTarget_57 : decode cX4_hasTarget 57 = .ok (.iconst 1, 1) := by decide +kernel
theorem dX4_hasTarget_58 : decode cX4_hasTarget 58 = .ok (.goto 4, 3) := by decide +kernel
theorem dX4_hasTarget_61 : decode cX4_hasTarget 61 = .ok (.iconst 0, 1) := by decide +kernel
theorem dX4_hasTarget_62 : decode cX4_hasTarget 62 = .ok (.ireturn, 1) := by decide +kernel
theorem dX4_hasTarget_63 : decode cX4_hasTarget 63 = .ok (.iconst 1, 1) := by decide +kernel
theorem dX4_hasTarget_64 : decode cX4_hasTarget 64 = .ok (.ireturn, 1) := by decide +kernel
set_option maxRecDepth 20000 in
theorem ggX4_targetId_X2_has : GoodIn wsX4_targetId wsX2_has := goodIn_r _ [9, 10, 33, 34, 35, 36, 37] (by decide +kernel) (by decide +kernel)
set_option maxRecDepth 20000 in
theorem gX4_targetId_X2_has : GoodIn wsX4_targetId (wsV RX4 115 RX2 yX2_has wsX2_has) := goodIn_app (goodIn_of _ (by decide +kernel)) ggX4_targetId_X2_has
set_option maxRecDepth 20000 in
theorem ggX4_targetId_X0_has : GoodIn wsX4_targetId wsX0_has := goodIn_r _ [15, 16, 38, 39, 40, 41, 42, 43] (by decide +kernel) (by decide +kernel)
set_option maxRecDepth 20000 in
theorem gX4_targetId_X0_has : GoodIn wsX4_targetId (wsV RX4 140 RX0 yX0_has wsX0_has) := goodIn_app (goodIn_of _ (by decide +kernel)) ggX4_targetId_X0_has
set_option maxRecDepth 20000 in
theorem ggX4_targetId_X0_indexOf : GoodIn wsX4_targetId wsX0_indexOf := goodIn_r _ [20, 16, 21, 12, 13, 14, 15, 38, 39, 40, 41, 42, 43] (by decide +kernel) (by decide +kernel)
set_option maxRecDepth 20000 in
theorem gX4_targetId_X0_indexOf : GoodIn wsX4_targetId (wsV RX4 144 RX0 yX0_indexOf wsX0_indexOf) := goodIn_app (goodIn_of _ (by decide +kernel)) ggX4_targetId_X0_indexOf
theorem dX4_targetId_0 : decode cX4_targetId 0 = .ok (.iload_n 1, 1) := by decide +kernel
theorem dX4_targetId_1 : decode cX4_targetId 1 = .ok (.bipush 7, 2) := by decide +kernel
theorem dX4_targetId_3 : decode cX4_targetId 3 = .ok (.if_icmp .eq 9, 3) := by decide +kernel
theorem dX4_targetId_6 : decode cX4_targetId 6 = .ok (.iload_n 1, 1) := by decide +kernel
theorem dX4_targetId_7 : decode cX4_targetId 7 = .ok (.bipush 12, 2) := by decide +kernel
theorem dX4_targetId_9 : decode cX4_targetId 9 = .ok (.if_icmp .ne 24, 3) := by decide +kernel
theorem dX4_targetId_12 : decode cX4_targetId 12 = .ok (.aload_n 0, 1) := by decide +kernel
theorem dX4_targetId_13 : decode cX4_targetId 13 = .ok (.getfield 16, 3) := by decide +kernel
theorem dX4_targetId_16 : decode cX4_targetId 16 = .ok (.iload_n 2, 1) := by decide +kernel
theorem dX4_targetId_17 : decode cX4_targetId 17 = .ok (.invokevirtual 115, 3) := by decide +kernel
theorem dX4_targetId_20 : decode cX4_targetId 20 = .ok (.ifCond .eq 13, 3) := by decide +kernel
theorem dX4_targetId_23 : decode cX4_targetId 23 = .ok (.aload_n 0, 1) := by decide +kernel
theorem dX4_targetId_24 : decode cX4_targetId 24 = .ok (.getfield 16, 3) := by decide +kernel
theorem dX4_targetId_27 : decode cX4_targetId 27 = .ok (.getfield 178, 3) := by decide +kernel
theorem dX4_targetId_30 : decode cX4_targetId 30 = .ok (.iload_n 2, 1) := by decide +kernel
theorem dX4_targetId_31 : decode cX4_targetId 31 = .ok (.iaload, 1) := by decide +kernel
theorem dX4_targetId_32 : decode cX4_targetId 32 = .ok (.ireturn, 1) := by decide +kernel
theorem dX4_targetId_33 : decode cX4_targetId 33 = .ok (.iload_n 1, 1) := by decide +kernel
theorem dX4_targetId_34 : decode cX4_targetId 34 = .ok (.bipush 13, 2) := by decide +kernel
theorem dX4_targetId_36 : decode cX4_targetId 36 = .ok (.if_icmp .ne 31, 3) := by decide +kernel
theorem dX4_targetId_39 : decode cX4_targetId 39 = .ok (.aload_n 0, 1) := by decide +kernel
theorem dX4_targetId_40 : decode cX4_targetId 40 = .ok (.getfield 23, 3) := by decide +kernel
theorem dX4_targetId_43 : decode cX4_targetId 43 = .ok (.iload_n 2, 1) := by decide +kernel
theorem dX4_targetId_44 : decode cX4_targetId 44 = .ok (.invokevirtual 140, 3) := by decide +kernel
theorem dX4_targetId_47 : decode cX4_targetId 47 = .ok (.ifCond .eq 20, 3) := by decide +kernel
theorem dX4_targetId_50 : decode cX4_targetId 50 = .ok (.aload_n 0, 1) := by decide +kernel
theorem dX4_targetId_51 : decode cX4_targetId 51 = .ok (.getfield 23, 3) := by decide +kernel
theorem dX4_targetId_54 : decode cX4_targetId 54 = .ok (.getfield 181, 3) := by decide +kernel
theorem dX4_targetId_57 : decode cX4_targetId 57 = .ok (.aload_n 0, 1) := by decide +kernel
theorem dX4_targetId_58 : decode cX4_targetId 58 = .ok (.getfield 23, 3) := by decide +kernel
theorem dX4_targetId_61 : decode cX4_targetId 61 = .ok (.iload_n 2, 1) := by decide +kernel
theorem dX4_targetId_62 : decode cX4_targetId 62 = .ok (.invokevirtual 144, 3) := by decide +kernel
theorem dX4_targetId_65 : decode cX4_targetId 65 = .ok (.iaload, 1) := by decide +kernel
theorem dX4_targetId_66 : decode cX4_targetId 66 = .ok (.ireturn, 1) := by decide +kernel
theorem dX4_targetId_67 : decode cX4_targetId 67 = .ok (.iconst (-1), 1) := by decide +kernel
theorem dX4_targetId_68 : decode cX4_targetId 68 = .ok (.ireturn, 1) := by decide +kernel
set_option maxRecDepth 20000 in
theorem ggX4_targetPlace_X0_placeOf : GoodIn wsX4_targetPlace wsX0_placeOf := goodIn_r _ [10, 11, 12, 31, 32, 33, 34, 35, 36] (by decide +kernel) (by decide +kernel)
set_option maxRecDepth 20000 in
theorem gX4_targetPlace_X0_placeOf : GoodIn wsX4_targetPlace (wsV RX4 185 RX0 yX0_placeOf wsX0_placeOf) := goodIn_app (goodIn_of _ (by decide +kernel)) ggX4_targetPlace_X0_placeOf
set_option maxRecDepth 20000 in
theorem ggX4_targetPlace_X2_placeOf : GoodIn wsX4_targetPlace wsX2_placeOf := goodIn_r _ [17, 18, 19, 37, 38, 39, 40, 41] (by decide +kernel) (by decide +kernel)
set_option maxRecDepth 20000 in
theorem gX4_targetPlace_X2_placeOf : GoodIn wsX4_targetPlace (wsV RX4 188 RX2 yX2_placeOf wsX2_placeOf) := goodIn_app (goodIn_of _ (by decide +kernel)) ggX4_targetPlace_X2_placeOf
theorem dX4_targetPlace_0 : decode cX4_targetPlace 0 = .ok (.iload_n 1, 1) := by decide +kernel
theorem dX4_targetPlace_1 : decode cX4_targetPlace 1 = .ok (.ifCond .lt 14, 3) := by decide +kernel
theorem dX4_targetPlace_4 : decode cX4_targetPlace 4 = .ok (.iload_n 1, 1) := by decide +kernel
theorem dX4_targetPlace_5 : decode cX4_targetPlace 5 = .ok (.aload_n 0, 1) := by decide +kernel
theorem dX4_targetPlace_6 : decode cX4_targetPlace 6 = .ok (.getfield 23, 3) := by decide +kernel
theorem dX4_targetPlace_9 : decode cX4_targetPlace 9 = .ok (.getfield 89, 3) := by decide +kernel
theorem dX4_targetPlace_12 : decode cX4_targetPlace 12 = .ok (.if_icmp .lt 5, 3) := by decide +kernel
theorem dX4_targetPlace_15 : decode cX4_targetPlace 15 = .ok (.iconst (-1), 1) := by decide +kernel
theorem dX4_targetPlace_16 : decode cX4_targetPlace 16 = .ok (.ireturn, 1) := by decide +kernel
theorem dX4_targetPlace_17 : decode cX4_targetPlace 17 = .ok (.aload_n 0, 1) := by decide +kernel
theorem dX4_targetPlace_18 : decode cX4_targetPlace 18 = .ok (.getfield 23, 3) := by decide +kernel
theorem dX4_targetPlace_21 : decode cX4_targetPlace 21 = .ok (.getfield 182, 3) := by decide +kernel
theorem dX4_targetPlace_24 : decode cX4_targetPlace 24 = .ok (.iload_n 1, 1) := by decide +kernel
theorem dX4_targetPlace_25 : decode cX4_targetPlace 25 = .ok (.iaload, 1) := by decide +kernel
theorem dX4_targetPlace_26 : decode cX4_targetPlace 26 = .ok (.istore_n 2, 1) := by decide +kernel
theorem dX4_targetPlace_27 : decode cX4_targetPlace 27 = .ok (.aload_n 0, 1) := by decide +kernel
theorem dX4_targetPlace_28 : decode cX4_targetPlace 28 = .ok (.getfield 23, 3) := by decide +kernel
theorem dX4_targetPlace_31 : decode cX4_targetPlace 31 = .ok (.getfield 143, 3) := by decide +kernel
theorem dX4_targetPlace_34 : decode cX4_targetPlace 34 = .ok (.iload_n 1, 1) := by decide +kernel
theorem dX4_targetPlace_35 : decode cX4_targetPlace 35 = .ok (.iaload, 1) := by decide +kernel
theorem dX4_targetPlace_36 : decode cX4_targetPlace 36 = .ok (.bipush 13, 2) := by decide +kernel
theorem dX4_targetPlace_38 : decode cX4_targetPlace 38 = .ok (.if_icmp .ne 14, 3) := by decide +kernel
theorem dX4_targetPlace_41 : decode cX4_targetPlace 41 = .ok (.aload_n 0, 1) := by decide +kernel
theorem dX4_targetPlace_42 : decode cX4_targetPlace 42 = .ok (.getfield 23, 3) := by decide +kernel
theorem dX4_targetPlace_45 : decode cX4_targetPlace 45 = .ok (.iload_n 2, 1) := by decide +kernel
theorem dX4_targetPlace_46 : decode cX4_targetPlace 46 = .ok (.invokevirtual 185, 3) := by decide +kernel
theorem dX4_targetPlace_49 : decode cX4_targetPlace 49 = .ok (.goto 11, 3) := by decide +kernel
theorem dX4_targetPlace_52 : decode cX4_targetPlace 52 = .ok (.aload_n 0, 1) := by decide +kernel
theorem dX4_targetPlace_53 : decode cX4_targetPlace 53 = .ok (.getfield 16, 3) := by decide +kernel
theorem dX4_targetPlace_56 : decode cX4_targetPlace 56 = .ok (.iload_n 2, 1) := by decide +kernel
theorem dX4_targetPlace_57 : decode cX4_targetPlace 57 = .ok (.invokevirtual 188, 3) := by decide +kernel
theorem dX4_targetPlace_60 : decode cX4_targetPlace 60 = .ok (.ireturn, 1) := by decide +kernel
set_option maxRecDepth 20000 in
theorem ggX4_beginTurn_X4_nextPlayer : GoodIn wsX4_beginTurn wsX4_nextPlayer := goodIn_r _ [9] (by decide +kernel) (by decide +kernel)
set_option maxRecDepth 20000 in
theorem gX4_beginTurn_X4_nextPlayer : GoodIn wsX4_beginTurn (va_wsS RX4 86 yX4_nextPlayer wsX4_nextPlayer) := goodIn_app (goodIn_of _ (by decide +kernel)) ggX4_beginTurn_X4_nextPlayer
set_option maxRecDepth 20000 in
theorem ggX4_beginTurn_X1_forget : GoodIn wsX4_beginTurn wsX1_forget := goodIn_r _ [14, 15, 16, 93, 94, 95, 96, 97] (by decide +kernel) (by decide +kernel)
set_option maxRecDepth 20000 in
theorem gX4_beginTurn_X1_forget : GoodIn wsX4_beginTurn (wsV RX4 80 RX1 yX1_forget wsX1_forget) := goodIn_app (goodIn_of _ (by decide +kernel)) ggX4_beginTurn_X1_forget
set_option maxRecDepth 20000 in
theorem ggX4_beginTurn_X4_pay : GoodIn wsX4_beginTurn wsX4_pay := goodIn_r _ [20, 21, 82, 83, 84, 85, 86, 87, 88, 89, 90, 91, 92] (by decide +kernel) (by decide +kernel)
set_option maxRecDepth 20000 in
theorem gX4_beginTurn_X4_pay : GoodIn wsX4_beginTurn (wsV RX4 65 RX4 yX4_pay wsX4_pay) := goodIn_app (goodIn_of _ (by decide +kernel)) ggX4_beginTurn_X4_pay
set_option maxRecDepth 20000 in
theorem ggX4_beginTurn_X4_raiseTriggers : GoodIn wsX4_beginTurn wsX4_raiseTriggers := goodIn_r _ [25, 26, 27, 28, 1, 29, 30, 31, 32, 33, 34, 35, 36, 37, 38, 39, 40, 41, 42, 43, 44, 45, 46, 47, 48, 49, 8, 50, 51, 52, 53, 54, 55, 56, 57, 58, 59, 60, 61, 62, 63, 64, 65, 66, 67, 68, 69, 70, 71, 72, 73, 74, 75, 76, 77, 78, 79, 80, 81, 6, 7, 9, 82, 83, 84, 85, 86, 87, 88, 89, 90, 91, 92, 98, 99, 100, 101, 102, 103, 104, 105, 106, 107, 108, 109, 110, 111, 112, 113] (by decide +kernel) (by decide +kernel)
set_option maxRecDepth 20000 in
theorem gX4_beginTurn_X4_raiseTriggers : GoodIn wsX4_beginTurn (wsV RX4 189 RX4 yX4_raiseTriggers wsX4_raiseTriggers) := goodIn_app (goodIn_of _ (by decide +kernel)) ggX4_beginTurn_X4_raiseTriggers
theorem dX4_beginTurn_0 : decode cX4_beginTurn 0 = .ok (.aload_n 0, 1) := by decide +kernel
theorem dX4_beginTurn_1 : decode cX4_beginTurn 1 = .ok (.aload_n 0, 1) := by decide +kernel
theorem dX4_beginTurn_2 : decode cX4_beginTurn 2 = .ok (.getfield 103, 3) := by decide +kernel
theorem dX4_beginTurn_5 : decode cX4_beginTurn 5 = .ok (.invokestatic 86, 3) := by decide +kernel
theorem dX4_beginTurn_8 : decode cX4_beginTurn 8 = .ok (.putfield 103, 3) := by decide +kernel
theorem dX4_beginTurn_11 : decode cX4_beginTurn 11 = .ok (.aload_n 0, 1) := by decide +kernel
theorem dX4_beginTurn_12 : decode cX4_beginTurn 12 = .ok (.aload_n 0, 1) := by decide +kernel
theorem dX4_beginTurn_13 : decode cX4_beginTurn 13 = .ok (.getfield 103, 3) := by decide +kernel
theorem dX4_beginTurn_16 : decode cX4_beginTurn 16 = .ok (.putfield 57, 3) := by decide +kernel
theorem dX4_beginTurn_19 : decode cX4_beginTurn 19 = .ok (.aload_n 0, 1) := by decide +kernel
theorem dX4_beginTurn_20 : decode cX4_beginTurn 20 = .ok (.iconst 0, 1) := by decide +kernel
theorem dX4_beginTurn_21 : decode cX4_beginTurn 21 = .ok (.putfield 83, 3) := by decide +kernel
theorem dX4_beginTurn_24 : decode cX4_beginTurn 24 = .ok (.aload_n 0, 1) := by decide +kernel
theorem dX4_beginTurn_25 : decode cX4_beginTurn 25 = .ok (.dup, 1) := by decide +kernel
theorem dX4_beginTurn_26 : decode cX4_beginTurn 26 = .ok (.getfield 106, 3) := by decide +kernel
theorem dX4_beginTurn_29 : decode cX4_beginTurn 29 = .ok (.iconst 1, 1) := by decide +kernel
theorem dX4_beginTurn_30 : decode cX4_beginTurn 30 = .ok (.iadd, 1) := by decide +kernel
theorem dX4_beginTurn_31 : decode cX4_beginTurn 31 = .ok (.putfield 106, 3) := by decide +kernel
theorem dX4_beginTurn_34 : decode cX4_beginTurn 34 = .ok (.aload_n 0, 1) := by decide +kernel
theorem dX4_beginTurn_35 : decode cX4_beginTurn 35 = .ok (.getfield 37, 3) := by decide +kernel
theorem dX4_beginTurn_38 : decode cX4_beginTurn 38 = .ok (.invokevirtual 80, 3) := by decide +kernel
theorem dX4_beginTurn_41 : decode cX4_beginTurn 41 = .ok (.aload_n 0, 1) := by decide +kernel
theorem dX4_beginTurn_42 : decode cX4_beginTurn 42 = .ok (.aload_n 0, 1) := by decide +kernel
theorem dX4_beginTurn_43 : decode cX4_beginTurn 43 = .ok (.getfield 103, 3) := by decide +kernel
theorem dX4_beginTurn_46 : decode cX4_beginTurn 46 = .ok (.iconst 3, 1) := by decide +kernel
theorem dX4_beginTurn_47 : decode cX4_beginTurn 47 = .ok (.invokevirtual 65, 3) := by decide +kernel
theorem dX4_beginTurn_50 : decode cX4_beginTurn 50 = .ok (.aload_n 0, 1) := by decide +kernel
theorem dX4_beginTurn_51 : decode cX4_beginTurn 51 = .ok (.iconst 3, 1) := by decide +kernel
theorem dX4_beginTurn_52 : decode cX4_beginTurn 52 = .ok (.invokevirtual 189, 3) := by decide +kernel
theorem dX4_beginTurn_55 : decode cX4_beginTurn 55 = .ok (.return_, 1) := by decide +kernel
set_option maxRecDepth 20000 in
theorem ggX4_resolveTop_X0_remove : GoodIn wsX4_resolveTop wsX0_remove := goodIn_r _ [14, 15, 16, 17, 18, 19, 20, 202, 203, 204, 205, 206, 207] (by decide +kernel) (by decide +kernel)
set_option maxRecDepth 20000 in
theorem gX4_resolveTop_X0_remove : GoodIn wsX4_resolveTop (wsV RX4 193 RX0 yX0_remove wsX0_remove) := goodIn_app (goodIn_of _ (by decide +kernel)) ggX4_resolveTop_X0_remove
set_option maxRecDepth 20000 in
theorem ggX4_resolveTop_X4_triggerEffect : GoodIn wsX4_resolveTop wsX4_triggerEffect := goodIn_r _ [25, 26, 27, 28, 29, 24, 30, 31, 32, 33, 34, 35, 36, 37, 38, 39, 40, 41, 42, 43, 44, 45, 46, 47, 48, 49, 50, 51, 52, 53, 54, 55, 56, 57, 58, 59, 60, 61, 62, 63, 64, 65, 66, 191, 192, 193, 194, 195, 196, 197, 198, 199, 200, 201, 208, 209, 210, 211, 212] (by decide +kernel) (by decide +kernel)
set_option maxRecDepth 20000 in
theorem gX4_resolveTop_X4_triggerEffect : GoodIn wsX4_resolveTop (wsV RX4 196 RX4 yX4_triggerEffect wsX4_triggerEffect) := goodIn_app (goodIn_of _ (by decide +kernel)) ggX4_resolveTop_X4_triggerEffect
set_option maxRecDepth 20000 in
theorem ggX4_resolveTop_X4_cardEffect : GoodIn wsX4_resolveTop wsX4_cardEffect := goodIn_r _ [70, 26, 1, 71, 72, 24, 73, 32, 33, 34, 35, 36, 37, 38, 39, 40, 41, 42, 43, 44, 45, 46, 47, 48, 49, 50, 74, 75, 76, 77, 78, 79, 80, 81, 82, 83, 84, 64, 65, 66, 85, 86, 87, 88, 89, 90, 91, 92, 93, 94, 95, 96, 97, 98, 99, 100, 101, 102, 103, 104, 105, 106, 107, 108, 109, 110, 111, 112, 113, 114, 55, 56, 57, 58, 59, 60, 61, 62, 63, 115, 116, 117, 13, 118, 15, 20, 119, 120, 121, 122, 123, 124, 125, 126, 10, 11, 12, 14, 16, 17, 18, 19, 191, 192, 193, 194, 195, 196, 197, 198, 199, 200, 201, 208, 209, 210, 211, 212, 213, 214, 215, 216, 217, 202, 203, 204, 205, 206, 207] (by decide +kernel) (by decide +kernel)
set_option maxRecDepth 20000 in
theorem gX4_resolveTop_X4_cardEffect : GoodIn wsX4_resolveTop (wsV RX4 199 RX4 yX4_cardEffect wsX4_cardEffect) := goodIn_app (goodIn_of _ (by decide +kernel)) ggX4_resolveTop_X4_cardEffect
set_option maxRecDepth 20000 in
theorem ggX4_resolveTop_X4_raiseTriggers : GoodIn wsX4_resolveTop wsX4_raiseTriggers := goodIn_r _ [130, 82, 26, 131, 8, 132, 133, 1, 85, 86, 87, 88, 89, 90, 91, 92, 93, 94, 95, 96, 97, 98, 99, 100, 101, 102, 24, 103, 104, 105, 106, 107, 108, 109, 110, 111, 112, 113, 114, 134, 135, 136, 137, 36, 37, 38, 39, 40, 138, 139, 140, 13, 141, 15, 16, 17, 18, 19, 20, 142, 143, 144, 191, 192, 193, 194, 195, 196, 197, 198, 199, 200, 201, 208, 209, 210, 211, 212, 213, 214, 215, 216, 217, 202, 203, 204, 205, 206, 207] (by decide +kernel) (by decide +kernel)
set_option maxRecDepth 20000 in
theorem gX4_resolveTop_X4_raiseTriggers : GoodIn wsX4_resolveTop (wsV RX4 189 RX4 yX4_raiseTriggers wsX4_raiseTriggers) := goodIn_app (goodIn_of _ (by decide +kernel)) ggX4_resolveTop_X4_raiseTriggers
set_option maxRecDepth 20000 in
theorem ggX4_resolveTop_X4_breakLoop : GoodIn wsX4_resolveTop wsX4_breakLoop := goodIn_r _ [148, 149, 26, 131, 1, 2, 132, 150, 151, 3, 4, 5, 152, 153, 154, 155, 156, 157, 158, 159, 74, 75, 76, 44, 77, 46, 50, 160, 161, 162, 163, 164, 165, 166, 24, 167, 6, 115, 116, 117, 13, 118, 15, 20, 168, 169, 170, 171, 172, 173, 174, 175, 176, 177, 178, 179, 180, 181, 182, 183, 184, 185, 186, 187, 188, 189, 190, 191, 192, 193, 194, 195, 196, 197, 198, 199, 200, 201, 208, 209, 210, 211, 212, 202, 203, 204, 205, 206, 207, 218, 219, 220, 221, 222] (by decide +kernel) (by decide +kernel)
set_option maxRecDepth 20000 in
theorem gX4_resolveTop_X4_breakLoop : GoodIn wsX4_resolveTop (wsV RX4 203 RX4 yX4_breakLoop wsX4_breakLoop) := goodIn_app (goodIn_of _ (by decide +kernel)) ggX4_resolveTop_X4_breakLoop
theorem dX4_resolveTop_0 : decode cX4_resolveTop 0 = .ok (.aload_n 0, 1) := by decide +kernel
theorem dX4_resolveTop_1 : decode cX4_resolveTop 1 = .ok (.getfield 23, 3) := by decide +kernel
theorem dX4_resolveTop_4 : decode cX4_resolveTop 4 = .ok (.getfield 89, 3) := by decide +kernel
theorem dX4_resolveTop_7 : decode cX4_resolveTop 7 = .ok (.iconst 1, 1) := by decide +kernel
theorem dX4_resolveTop_8 : decode cX4_resolveTop 8 = .ok (.isub, 1) := by decide +kernel
theorem dX4_resolveTop_9 : decode cX4_resolveTop 9 = .ok (.istore_n 1, 1) := by decide +kernel
theorem dX4_resolveTop_10 : decode cX4_resolveTop 10 = .ok (.iload_n 1, 1) := by decide +kernel
theorem dX4_resolveTop_11 : decode cX4_resolveTop 11 = .ok (.ifCond .ge 4, 3) := by decide +kernel
theorem dX4_resolveTop_14 : decode cX4_resolveTop 14 = .ok (.return_, 1) := by decide +kernel
theorem dX4_resolveTop_15 : decode cX4_resolveTop 15 = .ok (.aload_n 0, 1) := by decide +kernel
theorem dX4_resolveTop_16 : decode cX4_resolveTop 16 = .ok (.getfield 23, 3) := by decide +kernel
theorem dX4_resolveTop_19 : decode cX4_resolveTop 19 = .ok (.getfield 143, 3) := by decide +kernel
theorem dX4_resolveTop_22 : decode cX4_resolveTop 22 = .ok (.iload_n 1, 1) := by decide +kernel
theorem dX4_resolveTop_23 : decode cX4_resolveTop 23 = .ok (.iaload, 1) := by decide +kernel
theorem dX4_resolveTop_24 : decode cX4_resolveTop 24 = .ok (.istore_n 2, 1) := by decide +kernel
theorem dX4_resolveTop_25 : decode cX4_resolveTop 25 = .ok (.aload_n 0, 1) := by decide +kernel
theorem dX4_resolveTop_26 : decode cX4_resolveTop 26 = .ok (.getfield 23, 3) := by decide +kernel
theorem dX4_resolveTop_29 : decode cX4_resolveTop 29 = .ok (.getfield 147, 3) := by decide +kernel
theorem dX4_resolveTop_32 : decode cX4_resolveTop 32 = .ok (.iload_n 1, 1) := by decide +kernel
theorem dX4_resolveTop_33 : decode cX4_resolveTop 33 = .ok (.baload, 1) := by decide +kernel
theorem dX4_resolveTop_34 : decode cX4_resolveTop 34 = .ok (.istore_n 3, 1) := by decide +kernel
theorem dX4_resolveTop_35 : decode cX4_resolveTop 35 = .ok (.aload_n 0, 1) := by decide +kernel
theorem dX4_resolveTop_36 : decode cX4_resolveTop 36 = .ok (.getfield 23, 3) := by decide +kernel
theorem dX4_resolveTop_39 : decode cX4_resolveTop 39 = .ok (.getfield 151, 3) := by decide +kernel
theorem dX4_resolveTop_42 : decode cX4_resolveTop 42 = .ok (.iload_n 1, 1) := by decide +kernel
theorem dX4_resolveTop_43 : decode cX4_resolveTop 43 = .ok (.iaload, 1) := by decide +kernel
theorem dX4_resolveTop_44 : decode cX4_resolveTop 44 = .ok (.istore 4, 2) := by decide +kernel
theorem dX4_resolveTop_46 : decode cX4_resolveTop 46 = .ok (.aload_n 0, 1) := by decide +kernel
theorem dX4_resolveTop_47 : decode cX4_resolveTop 47 = .ok (.getfield 23, 3) := by decide +kernel
theorem dX4_resolveTop_50 : decode cX4_resolveTop 50 = .ok (.getfield 182, 3) := by decide +kernel
theorem dX4_resolveTop_53 : decode cX4_resolveTop 53 = .ok (.iload_n 1, 1) := by decide +kernel
theorem dX4_resolveTop_54 : decode cX4_resolveTop 54 = .ok (.iaload, 1) := by decide +kernel
theorem dX4_resolveTop_55 : decode cX4_resolveTop 55 = .ok (.istore 5, 2) := by decide +kernel
theorem dX4_resolveTop_57 : decode cX4_resolveTop 57 = .ok (.aload_n 0, 1) := by decide +kernel
theorem dX4_resolveTop_58 : decode cX4_resolveTop 58 = .ok (.getfield 23, 3) := by decide +kernel
theorem dX4_resolveTop_61 : decode cX4_resolveTop 61 = .ok (.iload_n 1, 1) := by decide +kernel
theorem dX4_resolveTop_62 : decode cX4_resolveTop 62 = .ok (.invokevirtual 193, 3) := by decide +kernel
theorem dX4_resolveTop_65 : decode cX4_resolveTop 65 = .ok (.aload_n 0, 1) := by decide +kernel
theorem dX4_resolveTop_66 : decode cX4_resolveTop 66 = .ok (.iload_n 3, 1) := by decide +kernel
theorem dX4_resolveTop_67 : decode cX4_resolveTop 67 = .ok (.ifCond .eq 13, 3) := by decide +kernel
theorem dX4_resolveTop_70 : decode cX4_resolveTop 70 = .ok (.aload_n 0, 1) := by decide +kernel
theorem dX4_resolveTop_71 : decode cX4_resolveTop 71 = .ok (.iload_n 2, 1) := by decide +kernel
theorem dX4_resolveTop_72 : decode cX4_resolveTop 72 = .ok (.iload 4, 2) := by decide +kernel
theorem dX4_resolveTop_74 : decode cX4_resolveTop 74 = .ok (.invokevirtual 196, 3) := by decide +kernel
theorem dX4_resolveTop_77 : decode cX4_resolveTop 77 = .ok (.goto 12, 3) := by decide +kernel
theorem dX4_resolveTop_80 : decode cX4_resolveTop 80 = .ok (.aload_n 0, 1) := by decide +kernel
theorem dX4_resolveTop_81 : decode cX4_resolveTop 81 = .ok (.iload_n 2, 1) := by decide +kernel
theorem dX4_resolveTop_82 : decode cX4_resolveTop 82 = .ok (.iload 4, 2) := by decide +kernel
theorem dX4_resolveTop_84 : decode cX4_resolveTop 84 = .ok (.iload 5, 2) := by decide +kernel
theorem dX4_resolveTop_86 : decode cX4_resolveTop 86 = .ok (.invokevirtual 199, 3) := by decide +kernel
theorem dX4_resolveTop_89 : decode cX4_resolveTop 89 = .ok (.invokevirtual 189, 3) := by decide +kernel
theorem dX4_resolveTop_92 : decode cX4_resolveTop 92 = .ok (.aload_n 0, 1) := by decide +kernel
theorem dX4_resolveTop_93 : decode cX4_resolveTop 93 = .ok (.invokevirtual 203, 3) := by decide +kernel
theorem dX4_resolveTop_96 : decode cX4_resolveTop 96 = .ok (.aload_n 0, 1) := by decide +kernel
theorem dX4_resolveTop_97 : decode cX4_resolveTop 97 = .ok (.iconst 0, 1) := by decide +kernel
theorem dX4_resolveTop_98 : decode cX4_resolveTop 98 = .ok (.putfield 83, 3) := by decide +kernel
theorem dX4_resolveTop_101 : decode cX4_resolveTop 101 = .ok (.aload_n 0, 1) := by decide +kernel
theorem dX4_resolveTop_102 : decode cX4_resolveTop 102 = .ok (.aload_n 0, 1) := by decide +kernel
theorem dX4_resolveTop_103 : decode cX4_resolveTop 103 = .ok (.getfield 103, 3) := by decide +kernel
theorem dX4_resolveTop_106 : decode cX4_resolveTop 106 = .ok (.putfield 57, 3) := by decide +kernel
theorem dX4_resolveTop_109 : decode cX4_resolveTop 109 = .ok (.return_, 1) := by decide +kernel
set_option maxRecDepth 20000 in
theorem ggX4_cardEffect_X4_isThing : GoodIn wsX4_cardEffect wsX4_isThing := goodIn_r _ [6] (by decide +kernel) (by decide +kernel)
set_option maxRecDepth 20000 in
theorem gX4_cardEffect_X4_isThing : GoodIn wsX4_cardEffect (va_wsS RX4 168 yX4_isThing wsX4_isThing) := goodIn_app (goodIn_of _ (by decide +kernel)) ggX4_cardEffect_X4_isThing
set_option maxRecDepth 20000 in
theorem ggX4_cardEffect_X4_enter : GoodIn wsX4_cardEffect wsX4_enter := goodIn_r _ [10, 1, 11, 12, 13, 5, 14, 15, 16, 17, 18, 19, 20, 21, 22, 23, 24, 25, 102, 103, 104, 105, 106, 107, 108, 109, 110, 111, 112, 113, 114, 115, 116, 117] (by decide +kernel) (by decide +kernel)
set_option maxRecDepth 20000 in
theorem gX4_cardEffect_X4_enter : GoodIn wsX4_cardEffect (wsV RX4 206 RX4 yX4_enter wsX4_enter) := goodIn_app (goodIn_of _ (by decide +kernel)) ggX4_cardEffect_X4_enter
set_option maxRecDepth 20000 in
theorem ggX4_cardEffect_X2_placeOf : GoodIn wsX4_cardEffect wsX2_placeOf := goodIn_r _ [29, 21, 25, 113, 114, 115, 116, 117] (by decide +kernel) (by decide +kernel)
set_option maxRecDepth 20000 in
theorem gX4_cardEffect_X2_placeOf : GoodIn wsX4_cardEffect (wsV RX4 188 RX2 yX2_placeOf wsX2_placeOf) := goodIn_app (goodIn_of _ (by decide +kernel)) ggX4_cardEffect_X2_placeOf
set_option maxRecDepth 20000 in
theorem ggX4_cardEffect_X4_strike : GoodIn wsX4_cardEffect wsX4_strike := goodIn_r _ [33, 1, 34, 35, 36, 37, 38, 19, 39, 21, 40, 41, 42, 43, 44, 45, 46, 47, 48, 49, 50, 51, 52, 53, 54, 55, 56, 57, 5, 58, 59, 60, 61, 62, 63, 64, 65, 66, 67, 68, 69, 70, 71, 72, 73, 74, 75, 76, 77, 22, 23, 24, 25, 78, 102, 103, 104, 105, 106, 107, 108, 109, 110, 111, 112, 118, 119, 120, 121, 122, 113, 114, 115, 116, 117] (by decide +kernel) (by decide +kernel)
set_option maxRecDepth 20000 in
theorem gX4_cardEffect_X4_strike : GoodIn wsX4_cardEffect (wsV RX4 209 RX4 yX4_strike wsX4_strike) := goodIn_app (goodIn_of _ (by decide +kernel)) ggX4_cardEffect_X4_strike
set_option maxRecDepth 20000 in
theorem ggX4_cardEffect_X0_placeOf : GoodIn wsX4_cardEffect wsX0_placeOf := goodIn_r _ [83, 84, 85, 123, 124, 125, 126, 127, 128] (by decide +kernel) (by decide +kernel)
set_option maxRecDepth 20000 in
theorem gX4_cardEffect_X0_placeOf : GoodIn wsX4_cardEffect (wsV RX4 185 RX0 yX0_placeOf wsX0_placeOf) := goodIn_app (goodIn_of _ (by decide +kernel)) ggX4_cardEffect_X0_placeOf
set_option maxRecDepth 20000 in
theorem ggX4_cardEffect_X0_indexOf : GoodIn wsX4_cardEffect wsX0_indexOf := goodIn_r _ [89, 84, 90, 91, 92, 82, 93, 123, 124, 125, 126, 127, 128] (by decide +kernel) (by decide +kernel)
set_option maxRecDepth 20000 in
theorem gX4_cardEffect_X0_indexOf : GoodIn wsX4_cardEffect (wsV RX4 144 RX0 yX0_indexOf wsX0_indexOf) := goodIn_app (goodIn_of _ (by decide +kernel)) ggX4_cardEffect_X0_indexOf
set_option maxRecDepth 20000 in
theorem ggX4_cardEffect_X0_remove : GoodIn wsX4_cardEffect wsX0_remove := goodIn_r _ [97, 84, 98, 99, 100, 101, 85, 123, 124, 125, 126, 127, 128] (by decide +kernel) (by decide +kernel)
set_option maxRecDepth 20000 in
theorem gX4_cardEffect_X0_remove : GoodIn wsX4_cardEffect (wsV RX4 193 RX0 yX0_remove wsX0_remove) := goodIn_app (goodIn_of _ (by decide +kernel)) ggX4_cardEffect_X0_remove
theorem dX4_cardEffect_0 : decode cX4_cardEffect 0 = .ok (.iload_n 1, 1) := by decide +kernel
theorem dX4_cardEffect_1 : decode cX4_cardEffect 1 = .ok (.invokestatic 168, 3) := by decide +kernel
theorem dX4_cardEffect_4 : decode cX4_cardEffect 4 = .ok (.ifCond .eq 11, 3) := by decide +kernel
theorem dX4_cardEffect_7 : decode cX4_cardEffect 7 = .ok (.aload_n 0, 1) := by decide +kernel
theorem dX4_cardEffect_8 : decode cX4_cardEffect 8 = .ok (.iload_n 1, 1) := by decide +kernel
theorem dX4_cardEffect_9 : decode cX4_cardEffect 9 = .ok (.iload_n 2, 1) := by decide +kernel
theorem dX4_cardEffect_10 : decode cX4_cardEffect 10 = .ok (.iload_n 3, 1) := by decide +kernel
theorem dX4_cardEffect_11 : decode cX4_cardEffect 11 = .ok (.invokevirtual 206, 3) := by decide +kernel
theorem dX4_cardEffect_14 : decode cX4_cardEffect 14 = .ok (.ireturn, 1) := by decide +kernel
theorem dX4_cardEffect_15 : decode cX4_cardEffect 15 = .ok (.iload_n 1, 1) := by decide +kernel
theorem dX4_cardEffect_16 : decode cX4_cardEffect 16 = .ok (.bipush 12, 2) := by decide +kernel
theorem dX4_cardEffect_18 : decode cX4_cardEffect 18 = .ok (.if_icmp .ne 16, 3) := by decide +kernel
theorem dX4_cardEffect_21 : decode cX4_cardEffect 21 = .ok (.aload_n 0, 1) := by decide +kernel
theorem dX4_cardEffect_22 : decode cX4_cardEffect 22 = .ok (.aload_n 0, 1) := by decide +kernel
theorem dX4_cardEffect_23 : decode cX4_cardEffect 23 = .ok (.getfield 16, 3) := by decide +kernel
theorem dX4_cardEffect_26 : decode cX4_cardEffect 26 = .ok (.iload_n 3, 1) := by decide +kernel
theorem dX4_cardEffect_27 : decode cX4_cardEffect 27 = .ok (.invokevirtual 188, 3) := by decide +kernel
theorem dX4_cardEffect_30 : decode cX4_cardEffect 30 = .ok (.invokevirtual 209, 3) := by decide +kernel
theorem dX4_cardEffect_33 : decode cX4_cardEffect 33 = .ok (.ireturn, 1) := by decide +kernel
theorem dX4_cardEffect_34 : decode cX4_cardEffect 34 = .ok (.aload_n 0, 1) := by decide +kernel
theorem dX4_cardEffect_35 : decode cX4_cardEffect 35 = .ok (.getfield 23, 3) := by decide +kernel
theorem dX4_cardEffect_38 : decode cX4_cardEffect 38 = .ok (.aload_n 0, 1) := by decide +kernel
theorem dX4_cardEffect_39 : decode cX4_cardEffect 39 = .ok (.getfield 23, 3) := by decide +kernel
theorem dX4_cardEffect_42 : decode cX4_cardEffect 42 = .ok (.aload_n 0, 1) := by decide +kernel
theorem dX4_cardEffect_43 : decode cX4_cardEffect 43 = .ok (.getfield 23, 3) := by decide +kernel
theorem dX4_cardEffect_46 : decode cX4_cardEffect 46 = .ok (.iload_n 3, 1) := by decide +kernel
theorem dX4_cardEffect_47 : decode cX4_cardEffect 47 = .ok (.invokevirtual 185, 3) := by decide +kernel
theorem dX4_cardEffect_50 : decode cX4_cardEffect 50 = .ok (.invokevirtual 144, 3) := by decide +kernel
theorem dX4_cardEffect_53 : decode cX4_cardEffect 53 = .ok (.invokevirtual 193, 3) := by decide +kernel
theorem dX4_cardEffect_56 : decode cX4_cardEffect 56 = .ok (.iconst 0, 1) := by decide +kernel
theorem dX4_cardEffect_57 : decode cX4_cardEffect 57 = .ok (.ireturn, 1) := by decide +kernel
set_option maxRecDepth 20000 in
theorem ggX4_triggerEffect_X4_pay : GoodIn wsX4_triggerEffect wsX4_pay := goodIn_r _ [6, 7, 43, 44, 45, 46, 47, 48, 49, 50, 51, 52, 53] (by decide +kernel) (by decide +kernel)
set_option maxRecDepth 20000 in
theorem gX4_triggerEffect_X4_pay : GoodIn wsX4_triggerEffect (wsV RX4 65 RX4 yX4_pay wsX4_pay) := goodIn_app (goodIn_of _ (by decide +kernel)) ggX4_triggerEffect_X4_pay
set_option maxRecDepth 20000 in
theorem ggX4_triggerEffect_X4_enter : GoodIn wsX4_triggerEffect wsX4_enter := goodIn_r _ [11, 1, 12, 13, 14, 5, 15, 16, 17, 18, 19, 20, 21, 22, 23, 24, 25, 26, 43, 44, 45, 46, 47, 48, 49, 50, 51, 52, 53, 54, 55, 56, 57, 58] (by decide +kernel) (by decide +kernel)
set_option maxRecDepth 20000 in
theorem gX4_triggerEffect_X4_enter : GoodIn wsX4_triggerEffect (wsV RX4 206 RX4 yX4_enter wsX4_enter) := goodIn_app (goodIn_of _ (by decide +kernel)) ggX4_triggerEffect_X4_enter
set_option maxRecDepth 20000 in
theorem ggX4_triggerEffect_X2_firstOf : GoodIn wsX4_triggerEffect wsX2_firstOf := goodIn_r _ [30, 22, 23, 54, 55, 56, 57, 58] (by decide +kernel) (by decide +kernel)
set_option maxRecDepth 20000 in
theorem gX4_triggerEffect_X2_firstOf : GoodIn wsX4_triggerEffect (wsV RX4 212 RX2 yX2_firstOf wsX2_firstOf) := goodIn_app (goodIn_of _ (by decide +kernel)) ggX4_triggerEffect_X2_firstOf
set_option maxRecDepth 20000 in
theorem ggX4_triggerEffect_X4_leave : GoodIn wsX4_triggerEffect wsX4_leave := goodIn_r _ [34, 1, 35, 36, 37, 20, 38, 22, 23, 24, 25, 26, 39, 40, 41, 42, 43, 44, 45, 46, 47, 48, 49, 50, 51, 52, 53, 54, 55, 56, 57, 58] (by decide +kernel) (by decide +kernel)
set_option maxRecDepth 20000 in
theorem gX4_triggerEffect_X4_leave : GoodIn wsX4_triggerEffect (wsV RX4 215 RX4 yX4_leave wsX4_leave) := goodIn_app (goodIn_of _ (by decide +kernel)) ggX4_triggerEffect_X4_leave
theorem dX4_triggerEffect_0 : decode cX4_triggerEffect 0 = .ok (.iload_n 1, 1) := by decide +kernel
theorem dX4_triggerEffect_1 : decode cX4_triggerEffect 1 = .ok (.lookupswitch 80 #[(1, 43), (9, 51), (10, 59), (11, 67)], 43) := by decide +kernel
theorem dX4_triggerEffect_44 : decode cX4_triggerEffect 44 = .ok (.aload_n 0, 1) := by decide +kernel
theorem dX4_triggerEffect_45 : decode cX4_triggerEffect 45 = .ok (.iload_n 2, 1) := by decide +kernel
theorem dX4_triggerEffect_46 : decode cX4_triggerEffect 46 = .ok (.iconst 2, 1) := by decide +kernel
theorem dX4_triggerEffect_47 : decode cX4_triggerEffect 47 = .ok (.invokevirtual 65, 3) := by decide +kernel
theorem dX4_triggerEffect_50 : decode cX4_triggerEffect 50 = .ok (.iconst 0, 1) := by decide +kernel
theorem dX4_triggerEffect_51 : decode cX4_triggerEffect 51 = .ok (.ireturn, 1) := by decide +kernel
theorem dX4_triggerEffect_52 : decode cX4_triggerEffect 52 = .ok (.aload_n 0, 1) := by decide +kernel
theorem dX4_triggerEffect_53 : decode cX4_triggerEffect 53 = .ok (.iload_n 2, 1) := by decide +kernel
theorem dX4_triggerEffect_54 : decode cX4_triggerEffect 54 = .ok (.iconst 1, 1) := by decide +kernel
theorem dX4_triggerEffect_55 : decode cX4_triggerEffect 55 = .ok (.invokevirtual 65, 3) := by decide +kernel
theorem dX4_triggerEffect_58 : decode cX4_triggerEffect 58 = .ok (.iconst 0, 1) := by decide +kernel
theorem dX4_triggerEffect_59 : decode cX4_triggerEffect 59 = .ok (.ireturn, 1) := by decide +kernel
theorem dX4_triggerEffect_60 : decode cX4_triggerEffect 60 = .ok (.aload_n 0, 1) := by decide +kernel
theorem dX4_triggerEffect_61 : decode cX4_triggerEffect 61 = .ok (.iconst 0, 1) := by decide +kernel
theorem dX4_triggerEffect_62 : decode cX4_triggerEffect 62 = .ok (.iload_n 2, 1) := by decide +kernel
theorem dX4_triggerEffect_63 : decode cX4_triggerEffect 63 = .ok (.iconst (-1), 1) := by decide +kernel
theorem dX4_triggerEffect_64 : decode cX4_triggerEffect 64 = .ok (.invokevirtual 206, 3) := by decide +kernel
theorem dX4_triggerEffect_67 : decode cX4_triggerEffect 67 = .ok (.ireturn, 1) := by decide +kernel
theorem dX4_triggerEffect_68 : decode cX4_triggerEffect 68 = .ok (.aload_n 0, 1) := by decide +kernel
theorem dX4_triggerEffect_69 : decode cX4_triggerEffect 69 = .ok (.aload_n 0, 1) := by decide +kernel
theorem dX4_triggerEffect_70 : decode cX4_triggerEffect 70 = .ok (.getfield 16, 3) := by decide +kernel
theorem dX4_triggerEffect_73 : decode cX4_triggerEffect 73 = .ok (.iconst 0, 1) := by decide +kernel
theorem dX4_triggerEffect_74 : decode cX4_triggerEffect 74 = .ok (.invokevirtual 212, 3) := by decide +kernel
theorem dX4_triggerEffect_77 : decode cX4_triggerEffect 77 = .ok (.invokevirtual 215, 3) := by decide +kernel
theorem dX4_triggerEffect_80 : decode cX4_triggerEffect 80 = .ok (.ireturn, 1) := by decide +kernel
theorem dX4_triggerEffect_81 : decode cX4_triggerEffect 81 = .ok (.iconst 0, 1) := by decide +kernel
theorem dX4_triggerEffect_82 : decode cX4_triggerEffect 82 = .ok (.ireturn, 1) := by decide +kernel
set_option maxRecDepth 20000 in
theorem ggX4_strike_X2_has : GoodIn wsX4_strike wsX2_has := goodIn_r _ [8, 9, 70, 71, 72, 73, 74] (by decide +kernel) (by decide +kernel)
set_option maxRecDepth 20000 in
theorem gX4_strike_X2_has : GoodIn wsX4_strike (wsV RX4 115 RX2 yX2_has wsX2_has) := goodIn_app (goodIn_of _ (by decide +kernel)) ggX4_strike_X2_has
set_option maxRecDepth 20000 in
theorem ggX4_strike_X3_find : GoodIn wsX4_strike wsX3_find := goodIn_r _ [14, 15, 16, 17, 18, 19, 20, 21, 22, 23, 13, 24, 25, 26, 27, 28, 29, 30, 31, 32, 33, 34, 35, 36, 37, 38, 39, 40, 70, 71, 72, 73, 74, 65, 66, 67, 68, 69] (by decide +kernel) (by decide +kernel)
set_option maxRecDepth 20000 in
theorem gX4_strike_X3_find : GoodIn wsX4_strike (wsV RX4 127 RX3 yX3_find wsX3_find) := goodIn_app (goodIn_of _ (by decide +kernel)) ggX4_strike_X3_find
set_option maxRecDepth 20000 in
theorem ggX4_strike_X4_leave : GoodIn wsX4_strike wsX4_leave := goodIn_r _ [44, 1, 45, 46, 47, 7, 48, 9, 49, 50, 51, 52, 53, 5, 6, 8, 54, 55, 56, 57, 58, 59, 60, 61, 62, 63, 64, 70, 71, 72, 73, 74] (by decide +kernel) (by decide +kernel)
set_option maxRecDepth 20000 in
theorem gX4_strike_X4_leave : GoodIn wsX4_strike (wsV RX4 215 RX4 yX4_leave wsX4_leave) := goodIn_app (goodIn_of _ (by decide +kernel)) ggX4_strike_X4_leave
theorem dX4_strike_0 : decode cX4_strike 0 = .ok (.aload_n 0, 1) := by decide +kernel
theorem dX4_strike_1 : decode cX4_strike 1 = .ok (.getfield 16, 3) := by decide +kernel
theorem dX4_strike_4 : decode cX4_strike 4 = .ok (.iload_n 1, 1) := by decide +kernel
theorem dX4_strike_5 : decode cX4_strike 5 = .ok (.invokevirtual 115, 3) := by decide +kernel
theorem dX4_strike_8 : decode cX4_strike 8 = .ok (.ifCond .ne 5, 3) := by decide +kernel
theorem dX4_strike_11 : decode cX4_strike 11 = .ok (.iconst 0, 1) := by decide +kernel
theorem dX4_strike_12 : decode cX4_strike 12 = .ok (.ireturn, 1) := by decide +kernel
theorem dX4_strike_13 : decode cX4_strike 13 = .ok (.aload_n 0, 1) := by decide +kernel
theorem dX4_strike_14 : decode cX4_strike 14 = .ok (.getfield 30, 3) := by decide +kernel
theorem dX4_strike_17 : decode cX4_strike 17 = .ok (.aload_n 0, 1) := by decide +kernel
theorem dX4_strike_18 : decode cX4_strike 18 = .ok (.getfield 16, 3) := by decide +kernel
theorem dX4_strike_21 : decode cX4_strike 21 = .ok (.iconst 5, 1) := by decide +kernel
theorem dX4_strike_22 : decode cX4_strike 22 = .ok (.invokevirtual 127, 3) := by decide +kernel
theorem dX4_strike_25 : decode cX4_strike 25 = .ok (.aload_n 0, 1) := by decide +kernel
theorem dX4_strike_26 : decode cX4_strike 26 = .ok (.getfield 30, 3) := by decide +kernel
theorem dX4_strike_29 : decode cX4_strike 29 = .ok (.getfield 137, 3) := by decide +kernel
theorem dX4_strike_32 : decode cX4_strike 32 = .ok (.iload_n 1, 1) := by decide +kernel
theorem dX4_strike_33 : decode cX4_strike 33 = .ok (.iaload, 1) := by decide +kernel
theorem dX4_strike_34 : decode cX4_strike 34 = .ok (.iconst 4, 1) := by decide +kernel
theorem dX4_strike_35 : decode cX4_strike 35 = .ok (.if_icmp .gt 11, 3) := by decide +kernel
theorem dX4_strike_38 : decode cX4_strike 38 = .ok (.aload_n 0, 1) := by decide +kernel
theorem dX4_strike_39 : decode cX4_strike 39 = .ok (.iload_n 1, 1) := by decide +kernel
theorem dX4_strike_40 : decode cX4_strike 40 = .ok (.invokevirtual 215, 3) := by decide +kernel
theorem dX4_strike_43 : decode cX4_strike 43 = .ok (.goto 4, 3) := by decide +kernel
theorem dX4_strike_46 : decode cX4_strike 46 = .ok (.iconst 0, 1) := by decide +kernel
theorem dX4_strike_47 : decode cX4_strike 47 = .ok (.ireturn, 1) := by decide +kernel
set_option maxRecDepth 20000 in
theorem ggX4_enter_X4_newId : GoodIn wsX4_enter wsX4_newId := goodIn_r _ [6, 7, 18, 19, 20, 21, 22, 23, 24, 25, 26, 27, 28] (by decide +kernel) (by decide +kernel)
set_option maxRecDepth 20000 in
theorem gX4_enter_X4_newId : GoodIn wsX4_enter (wsV RX4 72 RX4 yX4_newId wsX4_newId) := goodIn_app (goodIn_of _ (by decide +kernel)) ggX4_enter_X4_newId
set_option maxRecDepth 20000 in
theorem ggX4_enter_X2_add : GoodIn wsX4_enter wsX2_add := goodIn_r _ [12, 13, 14, 15, 16, 17, 29, 30, 31, 32, 33] (by decide +kernel) (by decide +kernel)
set_option maxRecDepth 20000 in
theorem gX4_enter_X2_add : GoodIn wsX4_enter (wsV RX4 218 RX2 yX2_add wsX2_add) := goodIn_app (goodIn_of _ (by decide +kernel)) ggX4_enter_X2_add
theorem dX4_enter_0 : decode cX4_enter 0 = .ok (.aload_n 0, 1) := by decide +kernel
theorem dX4_enter_1 : decode cX4_enter 1 = .ok (.getfield 16, 3) := by decide +kernel
theorem dX4_enter_4 : decode cX4_enter 4 = .ok (.iload_n 1, 1) := by decide +kernel
theorem dX4_enter_5 : decode cX4_enter 5 = .ok (.iload_n 2, 1) := by decide +kernel
theorem dX4_enter_6 : decode cX4_enter 6 = .ok (.iload_n 3, 1) := by decide +kernel
theorem dX4_enter_7 : decode cX4_enter 7 = .ok (.aload_n 0, 1) := by decide +kernel
theorem dX4_enter_8 : decode cX4_enter 8 = .ok (.invokevirtual 72, 3) := by decide +kernel
theorem dX4_enter_11 : decode cX4_enter 11 = .ok (.invokevirtual 218, 3) := by decide +kernel
theorem dX4_enter_14 : decode cX4_enter 14 = .ok (.ifCond .eq 7, 3) := by decide +kernel
theorem dX4_enter_17 : decode cX4_enter 17 = .ok (.iconst 1, 1) := by decide +kernel
theorem dX4_enter_18 : decode cX4_enter 18 = .ok (.goto 4, 3) := by decide +kernel
theorem dX4_enter_21 : decode cX4_enter 21 = .ok (.iconst 0, 1) := by decide +kernel
theorem dX4_enter_22 : decode cX4_enter 22 = .ok (.ireturn, 1) := by decide +kernel
set_option maxRecDepth 20000 in
theorem ggX4_leave_X2_remove : GoodIn wsX4_leave wsX2_remove := goodIn_r _ [6, 7, 8, 9, 10, 11, 12, 13, 14, 5, 15, 27, 28, 29, 30, 31] (by decide +kernel) (by decide +kernel)
set_option maxRecDepth 20000 in
theorem gX4_leave_X2_remove : GoodIn wsX4_leave (wsV RX4 222 RX2 yX2_remove wsX2_remove) := goodIn_app (goodIn_of _ (by decide +kernel)) ggX4_leave_X2_remove
theorem dX4_leave_0 : decode cX4_leave 0 = .ok (.aload_n 0, 1) := by decide +kernel
theorem dX4_leave_1 : decode cX4_leave 1 = .ok (.getfield 16, 3) := by decide +kernel
theorem dX4_leave_4 : decode cX4_leave 4 = .ok (.iload_n 1, 1) := by decide +kernel
theorem dX4_leave_5 : decode cX4_leave 5 = .ok (.invokevirtual 222, 3) := by decide +kernel
theorem dX4_leave_8 : decode cX4_leave 8 = .ok (.ifCond .eq 7, 3) := by decide +kernel
theorem dX4_leave_11 : decode cX4_leave 11 = .ok (.iconst 2, 1) := by decide +kernel
theorem dX4_leave_12 : decode cX4_leave 12 = .ok (.goto 4, 3) := by decide +kernel
theorem dX4_leave_15 : decode cX4_leave 15 = .ok (.iconst 0, 1) := by decide +kernel
theorem dX4_leave_16 : decode cX4_leave 16 = .ok (.ireturn, 1) := by decide +kernel
set_option maxRecDepth 20000 in
theorem ggX4_raiseTriggers_X3_find : GoodIn wsX4_raiseTriggers wsX3_find := goodIn_r _ [12, 13, 14, 15, 16, 17, 18, 19, 20, 21, 11, 22, 23, 24, 25, 26, 27, 28, 29, 30, 31, 32, 33, 34, 35, 36, 37, 38, 73, 74, 75, 76, 77, 78, 79, 80, 81, 82] (by decide +kernel) (by decide +kernel)
set_option maxRecDepth 20000 in
theorem gX4_raiseTriggers_X3_find : GoodIn wsX4_raiseTriggers (wsV RX4 127 RX3 yX3_find wsX3_find) := goodIn_app (goodIn_of _ (by decide +kernel)) ggX4_raiseTriggers_X3_find
set_option maxRecDepth 20000 in
theorem ggX4_raiseTriggers_X4_hasTrigger : GoodIn wsX4_raiseTriggers wsX4_hasTrigger := goodIn_r _ [42, 4, 62, 63, 64, 65, 66, 67, 68, 69, 70, 71, 72] (by decide +kernel) (by decide +kernel)
set_option maxRecDepth 20000 in
theorem gX4_raiseTriggers_X4_hasTrigger : GoodIn wsX4_raiseTriggers (wsV RX4 224 RX4 yX4_hasTrigger wsX4_hasTrigger) := goodIn_app (goodIn_of _ (by decide +kernel)) ggX4_raiseTriggers_X4_hasTrigger
set_option maxRecDepth 20000 in
theorem ggX4_raiseTriggers_X4_newId : GoodIn wsX4_raiseTriggers wsX4_newId := goodIn_r _ [46, 47, 62, 63, 64, 65, 66, 67, 68, 69, 70, 71, 72] (by decide +kernel) (by decide +kernel)
set_option maxRecDepth 20000 in
theorem gX4_raiseTriggers_X4_newId : GoodIn wsX4_raiseTriggers (wsV RX4 72 RX4 yX4_newId wsX4_newId) := goodIn_app (goodIn_of _ (by decide +kernel)) ggX4_raiseTriggers_X4_newId
set_option maxRecDepth 20000 in
theorem ggX4_raiseTriggers_X0_push : GoodIn wsX4_raiseTriggers wsX0_push := goodIn_r _ [52, 53, 54, 55, 56, 57, 58, 83, 84, 85, 86, 87, 88] (by decide +kernel) (by decide +kernel)
set_option maxRecDepth 20000 in
theorem gX4_raiseTriggers_X0_push : GoodIn wsX4_raiseTriggers (wsV RX4 76 RX0 yX0_push wsX0_push) := goodIn_app (goodIn_of _ (by decide +kernel)) ggX4_raiseTriggers_X0_push
set_option maxRecDepth 20000 in
theorem ggX4_raiseTriggers_X4_nextPlayer : GoodIn wsX4_raiseTriggers wsX4_nextPlayer := goodIn_r _ [61] (by decide +kernel) (by decide +kernel)
set_option maxRecDepth 20000 in
theorem gX4_raiseTriggers_X4_nextPlayer : GoodIn wsX4_raiseTriggers (va_wsS RX4 86 yX4_nextPlayer wsX4_nextPlayer) := goodIn_app (goodIn_of _ (by decide +kernel)) ggX4_raiseTriggers_X4_nextPlayer
theorem dX4_raiseTriggers_0 : decode cX4_raiseTriggers 0 = .ok (.iload_n 1, 1) := by decide +kernel
theorem dX4_raiseTriggers_1 : decode cX4_raiseTriggers 1 = .ok (.ifCond .ne 4, 3) := by decide +kernel
theorem dX4_raiseTriggers_4 : decode cX4_raiseTriggers 4 = .ok (.return_, 1) := by decide +kernel
theorem dX4_raiseTriggers_5 : decode cX4_raiseTriggers 5 = .ok (.aload_n 0, 1) := by decide +kernel
theorem dX4_raiseTriggers_6 : decode cX4_raiseTriggers 6 = .ok (.getfield 30, 3) := by decide +kernel
theorem dX4_raiseTriggers_9 : decode cX4_raiseTriggers 9 = .ok (.aload_n 0, 1) := by decide +kernel
theorem dX4_raiseTriggers_10 : decode cX4_raiseTriggers 10 = .ok (.getfield 16, 3) := by decide +kernel
theorem dX4_raiseTriggers_13 : decode cX4_raiseTriggers 13 = .ok (.iconst 5, 1) := by decide +kernel
theorem dX4_raiseTriggers_14 : decode cX4_raiseTriggers 14 = .ok (.invokevirtual 127, 3) := by decide +kernel
theorem dX4_raiseTriggers_17 : decode cX4_raiseTriggers 17 = .ok (.iload_n 1, 1) := by decide +kernel
theorem dX4_raiseTriggers_18 : decode cX4_raiseTriggers 18 = .ok (.iconst 1, 1) := by decide +kernel
theorem dX4_raiseTriggers_19 : decode cX4_raiseTriggers 19 = .ok (.if_icmp .ne 15, 3) := by decide +kernel
theorem dX4_raiseTriggers_22 : decode cX4_raiseTriggers 22 = .ok (.aload_n 0, 1) := by decide +kernel
theorem dX4_raiseTriggers_23 : decode cX4_raiseTriggers 23 = .ok (.getfield 16, 3) := by decide +kernel
theorem dX4_raiseTriggers_26 : decode cX4_raiseTriggers 26 = .ok (.getfield 114, 3) := by decide +kernel
theorem dX4_raiseTriggers_29 : decode cX4_raiseTriggers 29 = .ok (.iconst 1, 1) := by decide +kernel
theorem dX4_raiseTriggers_30 : decode cX4_raiseTriggers 30 = .ok (.isub, 1) := by decide +kernel
theorem dX4_raiseTriggers_31 : decode cX4_raiseTriggers 31 = .ok (.goto 10, 3) := by decide +kernel
theorem dX4_raiseTriggers_34 : decode cX4_raiseTriggers 34 = .ok (.aload_n 0, 1) := by decide +kernel
theorem dX4_raiseTriggers_35 : decode cX4_raiseTriggers 35 = .ok (.getfield 16, 3) := by decide +kernel
theorem dX4_raiseTriggers_38 : decode cX4_raiseTriggers 38 = .ok (.getfield 114, 3) := by decide +kernel
theorem dX4_raiseTriggers_41 : decode cX4_raiseTriggers 41 = .ok (.istore_n 2, 1) := by decide +kernel
theorem dX4_raiseTriggers_42 : decode cX4_raiseTriggers 42 = .ok (.aload_n 0, 1) := by decide +kernel
theorem dX4_raiseTriggers_43 : decode cX4_raiseTriggers 43 = .ok (.getfield 103, 3) := by decide +kernel
theorem dX4_raiseTriggers_46 : decode cX4_raiseTriggers 46 = .ok (.istore_n 3, 1) := by decide +kernel
theorem dX4_raiseTriggers_47 : decode cX4_raiseTriggers 47 = .ok (.iconst 0, 1) := by decide +kernel
theorem dX4_raiseTriggers_48 : decode cX4_raiseTriggers 48 = .ok (.istore 4, 2) := by decide +kernel
theorem dX4_raiseTriggers_50 : decode cX4_raiseTriggers 50 = .ok (.iload 4, 2) := by decide +kernel
theorem dX4_raiseTriggers_52 : decode cX4_raiseTriggers 52 = .ok (.iconst 3, 1) := by decide +kernel
theorem dX4_raiseTriggers_53 : decode cX4_raiseTriggers 53 = .ok (.if_icmp .ge 82, 3) := by decide +kernel
theorem dX4_raiseTriggers_56 : decode cX4_raiseTriggers 56 = .ok (.iconst 0, 1) := by decide +kernel
theorem dX4_raiseTriggers_57 : decode cX4_raiseTriggers 57 = .ok (.istore 5, 2) := by decide +kernel
theorem dX4_raiseTriggers_59 : decode cX4_raiseTriggers 59 = .ok (.iload 5, 2) := by decide +kernel
theorem dX4_raiseTriggers_61 : decode cX4_raiseTriggers 61 = .ok (.iload_n 2, 1) := by decide +kernel
theorem dX4_raiseTriggers_62 : decode cX4_raiseTriggers 62 = .ok (.if_icmp .ge 62, 3) := by decide +kernel
theorem dX4_raiseTriggers_65 : decode cX4_raiseTriggers 65 = .ok (.aload_n 0, 1) := by decide +kernel
theorem dX4_raiseTriggers_66 : decode cX4_raiseTriggers 66 = .ok (.getfield 16, 3) := by decide +kernel
theorem dX4_raiseTriggers_69 : decode cX4_raiseTriggers 69 = .ok (.getfield 121, 3) := by decide +kernel
theorem dX4_raiseTriggers_72 : decode cX4_raiseTriggers 72 = .ok (.iload 5, 2) := by decide +kernel
theorem dX4_raiseTriggers_74 : decode cX4_raiseTriggers 74 = .ok (.iaload, 1) := by decide +kernel
theorem dX4_raiseTriggers_75 : decode cX4_raiseTriggers 75 = .ok (.istore 6, 2) := by decide +kernel
theorem dX4_raiseTriggers_77 : decode cX4_raiseTriggers 77 = .ok (.aload_n 0, 1) := by decide +kernel
theorem dX4_raiseTriggers_78 : decode cX4_raiseTriggers 78 = .ok (.getfield 30, 3) := by decide +kernel
theorem dX4_raiseTriggers_81 : decode cX4_raiseTriggers 81 = .ok (.getfield 131, 3) := by decide +kernel
theorem dX4_raiseTriggers_84 : decode cX4_raiseTriggers 84 = .ok (.iload 5, 2) := by decide +kernel
theorem dX4_raiseTriggers_86 : decode cX4_raiseTriggers 86 = .ok (.iaload, 1) := by decide +kernel
theorem dX4_raiseTriggers_87 : decode cX4_raiseTriggers 87 = .ok (.iload_n 3, 1) := by decide +kernel
theorem dX4_raiseTriggers_88 : decode cX4_raiseTriggers 88 = .ok (.if_icmp .ne 30, 3) := by decide +kernel
theorem dX4_raiseTriggers_91 : decode cX4_raiseTriggers 91 = .ok (.aload_n 0, 1) := by decide +kernel
theorem dX4_raiseTriggers_92 : decode cX4_raiseTriggers 92 = .ok (.iload 6, 2) := by decide +kernel
theorem dX4_raiseTriggers_94 : decode cX4_raiseTriggers 94 = .ok (.iload_n 1, 1) := by decide +kernel
theorem dX4_raiseTriggers_95 : decode cX4_raiseTriggers 95 = .ok (.iload_n 3, 1) := by decide +kernel
theorem dX4_raiseTriggers_96 : decode cX4_raiseTriggers 96 = .ok (.invokevirtual 224, 3) := by decide +kernel
theorem dX4_raiseTriggers_99 : decode cX4_raiseTriggers 99 = .ok (.ifCond .eq 19, 3) := by decide +kernel
theorem dX4_raiseTriggers_102 : decode cX4_raiseTriggers 102 = .ok (.aload_n 0, 1) := by decide +kernel
theorem dX4_raiseTriggers_103 : decode cX4_raiseTriggers 103 = .ok (.getfield 23, 3) := by decide +kernel
theorem dX4_raiseTriggers_106 : decode cX4_raiseTriggers 106 = .ok (.iload 6, 2) := by decide +kernel
theorem dX4_raiseTriggers_108 : decode cX4_raiseTriggers 108 = .ok (.iconst 1, 1) := by decide +kernel
theorem dX4_raiseTriggers_109 : decode cX4_raiseTriggers 109 = .ok (.iload_n 3, 1) := by decide +kernel
theorem dX4_raiseTriggers_110 : decode cX4_raiseTriggers 110 = .ok (.iconst (-1), 1) := by decide +kernel
theorem dX4_raiseTriggers_111 : decode cX4_raiseTriggers 111 = .ok (.aload_n 0, 1) := by decide +kernel
theorem dX4_raiseTriggers_112 : decode cX4_raiseTriggers 112 = .ok (.invokevirtual 72, 3) := by decide +kernel
theorem dX4_raiseTriggers_115 : decode cX4_raiseTriggers 115 = .ok (.invokevirtual 76, 3) := by decide +kernel
theorem dX4_raiseTriggers_118 : decode cX4_raiseTriggers 118 = .ok (.iinc 5 1, 3) := by decide +kernel
theorem dX4_raiseTriggers_121 : decode cX4_raiseTriggers 121 = .ok (.goto (-62), 3) := by decide +kernel
theorem dX4_raiseTriggers_124 : decode cX4_raiseTriggers 124 = .ok (.iload_n 3, 1) := by decide +kernel
theorem dX4_raiseTriggers_125 : decode cX4_raiseTriggers 125 = .ok (.invokestatic 86, 3) := by decide +kernel
theorem dX4_raiseTriggers_128 : decode cX4_raiseTriggers 128 = .ok (.istore_n 3, 1) := by decide +kernel
theorem dX4_raiseTriggers_129 : decode cX4_raiseTriggers 129 = .ok (.iinc 4 1, 3) := by decide +kernel
theorem dX4_raiseTriggers_132 : decode cX4_raiseTriggers 132 = .ok (.goto (-82), 3) := by decide +kernel
theorem dX4_raiseTriggers_135 : decode cX4_raiseTriggers 135 = .ok (.return_, 1) := by decide +kernel
theorem dX4_hasTrigger_0 : decode cX4_hasTrigger 0 = .ok (.iload_n 2, 1) := by decide +kernel
theorem dX4_hasTrigger_1 : decode cX4_hasTrigger 1 = .ok (.tableswitch 76 1 3 #[27, 45, 57], 27) := by decide +kernel
theorem dX4_hasTrigger_28 : decode cX4_hasTrigger 28 = .ok (.iload_n 1, 1) := by decide +kernel
theorem dX4_hasTrigger_29 : decode cX4_hasTrigger 29 = .ok (.bipush 9, 2) := by decide +kernel
theorem dX4_hasTrigger_31 : decode cX4_hasTrigger 31 = .ok (.if_icmp .eq 9, 3) := by decide +kernel
theorem dX4_hasTrigger_34 : decode cX4_hasTrigger 34 = .ok (.iload_n 1, 1) := by decide +kernel
theorem dX4_hasTrigger_35 : decode cX4_hasTrigger 35 = .ok (.bipush 11, 2) := by decide +kernel
theorem dX4_hasTrigger_37 : decode cX4_hasTrigger 37 = .ok (.if_icmp .ne 7, 3) := by decide +kernel
theorem dX4_hasTrigger_40 : decode cX4_hasTrigger 40 = .ok (.iconst 1, 1) := by decide +kernel
theorem dX4_hasTrigger_41 : decode cX4_hasTrigger 41 = .ok (.goto 4, 3) := by decide +kernel
theorem dX4_hasTrigger_44 : decode cX4_hasTrigger 44 = .ok (.iconst 0, 1) := by decide +kernel
theorem dX4_hasTrigger_45 : decode cX4_hasTrigger 45 = .ok (.ireturn, 1) := by decide +kernel
theorem dX4_hasTrigger_46 : decode cX4_hasTrigger 46 = .ok (.iload_n 1, 1) := by decide +kernel
theorem dX4_hasTrigger_47 : decode cX4_hasTrigger 47 = .ok (.bipush 10, 2) := by decide +kernel
theorem dX4_hasTrigger_49 : decode cX4_hasTrigger 49 = .ok (.if_icmp .ne 7, 3) := by decide +kernel
theorem dX4_hasTrigger_52 : decode cX4_hasTrigger 52 = .ok (.iconst 1, 1) := by decide +kernel
theorem dX4_hasTrigger_53 : decode cX4_hasTrigger 53 = .ok (.goto 4, 3) := by decide +kernel
theorem dX4_hasTrigger_56 : decode cX4_hasTrigger 56 = .ok (.iconst 0, 1) := by decide +kernel
theorem dX4_hasTrigger_57 : decode cX4_hasTrigger 57 = .ok (.ireturn, 1) := by decide +kernel
theorem dX4_hasTrigger_58 : decode cX4_hasTrigger 58 = .ok (.iload_n 1, 1) := by decide +kernel
theorem dX4_hasTrigger_59 : decode cX4_hasTrigger 59 = .ok (.iconst 1, 1) := by decide +kernel
theorem dX4_hasTrigger_60 : decode cX4_hasTrigger 60 = .ok (.if_icmp .ne 15, 3) := by decide +kernel
theorem dX4_hasTrigger_63 : decode cX4_hasTrigger 63 = .ok (.iload_n 3, 1) := by decide +kernel
theorem dX4_hasTrigger_64 : decode cX4_hasTrigger 64 = .ok (.aload_n 0, 1) := by decide +kernel
theorem dX4_hasTrigger_65 : decode cX4_hasTrigger 65 = .ok (.getfield 103, 3) := by decide +kernel
theorem dX4_hasTrigger_68 : decode cX4_hasTrigger 68 = .ok (.if_icmp .ne 7, 3) := by decide +kernel
theorem dX4_hasTrigger_71 : decode cX4_hasTrigger 71 = .ok (.iconst 1, 1) := by decide +kernel
theorem dX4_hasTrigger_72 : decode cX4_hasTrigger 72 = .ok (.goto 4, 3) := by decide +kernel
theorem dX4_hasTrigger_75 : decode cX4_hasTrigger 75 = .ok (.iconst 0, 1) := by decide +kernel
theorem dX4_hasTrigger_76 : decode cX4_hasTrigger 76 = .ok (.ireturn, 1) := by decide +kernel
theorem dX4_hasTrigger_77 : decode cX4_hasTrigger 77 = .ok (.iconst 0, 1) := by decide +kernel
theorem dX4_hasTrigger_78 : decode cX4_hasTrigger 78 = .ok (.ireturn, 1) := by decide +kernel
set_option maxRecDepth 20000 in
theorem ggX4_breakLoop_X1_start : GoodIn wsX4_breakLoop wsX1_start := goodIn_r _ [17, 18, 19, 89, 90, 91, 92, 93] (by decide +kernel) (by decide +kernel)
set_option maxRecDepth 20000 in
theorem gX4_breakLoop_X1_start : GoodIn wsX4_breakLoop (wsV RX4 228 RX1 yX1_start wsX1_start) := goodIn_app (goodIn_of _ (by decide +kernel)) ggX4_breakLoop_X1_start
set_option maxRecDepth 20000 in
theorem ggX4_breakLoop_X2_placeOf : GoodIn wsX4_breakLoop wsX2_placeOf := goodIn_r _ [24, 25, 26, 78, 79, 80, 81, 82] (by decide +kernel) (by decide +kernel)
set_option maxRecDepth 20000 in
theorem gX4_breakLoop_X2_placeOf : GoodIn wsX4_breakLoop (wsV RX4 188 RX2 yX2_placeOf wsX2_placeOf) := goodIn_app (goodIn_of _ (by decide +kernel)) ggX4_breakLoop_X2_placeOf
set_option maxRecDepth 20000 in
theorem ggX4_breakLoop_X1_write : GoodIn wsX4_breakLoop wsX1_write := goodIn_r _ [30, 19, 18, 89, 90, 91, 92, 93] (by decide +kernel) (by decide +kernel)
set_option maxRecDepth 20000 in
theorem gX4_breakLoop_X1_write : GoodIn wsX4_breakLoop (wsV RX4 233 RX1 yX1_write wsX1_write) := goodIn_app (goodIn_of _ (by decide +kernel)) ggX4_breakLoop_X1_write
set_option maxRecDepth 20000 in
theorem ggX4_breakLoop_X4_targetPlace : GoodIn wsX4_breakLoop wsX4_targetPlace := goodIn_r _ [35, 4, 5, 36, 9, 2, 37, 38, 39, 40, 41, 42, 43, 20, 21, 22, 23, 24, 25, 26, 67, 68, 69, 70, 71, 72, 73, 74, 75, 76, 77, 83, 84, 85, 86, 87, 88, 78, 79, 80, 81, 82] (by decide +kernel) (by decide +kernel)
set_option maxRecDepth 20000 in
theorem gX4_breakLoop_X4_targetPlace : GoodIn wsX4_breakLoop (wsV RX4 154 RX4 yX4_targetPlace wsX4_targetPlace) := goodIn_app (goodIn_of _ (by decide +kernel)) ggX4_breakLoop_X4_targetPlace
set_option maxRecDepth 20000 in
theorem ggX4_breakLoop_X1_knowsState : GoodIn wsX4_breakLoop wsX1_knowsState := goodIn_r _ [47, 48, 49, 50, 51, 52, 16, 53, 19, 18, 89, 90, 91, 92, 93] (by decide +kernel) (by decide +kernel)
set_option maxRecDepth 20000 in
theorem gX4_breakLoop_X1_knowsState : GoodIn wsX4_breakLoop (wsV RX4 237 RX1 yX1_knowsState wsX1_knowsState) := goodIn_app (goodIn_of _ (by decide +kernel)) ggX4_breakLoop_X1_knowsState
set_option maxRecDepth 20000 in
theorem ggX4_breakLoop_X1_forget : GoodIn wsX4_breakLoop wsX1_forget := goodIn_r _ [57, 48, 58, 89, 90, 91, 92, 93] (by decide +kernel) (by decide +kernel)
set_option maxRecDepth 20000 in
theorem gX4_breakLoop_X1_forget : GoodIn wsX4_breakLoop (wsV RX4 80 RX1 yX1_forget wsX1_forget) := goodIn_app (goodIn_of _ (by decide +kernel)) ggX4_breakLoop_X1_forget
set_option maxRecDepth 20000 in
theorem ggX4_breakLoop_X1_keepState : GoodIn wsX4_breakLoop wsX1_keepState := goodIn_r _ [62, 18, 49, 58, 63, 64, 65, 66, 48, 89, 90, 91, 92, 93] (by decide +kernel) (by decide +kernel)
set_option maxRecDepth 20000 in
theorem gX4_breakLoop_X1_keepState : GoodIn wsX4_breakLoop (wsV RX4 241 RX1 yX1_keepState wsX1_keepState) := goodIn_app (goodIn_of _ (by decide +kernel)) ggX4_breakLoop_X1_keepState
theorem dX4_breakLoop_0 : decode cX4_breakLoop 0 = .ok (.aload_n 0, 1) := by decide +kernel
theorem dX4_breakLoop_1 : decode cX4_breakLoop 1 = .ok (.getfield 37, 3) := by decide +kernel
theorem dX4_breakLoop_4 : decode cX4_breakLoop 4 = .ok (.aload_n 0, 1) := by decide +kernel
theorem dX4_breakLoop_5 : decode cX4_breakLoop 5 = .ok (.getfield 16, 3) := by decide +kernel
theorem dX4_breakLoop_8 : decode cX4_breakLoop 8 = .ok (.getfield 114, 3) := by decide +kernel
theorem dX4_breakLoop_11 : decode cX4_breakLoop 11 = .ok (.aload_n 0, 1) := by decide +kernel
theorem dX4_breakLoop_12 : decode cX4_breakLoop 12 = .ok (.getfield 23, 3) := by decide +kernel
theorem dX4_breakLoop_15 : decode cX4_breakLoop 15 = .ok (.getfield 89, 3) := by decide +kernel
theorem dX4_breakLoop_18 : decode cX4_breakLoop 18 = .ok (.invokevirtual 228, 3) := by decide +kernel
theorem dX4_breakLoop_21 : decode cX4_breakLoop 21 = .ok (.iconst 0, 1) := by decide +kernel
theorem dX4_breakLoop_22 : decode cX4_breakLoop 22 = .ok (.istore_n 1, 1) := by decide +kernel
theorem dX4_breakLoop_23 : decode cX4_breakLoop 23 = .ok (.iload_n 1, 1) := by decide +kernel
theorem dX4_breakLoop_24 : decode cX4_breakLoop 24 = .ok (.aload_n 0, 1) := by decide +kernel
theorem dX4_breakLoop_25 : decode cX4_breakLoop 25 = .ok (.getfield 16, 3) := by decide +kernel
theorem dX4_breakLoop_28 : decode cX4_breakLoop 28 = .ok (.getfield 114, 3) := by decide +kernel
theorem dX4_breakLoop_31 : decode cX4_breakLoop 31 = .ok (.if_icmp .ge 51, 3) := by decide +kernel
theorem dX4_breakLoop_34 : decode cX4_breakLoop 34 = .ok (.aload_n 0, 1) := by decide +kernel
theorem dX4_breakLoop_35 : decode cX4_breakLoop 35 = .ok (.getfield 37, 3) := by decide +kernel
theorem dX4_breakLoop_38 : decode cX4_breakLoop 38 = .ok (.aload_n 0, 1) := by decide +kernel
theorem dX4_breakLoop_39 : decode cX4_breakLoop 39 = .ok (.getfield 16, 3) := by decide +kernel
theorem dX4_breakLoop_42 : decode cX4_breakLoop 42 = .ok (.getfield 121, 3) := by decide +kernel
theorem dX4_breakLoop_45 : decode cX4_breakLoop 45 = .ok (.iload_n 1, 1) := by decide +kernel
theorem dX4_breakLoop_46 : decode cX4_breakLoop 46 = .ok (.iaload, 1) := by decide +kernel
theorem dX4_breakLoop_47 : decode cX4_breakLoop 47 = .ok (.iconst 0, 1) := by decide +kernel
theorem dX4_breakLoop_48 : decode cX4_breakLoop 48 = .ok (.aload_n 0, 1) := by decide +kernel
theorem dX4_breakLoop_49 : decode cX4_breakLoop 49 = .ok (.getfield 16, 3) := by decide +kernel
theorem dX4_breakLoop_52 : decode cX4_breakLoop 52 = .ok (.getfield 231, 3) := by decide +kernel
theorem dX4_breakLoop_55 : decode cX4_breakLoop 55 = .ok (.iload_n 1, 1) := by decide +kernel
theorem dX4_breakLoop_56 : decode cX4_breakLoop 56 = .ok (.iaload, 1) := by decide +kernel
theorem dX4_breakLoop_57 : decode cX4_breakLoop 57 = .ok (.aload_n 0, 1) := by decide +kernel
theorem dX4_breakLoop_58 : decode cX4_breakLoop 58 = .ok (.getfield 16, 3) := by decide +kernel
theorem dX4_breakLoop_61 : decode cX4_breakLoop 61 = .ok (.aload_n 0, 1) := by decide +kernel
theorem dX4_breakLoop_62 : decode cX4_breakLoop 62 = .ok (.getfield 16, 3) := by decide +kernel
theorem dX4_breakLoop_65 : decode cX4_breakLoop 65 = .ok (.getfield 232, 3) := by decide +kernel
theorem dX4_breakLoop_68 : decode cX4_breakLoop 68 = .ok (.iload_n 1, 1) := by decide +kernel
theorem dX4_breakLoop_69 : decode cX4_breakLoop 69 = .ok (.iaload, 1) := by decide +kernel
theorem dX4_breakLoop_70 : decode cX4_breakLoop 70 = .ok (.invokevirtual 188, 3) := by decide +kernel
theorem dX4_breakLoop_73 : decode cX4_breakLoop 73 = .ok (.invokevirtual 233, 3) := by decide +kernel
theorem dX4_breakLoop_76 : decode cX4_breakLoop 76 = .ok (.iinc 1 1, 3) := by decide +kernel
theorem dX4_breakLoop_79 : decode cX4_breakLoop 79 = .ok (.goto (-56), 3) := by decide +kernel
theorem dX4_breakLoop_82 : decode cX4_breakLoop 82 = .ok (.iconst 0, 1) := by decide +kernel
theorem dX4_breakLoop_83 : decode cX4_breakLoop 83 = .ok (.istore_n 1, 1) := by decide +kernel
theorem dX4_breakLoop_84 : decode cX4_breakLoop 84 = .ok (.iload_n 1, 1) := by decide +kernel
theorem dX4_breakLoop_85 : decode cX4_breakLoop 85 = .ok (.aload_n 0, 1) := by decide +kernel
theorem dX4_breakLoop_86 : decode cX4_breakLoop 86 = .ok (.getfield 23, 3) := by decide +kernel
theorem dX4_breakLoop_89 : decode cX4_breakLoop 89 = .ok (.getfield 89, 3) := by decide +kernel
theorem dX4_breakLoop_92 : decode cX4_breakLoop 92 = .ok (.if_icmp .ge 48, 3) := by decide +kernel
theorem dX4_breakLoop_95 : decode cX4_breakLoop 95 = .ok (.aload_n 0, 1) := by decide +kernel
theorem dX4_breakLoop_96 : decode cX4_breakLoop 96 = .ok (.getfield 37, 3) := by decide +kernel
theorem dX4_breakLoop_99 : decode cX4_breakLoop 99 = .ok (.aload_n 0, 1) := by decide +kernel
theorem dX4_breakLoop_100 : decode cX4_breakLoop 100 = .ok (.getfield 23, 3) := by decide +kernel
theorem dX4_breakLoop_103 : decode cX4_breakLoop 103 = .ok (.getfield 143, 3) := by decide +kernel
theorem dX4_breakLoop_106 : decode cX4_breakLoop 106 = .ok (.iload_n 1, 1) := by decide +kernel
theorem dX4_breakLoop_107 : decode cX4_breakLoop 107 = .ok (.iaload, 1) := by decide +kernel
theorem dX4_breakLoop_108 : decode cX4_breakLoop 108 = .ok (.aload_n 0, 1) := by decide +kernel
theorem dX4_breakLoop_109 : decode cX4_breakLoop 109 = .ok (.getfield 23, 3) := by decide +kernel
theorem dX4_breakLoop_112 : decode cX4_breakLoop 112 = .ok (.getfield 147, 3) := by decide +kernel
theorem dX4_breakLoop_115 : decode cX4_breakLoop 115 = .ok (.iload_n 1, 1) := by decide +kernel
theorem dX4_breakLoop_116 : decode cX4_breakLoop 116 = .ok (.baload, 1) := by decide +kernel
theorem dX4_breakLoop_117 : decode cX4_breakLoop 117 = .ok (.aload_n 0, 1) := by decide +kernel
theorem dX4_breakLoop_118 : decode cX4_breakLoop 118 = .ok (.getfield 23, 3) := by decide +kernel
theorem dX4_breakLoop_121 : decode cX4_breakLoop 121 = .ok (.getfield 151, 3) := by decide +kernel
theorem dX4_breakLoop_124 : decode cX4_breakLoop 124 = .ok (.iload_n 1, 1) := by decide +kernel
theorem dX4_breakLoop_125 : decode cX4_breakLoop 125 = .ok (.iaload, 1) := by decide +kernel
theorem dX4_breakLoop_126 : decode cX4_breakLoop 126 = .ok (.aload_n 0, 1) := by decide +kernel
theorem dX4_breakLoop_127 : decode cX4_breakLoop 127 = .ok (.iload_n 1, 1) := by decide +kernel
theorem dX4_breakLoop_128 : decode cX4_breakLoop 128 = .ok (.invokevirtual 154, 3) := by decide +kernel
theorem dX4_breakLoop_131 : decode cX4_breakLoop 131 = .ok (.invokevirtual 233, 3) := by decide +kernel
theorem dX4_breakLoop_134 : decode cX4_breakLoop 134 = .ok (.iinc 1 1, 3) := by decide +kernel
theorem dX4_breakLoop_137 : decode cX4_breakLoop 137 = .ok (.goto (-53), 3) := by decide +kernel
theorem dX4_breakLoop_140 : decode cX4_breakLoop 140 = .ok (.aload_n 0, 1) := by decide +kernel
theorem dX4_breakLoop_141 : decode cX4_breakLoop 141 = .ok (.getfield 37, 3) := by decide +kernel
theorem dX4_breakLoop_144 : decode cX4_breakLoop 144 = .ok (.invokevirtual 237, 3) := by decide +kernel
theorem dX4_breakLoop_147 : decode cX4_breakLoop 147 = .ok (.ifCond .eq 31, 3) := by decide +kernel
theorem dX4_breakLoop_150 : decode cX4_breakLoop 150 = .ok (.aload_n 0, 1) := by decide +kernel
theorem dX4_breakLoop_151 : decode cX4_breakLoop 151 = .ok (.dup, 1) := by decide +kernel
theorem dX4_breakLoop_152 : decode cX4_breakLoop 152 = .ok (.getfield 109, 3) := by decide +kernel
theorem dX4_breakLoop_155 : decode cX4_breakLoop 155 = .ok (.iconst 1, 1) := by decide +kernel
theorem dX4_breakLoop_156 : decode cX4_breakLoop 156 = .ok (.iadd, 1) := by decide +kernel
theorem dX4_breakLoop_157 : decode cX4_breakLoop 157 = .ok (.putfield 109, 3) := by decide +kernel
theorem dX4_breakLoop_160 : decode cX4_breakLoop 160 = .ok (.aload_n 0, 1) := by decide +kernel
theorem dX4_breakLoop_161 : decode cX4_breakLoop 161 = .ok (.getfield 23, 3) := by decide +kernel
theorem dX4_breakLoop_164 : decode cX4_breakLoop 164 = .ok (.iconst 0, 1) := by decide +kernel
theorem dX4_breakLoop_165 : decode cX4_breakLoop 165 = .ok (.putfield 89, 3) := by decide +kernel
theorem dX4_breakLoop_168 : decode cX4_breakLoop 168 = .ok (.aload_n 0, 1) := by decide +kernel
theorem dX4_breakLoop_169 : decode cX4_breakLoop 169 = .ok (.getfield 37, 3) := by decide +kernel
theorem dX4_breakLoop_172 : decode cX4_breakLoop 172 = .ok (.invokevirtual 80, 3) := by decide +kernel
theorem dX4_breakLoop_175 : decode cX4_breakLoop 175 = .ok (.goto 10, 3) := by decide +kernel
theorem dX4_breakLoop_178 : decode cX4_breakLoop 178 = .ok (.aload_n 0, 1) := by decide +kernel
theorem dX4_breakLoop_179 : decode cX4_breakLoop 179 = .ok (.getfield 37, 3) := by decide +kernel
theorem dX4_breakLoop_182 : decode cX4_breakLoop 182 = .ok (.invokevirtual 241, 3) := by decide +kernel
theorem dX4_breakLoop_185 : decode cX4_breakLoop 185 = .ok (.return_, 1) := by decide +kernel
theorem dX5_init_0 : decode cX5_init 0 = .ok (.aload_n 0, 1) := by decide +kernel
theorem dX5_init_1 : decode cX5_init 1 = .ok (.invokespecial 1, 3) := by decide +kernel
theorem dX5_init_4 : decode cX5_init 4 = .ok (.aload_n 0, 1) := by decide +kernel
theorem dX5_init_5 : decode cX5_init 5 = .ok (.iconst 3, 1) := by decide +kernel
theorem dX5_init_6 : decode cX5_init 6 = .ok (.newarray .int, 2) := by decide +kernel
theorem dX5_init_8 : decode cX5_init 8 = .ok (.putfield 7, 3) := by decide +kernel
theorem dX5_init_11 : decode cX5_init 11 = .ok (.aload_n 0, 1) := by decide +kernel
theorem dX5_init_12 : decode cX5_init 12 = .ok (.bipush 10, 2) := by decide +kernel
theorem dX5_init_14 : decode cX5_init 14 = .ok (.newarray .int, 2) := by decide +kernel
theorem dX5_init_16 : decode cX5_init 16 = .ok (.putfield 13, 3) := by decide +kernel
theorem dX5_init_19 : decode cX5_init 19 = .ok (.aload_n 0, 1) := by decide +kernel
theorem dX5_init_20 : decode cX5_init 20 = .ok (.bipush 10, 2) := by decide +kernel
theorem dX5_init_22 : decode cX5_init 22 = .ok (.newarray .int, 2) := by decide +kernel
theorem dX5_init_24 : decode cX5_init 24 = .ok (.putfield 16, 3) := by decide +kernel
theorem dX5_init_27 : decode cX5_init 27 = .ok (.aload_n 0, 1) := by decide +kernel
theorem dX5_init_28 : decode cX5_init 28 = .ok (.bipush 10, 2) := by decide +kernel
theorem dX5_init_30 : decode cX5_init 30 = .ok (.newarray .int, 2) := by decide +kernel
theorem dX5_init_32 : decode cX5_init 32 = .ok (.putfield 19, 3) := by decide +kernel
theorem dX5_init_35 : decode cX5_init 35 = .ok (.aload_n 0, 1) := by decide +kernel
theorem dX5_init_36 : decode cX5_init 36 = .ok (.bipush 10, 2) := by decide +kernel
theorem dX5_init_38 : decode cX5_init 38 = .ok (.newarray .int, 2) := by decide +kernel
theorem dX5_init_40 : decode cX5_init 40 = .ok (.putfield 22, 3) := by decide +kernel
theorem dX5_init_43 : decode cX5_init 43 = .ok (.aload_n 0, 1) := by decide +kernel
theorem dX5_init_44 : decode cX5_init 44 = .ok (.bipush 12, 2) := by decide +kernel
theorem dX5_init_46 : decode cX5_init 46 = .ok (.newarray .int, 2) := by decide +kernel
theorem dX5_init_48 : decode cX5_init 48 = .ok (.putfield 25, 3) := by decide +kernel
theorem dX5_init_51 : decode cX5_init 51 = .ok (.aload_n 0, 1) := by decide +kernel
theorem dX5_init_52 : decode cX5_init 52 = .ok (.bipush 12, 2) := by decide +kernel
theorem dX5_init_54 : decode cX5_init 54 = .ok (.newarray .boolean, 2) := by decide +kernel
theorem dX5_init_56 : decode cX5_init 56 = .ok (.putfield 28, 3) := by decide +kernel
theorem dX5_init_59 : decode cX5_init 59 = .ok (.aload_n 0, 1) := by decide +kernel
theorem dX5_init_60 : decode cX5_init 60 = .ok (.bipush 12, 2) := by decide +kernel
theorem dX5_init_62 : decode cX5_init 62 = .ok (.newarray .int, 2) := by decide +kernel
theorem dX5_init_64 : decode cX5_init 64 = .ok (.putfield 32, 3) := by decide +kernel
theorem dX5_init_67 : decode cX5_init 67 = .ok (.aload_n 0, 1) := by decide +kernel
theorem dX5_init_68 : decode cX5_init 68 = .ok (.bipush 12, 2) := by decide +kernel
theorem dX5_init_70 : decode cX5_init 70 = .ok (.newarray .int, 2) := by decide +kernel
theorem dX5_init_72 : decode cX5_init 72 = .ok (.putfield 35, 3) := by decide +kernel
theorem dX5_init_75 : decode cX5_init 75 = .ok (.aload_n 0, 1) := by decide +kernel
theorem dX5_init_76 : decode cX5_init 76 = .ok (.bipush 12, 2) := by decide +kernel
theorem dX5_init_78 : decode cX5_init 78 = .ok (.newarray .int, 2) := by decide +kernel
theorem dX5_init_80 : decode cX5_init 80 = .ok (.putfield 38, 3) := by decide +kernel
theorem dX5_init_83 : decode cX5_init 83 = .ok (.aload_n 0, 1) := by decide +kernel
theorem dX5_init_84 : decode cX5_init 84 = .ok (.bipush 10, 2) := by decide +kernel
theorem dX5_init_86 : decode cX5_init 86 = .ok (.newarray .int, 2) := by decide +kernel
theorem dX5_init_88 : decode cX5_init 88 = .ok (.putfield 41, 3) := by decide +kernel
theorem dX5_init_91 : decode cX5_init 91 = .ok (.aload_n 0, 1) := by decide +kernel
theorem dX5_init_92 : decode cX5_init 92 = .ok (.bipush 10, 2) := by decide +kernel
theorem dX5_init_94 : decode cX5_init 94 = .ok (.newarray .int, 2) := by decide +kernel
theorem dX5_init_96 : decode cX5_init 96 = .ok (.putfield 44, 3) := by decide +kernel
theorem dX5_init_99 : decode cX5_init 99 = .ok (.aload_n 0, 1) := by decide +kernel
theorem dX5_init_100 : decode cX5_init 100 = .ok (.bipush 10, 2) := by decide +kernel
theorem dX5_init_102 : decode cX5_init 102 = .ok (.newarray .int, 2) := by decide +kernel
theorem dX5_init_104 : decode cX5_init 104 = .ok (.putfield 47, 3) := by decide +kernel
theorem dX5_init_107 : decode cX5_init 107 = .ok (.aload_n 0, 1) := by decide +kernel
theorem dX5_init_108 : decode cX5_init 108 = .ok (.bipush 10, 2) := by decide +kernel
theorem dX5_init_110 : decode cX5_init 110 = .ok (.newarray .int, 2) := by decide +kernel
theorem dX5_init_112 : decode cX5_init 112 = .ok (.putfield 50, 3) := by decide +kernel
theorem dX5_init_115 : decode cX5_init 115 = .ok (.aload_n 0, 1) := by decide +kernel
theorem dX5_init_116 : decode cX5_init 116 = .ok (.bipush 10, 2) := by decide +kernel
theorem dX5_init_118 : decode cX5_init 118 = .ok (.newarray .int, 2) := by decide +kernel
theorem dX5_init_120 : decode cX5_init 120 = .ok (.putfield 53, 3) := by decide +kernel
theorem dX5_init_123 : decode cX5_init 123 = .ok (.aload_n 0, 1) := by decide +kernel
theorem dX5_init_124 : decode cX5_init 124 = .ok (.sipush 960, 3) := by decide +kernel
theorem dX5_init_127 : decode cX5_init 127 = .ok (.newarray .int, 2) := by decide +kernel
theorem dX5_init_129 : decode cX5_init 129 = .ok (.putfield 56, 3) := by decide +kernel
theorem dX5_init_132 : decode cX5_init 132 = .ok (.aload_n 0, 1) := by decide +kernel
theorem dX5_init_133 : decode cX5_init 133 = .ok (.bipush 24, 2) := by decide +kernel
theorem dX5_init_135 : decode cX5_init 135 = .ok (.newarray .int, 2) := by decide +kernel
theorem dX5_init_137 : decode cX5_init 137 = .ok (.putfield 59, 3) := by decide +kernel
theorem dX5_init_140 : decode cX5_init 140 = .ok (.iconst 0, 1) := by decide +kernel
theorem dX5_init_141 : decode cX5_init 141 = .ok (.istore_n 1, 1) := by decide +kernel
theorem dX5_init_142 : decode cX5_init 142 = .ok (.iload_n 1, 1) := by decide +kernel
theorem dX5_init_143 : decode cX5_init 143 = .ok (.iconst 3, 1) := by decide +kernel
theorem dX5_init_144 : decode cX5_init 144 = .ok (.if_icmp .ge 17, 3) := by decide +kernel
theorem dX5_init_147 : decode cX5_init 147 = .ok (.aload_n 0, 1) := by decide +kernel
theorem dX5_init_148 : decode cX5_init 148 = .ok (.getfield 7, 3) := by decide +kernel
theorem dX5_init_151 : decode cX5_init 151 = .ok (.iload_n 1, 1) := by decide +kernel
theorem dX5_init_152 : decode cX5_init 152 = .ok (.bipush 6, 2) := by decide +kernel
theorem dX5_init_154 : decode cX5_init 154 = .ok (.iastore, 1) := by decide +kernel
theorem dX5_init_155 : decode cX5_init 155 = .ok (.iinc 1 1, 3) := by decide +kernel
theorem dX5_init_158 : decode cX5_init 158 = .ok (.goto (-16), 3) := by decide +kernel
theorem dX5_init_161 : decode cX5_init 161 = .ok (.return_, 1) := by decide +kernel
theorem dX5_thrown_0 : decode cX5_thrown 0 = .ok (.aload_n 0, 1) := by decide +kernel
theorem dX5_thrown_1 : decode cX5_thrown 1 = .ok (.getfield 62, 3) := by decide +kernel
theorem dX5_thrown_4 : decode cX5_thrown 4 = .ok (.ireturn, 1) := by decide +kernel
theorem dX5_isIn_0 : decode cX5_isIn 0 = .ok (.iload_n 0, 1) := by decide +kernel
theorem dX5_isIn_1 : decode cX5_isIn 1 = .ok (.iload_n 1, 1) := by decide +kernel
theorem dX5_isIn_2 : decode cX5_isIn 2 = .ok (.if_icmp .lt 12, 3) := by decide +kernel
theorem dX5_isIn_5 : decode cX5_isIn 5 = .ok (.iload_n 0, 1) := by decide +kernel
theorem dX5_isIn_6 : decode cX5_isIn 6 = .ok (.iload_n 2, 1) := by decide +kernel
theorem dX5_isIn_7 : decode cX5_isIn 7 = .ok (.if_icmp .gt 7, 3) := by decide +kernel
theorem dX5_isIn_10 : decode cX5_isIn 10 = .ok (.iconst 1, 1) := by decide +kernel
theorem dX5_isIn_11 : decode cX5_isIn 11 = .ok (.goto 4, 3) := by decide +kernel
theorem dX5_isIn_14 : decode cX5_isIn 14 = .ok (.iconst 0, 1) := by decide +kernel
theorem dX5_isIn_15 : decode cX5_isIn 15 = .ok (.ireturn, 1) := by decide +kernel
theorem dX5_cost_0 : decode cX5_cost 0 = .ok (.iload_n 0, 1) := by decide +kernel
theorem dX5_cost_1 : decode cX5_cost 1 = .ok (.ifCond .eq 20, 3) := by decide +kernel
theorem dX5_cost_4 : decode cX5_cost 4 = .ok (.iload_n 0, 1) := by decide +kernel
theorem dX5_cost_5 : decode cX5_cost 5 = .ok (.iconst 5, 1) := by decide +kernel
theorem dX5_cost_6 : decode cX5_cost 6 = .ok (.if_icmp .eq 15, 3) := by decide +kernel
theorem dX5_cost_9 : decode cX5_cost 9 = .ok (.iload_n 0, 1) := by decide +kernel
theorem dX5_cost_10 : decode cX5_cost 10 = .ok (.bipush 6, 2) := by decide +kernel
theorem dX5_cost_12 : decode cX5_cost 12 = .ok (.if_icmp .eq 9, 3) := by decide +kernel
theorem dX5_cost_15 : decode cX5_cost 15 = .ok (.iload_n 0, 1) := by decide +kernel
theorem dX5_cost_16 : decode cX5_cost 16 = .ok (.bipush 9, 2) := by decide +kernel
theorem dX5_cost_18 : decode cX5_cost 18 = .ok (.if_icmp .ne 7, 3) := by decide +kernel
theorem dX5_cost_21 : decode cX5_cost 21 = .ok (.iconst 2, 1) := by decide +kernel
theorem dX5_cost_22 : decode cX5_cost 22 = .ok (.goto 24, 3) := by decide +kernel
theorem dX5_cost_25 : decode cX5_cost 25 = .ok (.iload_n 0, 1) := by decide +kernel
theorem dX5_cost_26 : decode cX5_cost 26 = .ok (.bipush 7, 2) := by decide +kernel
theorem dX5_cost_28 : decode cX5_cost 28 = .ok (.if_icmp .ne 7, 3) := by decide +kernel
theorem dX5_cost_31 : decode cX5_cost 31 = .ok (.iconst 4, 1) := by decide +kernel
theorem dX5_cost_32 : decode cX5_cost 32 = .ok (.goto 14, 3) := by decide +kernel
theorem dX5_cost_35 : decode cX5_cost 35 = .ok (.iload_n 0, 1) := by decide +kernel
theorem dX5_cost_36 : decode cX5_cost 36 = .ok (.bipush 11, 2) := by decide +kernel
theorem dX5_cost_38 : decode cX5_cost 38 = .ok (.if_icmp .le 7, 3) := by decide +kernel
theorem dX5_cost_41 : decode cX5_cost 41 = .ok (.iconst 1, 1) := by decide +kernel
theorem dX5_cost_42 : decode cX5_cost 42 = .ok (.goto 4, 3) := by decide +kernel
theorem dX5_cost_45 : decode cX5_cost 45 = .ok (.iconst 3, 1) := by decide +kernel
theorem dX5_cost_46 : decode cX5_cost 46 = .ok (.ireturn, 1) := by decide +kernel
theorem dX5_thingOf_0 : decode cX5_thingOf 0 = .ok (.iconst (-1), 1) := by decide +kernel
theorem dX5_thingOf_1 : decode cX5_thingOf 1 = .ok (.istore_n 2, 1) := by decide +kernel
theorem dX5_thingOf_2 : decode cX5_thingOf 2 = .ok (.iconst 0, 1) := by decide +kernel
theorem dX5_thingOf_3 : decode cX5_thingOf 3 = .ok (.istore_n 3, 1) := by decide +kernel
theorem dX5_thingOf_4 : decode cX5_thingOf 4 = .ok (.iload_n 3, 1) := by decide +kernel
theorem dX5_thingOf_5 : decode cX5_thingOf 5 = .ok (.aload_n 0, 1) := by decide +kernel
theorem dX5_thingOf_6 : decode cX5_thingOf 6 = .ok (.getfield 66, 3) := by decide +kernel
theorem dX5_thingOf_9 : decode cX5_thingOf 9 = .ok (.if_icmp .ge 25, 3) := by decide +kernel
theorem dX5_thingOf_12 : decode cX5_thingOf 12 = .ok (.aload_n 0, 1) := by decide +kernel
theorem dX5_thingOf_13 : decode cX5_thingOf 13 = .ok (.getfield 19, 3) := by decide +kernel
theorem dX5_thingOf_16 : decode cX5_thingOf 16 = .ok (.iload_n 3, 1) := by decide +kernel
theorem dX5_thingOf_17 : decode cX5_thingOf 17 = .ok (.iaload, 1) := by decide +kernel
theorem dX5_thingOf_18 : decode cX5_thingOf 18 = .ok (.iload_n 1, 1) := by decide +kernel
theorem dX5_thingOf_19 : decode cX5_thingOf 19 = .ok (.if_icmp .ne 7, 3) := by decide +kernel
theorem dX5_thingOf_22 : decode cX5_thingOf 22 = .ok (.iload_n 3, 1) := by decide +kernel
theorem dX5_thingOf_23 : decode cX5_thingOf 23 = .ok (.goto 4, 3) := by decide +kernel
theorem dX5_thingOf_26 : decode cX5_thingOf 26 = .ok (.iload_n 2, 1) := by decide +kernel
theorem dX5_thingOf_27 : decode cX5_thingOf 27 = .ok (.istore_n 2, 1) := by decide +kernel
theorem dX5_thingOf_28 : decode cX5_thingOf 28 = .ok (.iinc 3 1, 3) := by decide +kernel
theorem dX5_thingOf_31 : decode cX5_thingOf 31 = .ok (.goto (-27), 3) := by decide +kernel
theorem dX5_thingOf_34 : decode cX5_thingOf 34 = .ok (.iload_n 2, 1) := by decide +kernel
theorem dX5_thingOf_35 : decode cX5_thingOf 35 = .ok (.ireturn, 1) := by decide +kernel
theorem dX5_entryOf_0 : decode cX5_entryOf 0 = .ok (.iconst (-1), 1) := by decide +kernel
theorem dX5_entryOf_1 : decode cX5_entryOf 1 = .ok (.istore_n 2, 1) := by decide +kernel
theorem dX5_entryOf_2 : decode cX5_entryOf 2 = .ok (.iconst 0, 1) := by decide +kernel
theorem dX5_entryOf_3 : decode cX5_entryOf 3 = .ok (.istore_n 3, 1) := by decide +kernel
theorem dX5_entryOf_4 : decode cX5_entryOf 4 = .ok (.iload_n 3, 1) := by decide +kernel
theorem dX5_entryOf_5 : decode cX5_entryOf 5 = .ok (.aload_n 0, 1) := by decide +kernel
theorem dX5_entryOf_6 : decode cX5_entryOf 6 = .ok (.getfield 69, 3) := by decide +kernel
theorem dX5_entryOf_9 : decode cX5_entryOf 9 = .ok (.if_icmp .ge 32, 3) := by decide +kernel
theorem dX5_entryOf_12 : decode cX5_entryOf 12 = .ok (.aload_n 0, 1) := by decide +kernel
theorem dX5_entryOf_13 : decode cX5_entryOf 13 = .ok (.getfield 35, 3) := by decide +kernel
theorem dX5_entryOf_16 : decode cX5_entryOf 16 = .ok (.iload_n 3, 1) := by decide +kernel
theorem dX5_entryOf_17 : decode cX5_entryOf 17 = .ok (.iaload, 1) := by decide +kernel
theorem dX5_entryOf_18 : decode cX5_entryOf 18 = .ok (.iload_n 1, 1) := by decide +kernel
theorem dX5_entryOf_19 : decode cX5_entryOf 19 = .ok (.if_icmp .ne 14, 3) := by decide +kernel
theorem dX5_entryOf_22 : decode cX5_entryOf 22 = .ok (.aload_n 0, 1) := by decide +kernel
theorem dX5_entryOf_23 : decode cX5_entryOf 23 = .ok (.getfield 69, 3) := by decide +kernel
theorem dX5_entryOf_26 : decode cX5_entryOf 26 = .ok (.iconst 1, 1) := by decide +kernel
theorem dX5_entryOf_27 : decode cX5_entryOf 27 = .ok (.isub, 1) := by decide +kernel
theorem dX5_entryOf_28 : decode cX5_entryOf 28 = .ok (.iload_n 3, 1) := by decide +kernel
theorem dX5_entryOf_29 : decode cX5_entryOf 29 = .ok (.isub, 1) := by decide +kernel
theorem dX5_entryOf_30 : decode cX5_entryOf 30 = .ok (.goto 4, 3) := by decide +kernel
theorem dX5_entryOf_33 : decode cX5_entryOf 33 = .ok (.iload_n 2, 1) := by decide +kernel
theorem dX5_entryOf_34 : decode cX5_entryOf 34 = .ok (.istore_n 2, 1) := by decide +kernel
theorem dX5_entryOf_35 : decode cX5_entryOf 35 = .ok (.iinc 3 1, 3) := by decide +kernel
theorem dX5_entryOf_38 : decode cX5_entryOf 38 = .ok (.goto (-34), 3) := by decide +kernel
theorem dX5_entryOf_41 : decode cX5_entryOf 41 = .ok (.iload_n 2, 1) := by decide +kernel
theorem dX5_entryOf_42 : decode cX5_entryOf 42 = .ok (.ireturn, 1) := by decide +kernel
set_option maxRecDepth 20000 in
theorem ggX5_layer_X5_thingOf : GoodIn wsX5_layer wsX5_thingOf := goodIn_r _ [14, 5, 15, 16, 17, 18, 19, 20, 21, 22, 23, 24, 25, 26, 27, 28, 29, 30, 31, 32, 33, 34, 35, 36, 37, 38, 39, 40, 41, 42] (by decide +kernel) (by decide +kernel)
set_option maxRecDepth 20000 in
theorem gX5_layer_X5_thingOf : GoodIn wsX5_layer (wsV RX5 72 RX5 yX5_thingOf wsX5_thingOf) := goodIn_app (goodIn_of _ (by decide +kernel)) ggX5_layer_X5_thingOf
theorem dX5_layer_0 : decode cX5_layer 0 = .ok (.aload_n 0, 1) := by decide +kernel
theorem dX5_layer_1 : decode cX5_layer 1 = .ok (.getfield 13, 3) := by decide +kernel
theorem dX5_layer_4 : decode cX5_layer 4 = .ok (.iload_n 2, 1) := by decide +kernel
theorem dX5_layer_5 : decode cX5_layer 5 = .ok (.iaload, 1) := by decide +kernel
theorem dX5_layer_6 : decode cX5_layer 6 = .ok (.istore_n 3, 1) := by decide +kernel
theorem dX5_layer_7 : decode cX5_layer 7 = .ok (.iload_n 1, 1) := by decide +kernel
theorem dX5_layer_8 : decode cX5_layer 8 = .ok (.iconst 1, 1) := by decide +kernel
theorem dX5_layer_9 : decode cX5_layer 9 = .ok (.if_icmp .ne 22, 3) := by decide +kernel
theorem dX5_layer_12 : decode cX5_layer 12 = .ok (.iload_n 3, 1) := by decide +kernel
theorem dX5_layer_13 : decode cX5_layer 13 = .ok (.bipush 7, 2) := by decide +kernel
theorem dX5_layer_15 : decode cX5_layer 15 = .ok (.if_icmp .ne 16, 3) := by decide +kernel
theorem dX5_layer_18 : decode cX5_layer 18 = .ok (.aload_n 0, 1) := by decide +kernel
theorem dX5_layer_19 : decode cX5_layer 19 = .ok (.aload_n 0, 1) := by decide +kernel
theorem dX5_layer_20 : decode cX5_layer 20 = .ok (.getfield 22, 3) := by decide +kernel
theorem dX5_layer_23 : decode cX5_layer 23 = .ok (.iload_n 2, 1) := by decide +kernel
theorem dX5_layer_24 : decode cX5_layer 24 = .ok (.iaload, 1) := by decide +kernel
theorem dX5_layer_25 : decode cX5_layer 25 = .ok (.invokevirtual 72, 3) := by decide +kernel
theorem dX5_layer_28 : decode cX5_layer 28 = .ok (.goto 4, 3) := by decide +kernel
theorem dX5_layer_31 : decode cX5_layer 31 = .ok (.iconst (-1), 1) := by decide +kernel
theorem dX5_layer_32 : decode cX5_layer 32 = .ok (.istore 4, 2) := by decide +kernel
theorem dX5_layer_34 : decode cX5_layer 34 = .ok (.iload 4, 2) := by decide +kernel
theorem dX5_layer_36 : decode cX5_layer 36 = .ok (.ifCond .lt 16, 3) := by decide +kernel
theorem dX5_layer_39 : decode cX5_layer 39 = .ok (.aload_n 0, 1) := by decide +kernel
theorem dX5_layer_40 : decode cX5_layer 40 = .ok (.getfield 41, 3) := by decide +kernel
theorem dX5_layer_43 : decode cX5_layer 43 = .ok (.iload 4, 2) := by decide +kernel
theorem dX5_layer_45 : decode cX5_layer 45 = .ok (.aload_n 0, 1) := by decide +kernel
theorem dX5_layer_46 : decode cX5_layer 46 = .ok (.getfield 16, 3) := by decide +kernel
theorem dX5_layer_49 : decode cX5_layer 49 = .ok (.iload_n 2, 1) := by decide +kernel
theorem dX5_layer_50 : decode cX5_layer 50 = .ok (.iaload, 1) := by decide +kernel
theorem dX5_layer_51 : decode cX5_layer 51 = .ok (.iastore, 1) := by decide +kernel
theorem dX5_layer_52 : decode cX5_layer 52 = .ok (.iconst 0, 1) := by decide +kernel
theorem dX5_layer_53 : decode cX5_layer 53 = .ok (.istore 5, 2) := by decide +kernel
theorem dX5_layer_55 : decode cX5_layer 55 = .ok (.iload 5, 2) := by decide +kernel
theorem dX5_layer_57 : decode cX5_layer 57 = .ok (.aload_n 0, 1) := by decide +kernel
theorem dX5_layer_58 : decode cX5_layer 58 = .ok (.getfield 66, 3) := by decide +kernel
theorem dX5_layer_61 : decode cX5_layer 61 = .ok (.if_icmp .ge 214, 3) := by decide +kernel
theorem dX5_layer_64 : decode cX5_layer 64 = .ok (.aload_n 0, 1) := by decide +kernel
theorem dX5_layer_65 : decode cX5_layer 65 = .ok (.getfield 50, 3) := by decide +kernel
theorem dX5_layer_68 : decode cX5_layer 68 = .ok (.iload 5, 2) := by decide +kernel
theorem dX5_layer_70 : decode cX5_layer 70 = .ok (.iaload, 1) := by decide +kernel
theorem dX5_layer_71 : decode cX5_layer 71 = .ok (.iconst 1, 1) := by decide +kernel
theorem dX5_layer_72 : decode cX5_layer 72 = .ok (.iand, 1) := by decide +kernel
theorem dX5_layer_73 : decode cX5_layer 73 = .ok (.iconst 1, 1) := by decide +kernel
theorem dX5_layer_74 : decode cX5_layer 74 = .ok (.if_icmp .ne 7, 3) := by decide +kernel
theorem dX5_layer_77 : decode cX5_layer 77 = .ok (.iconst 1, 1) := by decide +kernel
theorem dX5_layer_78 : decode cX5_layer 78 = .ok (.goto 4, 3) := by decide +kernel
theorem dX5_layer_81 : decode cX5_layer 81 = .ok (.iconst 0, 1) := by decide +kernel
theorem dX5_layer_82 : decode cX5_layer 82 = .ok (.istore 6, 2) := by decide +kernel
theorem dX5_layer_84 : decode cX5_layer 84 = .ok (.iload_n 1, 1) := by decide +kernel
theorem dX5_layer_85 : decode cX5_layer 85 = .ok (.iconst 2, 1) := by decide +kernel
theorem dX5_layer_86 : decode cX5_layer 86 = .ok (.if_icmp .ne 32, 3) := by decide +kernel
theorem dX5_layer_89 : decode cX5_layer 89 = .ok (.iload_n 3, 1) := by decide +kernel
theorem dX5_layer_90 : decode cX5_layer 90 = .ok (.iconst 5, 1) := by decide +kernel
theorem dX5_layer_91 : decode cX5_layer 91 = .ok (.if_icmp .ne 27, 3) := by decide +kernel
theorem dX5_layer_94 : decode cX5_layer 94 = .ok (.aload_n 0, 1) := by decide +kernel
theorem dX5_layer_95 : decode cX5_layer 95 = .ok (.getfield 50, 3) := by decide +kernel
theorem dX5_layer_98 : decode cX5_layer 98 = .ok (.iload 5, 2) := by decide +kernel
theorem dX5_layer_100 : decode cX5_layer 100 = .ok (.iaload, 1) := by decide +kernel
theorem dX5_layer_101 : decode cX5_layer 101 = .ok (.iconst 2, 1) := by decide +kernel
theorem dX5_layer_102 : decode cX5_layer 102 = .ok (.iand, 1) := by decide +kernel
theorem dX5_layer_103 : decode cX5_layer 103 = .ok (.iconst 2, 1) := by decide +kernel
theorem dX5_layer_104 : decode cX5_layer 104 = .ok (.if_icmp .ne 14, 3) := by decide +kernel
theorem dX5_layer_107 : decode cX5_layer 107 = .ok (.aload_n 0, 1) := by decide +kernel
theorem dX5_layer_108 : decode cX5_layer 108 = .ok (.getfield 44, 3) := by decide +kernel
theorem dX5_layer_111 : decode cX5_layer 111 = .ok (.iload 5, 2) := by decide +kernel
theorem dX5_layer_113 : decode cX5_layer 113 = .ok (.dup2, 1) := by decide +kernel
theorem dX5_layer_114 : decode cX5_layer 114 = .ok (.iaload, 1) := by decide +kernel
theorem dX5_layer_115 : decode cX5_layer 115 = .ok (.iconst 1, 1) := by decide +kernel
theorem dX5_layer_116 : decode cX5_layer 116 = .ok (.ior, 1) := by decide +kernel
theorem dX5_layer_117 : decode cX5_layer 117 = .ok (.iastore, 1) := by decide +kernel
theorem dX5_layer_118 : decode cX5_layer 118 = .ok (.iload_n 1, 1) := by decide +kernel
theorem dX5_layer_119 : decode cX5_layer 119 = .ok (.iconst 2, 1) := by decide +kernel
theorem dX5_layer_120 : decode cX5_layer 120 = .ok (.if_icmp .ne 32, 3) := by decide +kernel
theorem dX5_layer_123 : decode cX5_layer 123 = .ok (.iload_n 3, 1) := by decide +kernel
theorem dX5_layer_124 : decode cX5_layer 124 = .ok (.bipush 6, 2) := by decide +kernel
theorem dX5_layer_126 : decode cX5_layer 126 = .ok (.if_icmp .ne 26, 3) := by decide +kernel
theorem dX5_layer_129 : decode cX5_layer 129 = .ok (.iload 6, 2) := by decide +kernel
theorem dX5_layer_131 : decode cX5_layer 131 = .ok (.ifCond .eq 21, 3) := by decide +kernel
theorem dX5_layer_134 : decode cX5_layer 134 = .ok (.aload_n 0, 1) := by decide +kernel
theorem dX5_layer_135 : decode cX5_layer 135 = .ok (.getfield 44, 3) := by decide +kernel
theorem dX5_layer_138 : decode cX5_layer 138 = .ok (.iload 5, 2) := by decide +kernel
theorem dX5_layer_140 : decode cX5_layer 140 = .ok (.aload_n 0, 1) := by decide +kernel
theorem dX5_layer_141 : decode cX5_layer 141 = .ok (.getfield 44, 3) := by decide +kernel
theorem dX5_layer_144 : decode cX5_layer 144 = .ok (.iload 5, 2) := by decide +kernel
theorem dX5_layer_146 : decode cX5_layer 146 = .ok (.iaload, 1) := by decide +kernel
theorem dX5_layer_147 : decode cX5_layer 147 = .ok (.iconst 4, 1) := by decide +kernel
theorem dX5_layer_148 : decode cX5_layer 148 = .ok (.iand, 1) := by decide +kernel
theorem dX5_layer_149 : decode cX5_layer 149 = .ok (.iconst 2, 1) := by decide +kernel
theorem dX5_layer_150 : decode cX5_layer 150 = .ok (.ior, 1) := by decide +kernel
theorem dX5_layer_151 : decode cX5_layer 151 = .ok (.iastore, 1) := by decide +kernel
theorem dX5_layer_152 : decode cX5_layer 152 = .ok (.iload_n 1, 1) := by decide +kernel
theorem dX5_layer_153 : decode cX5_layer 153 = .ok (.iconst 3, 1) := by decide +kernel
theorem dX5_layer_154 : decode cX5_layer 154 = .ok (.if_icmp .ne 35, 3) := by decide +kernel
theorem dX5_layer_157 : decode cX5_layer 157 = .ok (.iload 6, 2) := by decide +kernel
theorem dX5_layer_159 : decode cX5_layer 159 = .ok (.ifCond .eq 30, 3) := by decide +kernel
theorem dX5_layer_162 : decode cX5_layer 162 = .ok (.iload_n 3, 1) := by decide +kernel
theorem dX5_layer_163 : decode cX5_layer 163 = .ok (.iconst 3, 1) := by decide +kernel
theorem dX5_layer_164 : decode cX5_layer 164 = .ok (.if_icmp .eq 8, 3) := by decide +kernel
theorem dX5_layer_167 : decode cX5_layer 167 = .ok (.iload_n 3, 1) := by decide +kernel
theorem dX5_layer_168 : decode cX5_layer 168 = .ok (.iconst 4, 1) := by decide +kernel
theorem dX5_layer_169 : decode cX5_layer 169 = .ok (.if_icmp .ne 20, 3) := by decide +kernel
theorem dX5_layer_172 : decode cX5_layer 172 = .ok (.aload_n 0, 1) := by decide +kernel
theorem dX5_layer_173 : decode cX5_layer 173 = .ok (.getfield 47, 3) := by decide +kernel
theorem dX5_layer_176 : decode cX5_layer 176 = .ok (.iload 5, 2) := by decide +kernel
theorem dX5_layer_178 : decode cX5_layer 178 = .ok (.iload_n 3, 1) := by decide +kernel
theorem dX5_layer_179 : decode cX5_layer 179 = .ok (.iconst 3, 1) := by decide +kernel
theorem dX5_layer_180 : decode cX5_layer 180 = .ok (.if_icmp .ne 7, 3) := by decide +kernel
theorem dX5_layer_183 : decode cX5_layer 183 = .ok (.iconst 1, 1) := by decide +kernel
theorem dX5_layer_184 : decode cX5_layer 184 = .ok (.goto 4, 3) := by decide +kernel
theorem dX5_layer_187 : decode cX5_layer 187 = .ok (.iconst 4, 1) := by decide +kernel
theorem dX5_layer_188 : decode cX5_layer 188 = .ok (.iastore, 1) := by decide +kernel
theorem dX5_layer_189 : decode cX5_layer 189 = .ok (.iload_n 1, 1) := by decide +kernel
theorem dX5_layer_190 : decode cX5_layer 190 = .ok (.iconst 4, 1) := by decide +kernel
theorem dX5_layer_191 : decode cX5_layer 191 = .ok (.if_icmp .ne 40, 3) := by decide +kernel
theorem dX5_layer_194 : decode cX5_layer 194 = .ok (.iload 6, 2) := by decide +kernel
theorem dX5_layer_196 : decode cX5_layer 196 = .ok (.ifCond .eq 35, 3) := by decide +kernel
theorem dX5_layer_199 : decode cX5_layer 199 = .ok (.iload_n 3, 1) := by decide +kernel
theorem dX5_layer_200 : decode cX5_layer 200 = .ok (.iconst 2, 1) := by decide +kernel
theorem dX5_layer_201 : decode cX5_layer 201 = .ok (.if_icmp .ne 30, 3) := by decide +kernel
theorem dX5_layer_204 : decode cX5_layer 204 = .ok (.aload_n 0, 1) := by decide +kernel
theorem dX5_layer_205 : decode cX5_layer 205 = .ok (.getfield 41, 3) := by decide +kernel
theorem dX5_layer_208 : decode cX5_layer 208 = .ok (.iload 5, 2) := by decide +kernel
theorem dX5_layer_210 : decode cX5_layer 210 = .ok (.iaload, 1) := by decide +kernel
theorem dX5_layer_211 : decode cX5_layer 211 = .ok (.aload_n 0, 1) := by decide +kernel
theorem dX5_layer_212 : decode cX5_layer 212 = .ok (.getfield 41, 3) := by decide +kernel
theorem dX5_layer_215 : decode cX5_layer 215 = .ok (.iload_n 2, 1) := by decide +kernel
theorem dX5_layer_216 : decode cX5_layer 216 = .ok (.iaload, 1) := by decide +kernel
theorem dX5_layer_217 : decode cX5_layer 217 = .ok (.if_icmp .ne 14, 3) := by decide +kernel
theorem dX5_layer_220 : decode cX5_layer 220 = .ok (.aload_n 0, 1) := by decide +kernel
theorem dX5_layer_221 : decode cX5_layer 221 = .ok (.getfield 47, 3) := by decide +kernel
theorem dX5_layer_224 : decode cX5_layer 224 = .ok (.iload 5, 2) := by decide +kernel
theorem dX5_layer_226 : decode cX5_layer 226 = .ok (.dup2, 1) := by decide +kernel
theorem dX5_layer_227 : decode cX5_layer 227 = .ok (.iaload, 1) := by decide +kernel
theorem dX5_layer_228 : decode cX5_layer 228 = .ok (.iconst 2, 1) := by decide +kernel
theorem dX5_layer_229 : decode cX5_layer 229 = .ok (.iadd, 1) := by decide +kernel
theorem dX5_layer_230 : decode cX5_layer 230 = .ok (.iastore, 1) := by decide +kernel
theorem dX5_layer_231 : decode cX5_layer 231 = .ok (.iload_n 1, 1) := by decide +kernel
theorem dX5_layer_232 : decode cX5_layer 232 = .ok (.iconst 5, 1) := by decide +kernel
theorem dX5_layer_233 : decode cX5_layer 233 = .ok (.if_icmp .ne 36, 3) := by decide +kernel
theorem dX5_layer_236 : decode cX5_layer 236 = .ok (.iload 6, 2) := by decide +kernel
theorem dX5_layer_238 : decode cX5_layer 238 = .ok (.ifCond .eq 31, 3) := by decide +kernel
theorem dX5_layer_241 : decode cX5_layer 241 = .ok (.iload_n 3, 1) := by decide +kernel
theorem dX5_layer_242 : decode cX5_layer 242 = .ok (.bipush 8, 2) := by decide +kernel
theorem dX5_layer_244 : decode cX5_layer 244 = .ok (.if_icmp .ne 25, 3) := by decide +kernel
theorem dX5_layer_247 : decode cX5_layer 247 = .ok (.aload_n 0, 1) := by decide +kernel
theorem dX5_layer_248 : decode cX5_layer 248 = .ok (.getfield 53, 3) := by decide +kernel
theorem dX5_layer_251 : decode cX5_layer 251 = .ok (.iload 5, 2) := by decide +kernel
theorem dX5_layer_253 : decode cX5_layer 253 = .ok (.iaload, 1) := by decide +kernel
theorem dX5_layer_254 : decode cX5_layer 254 = .ok (.iconst 3, 1) := by decide +kernel
theorem dX5_layer_255 : decode cX5_layer 255 = .ok (.if_icmp .lt 14, 3) := by decide +kernel
theorem dX5_layer_258 : decode cX5_layer 258 = .ok (.aload_n 0, 1) := by decide +kernel
theorem dX5_layer_259 : decode cX5_layer 259 = .ok (.getfield 47, 3) := by decide +kernel
theorem dX5_layer_262 : decode cX5_layer 262 = .ok (.iload 5, 2) := by decide +kernel
theorem dX5_layer_264 : decode cX5_layer 264 = .ok (.dup2, 1) := by decide +kernel
theorem dX5_layer_265 : decode cX5_layer 265 = .ok (.iaload, 1) := by decide +kernel
theorem dX5_layer_266 : decode cX5_layer 266 = .ok (.iconst 2, 1) := by decide +kernel
theorem dX5_layer_267 : decode cX5_layer 267 = .ok (.imul, 1) := by decide +kernel
theorem dX5_layer_268 : decode cX5_layer 268 = .ok (.iastore, 1) := by decide +kernel
theorem dX5_layer_269 : decode cX5_layer 269 = .ok (.iinc 5 1, 3) := by decide +kernel
theorem dX5_layer_272 : decode cX5_layer 272 = .ok (.goto (-217), 3) := by decide +kernel
theorem dX5_layer_275 : decode cX5_layer 275 = .ok (.return_, 1) := by decide +kernel
set_option maxRecDepth 20000 in
theorem ggX5_lays_X5_layer : GoodIn wsX5_lays wsX5_layer := goodIn_r _ [13, 5, 14, 2, 3, 1, 7, 4, 6, 8, 15, 16, 17, 12, 18, 19, 20, 21, 22, 23, 24, 25, 26, 27, 28, 29, 30, 31, 32, 33, 34, 35, 36, 37, 38, 39, 40, 41, 42, 43, 44, 45, 46] (by decide +kernel) (by decide +kernel)
set_option maxRecDepth 20000 in
theorem gX5_lays_X5_layer : GoodIn wsX5_lays (wsV RX5 76 RX5 yX5_layer wsX5_layer) := goodIn_app (goodIn_of _ (by decide +kernel)) ggX5_lays_X5_layer
theorem dX5_lays_0 : decode cX5_lays 0 = .ok (.iconst 0, 1) := by decide +kernel
theorem dX5_lays_1 : decode cX5_lays 1 = .ok (.istore_n 2, 1) := by decide +kernel
theorem dX5_lays_2 : decode cX5_lays 2 = .ok (.iload_n 2, 1) := by decide +kernel
theorem dX5_lays_3 : decode cX5_lays 3 = .ok (.aload_n 0, 1) := by decide +kernel
theorem dX5_lays_4 : decode cX5_lays 4 = .ok (.getfield 66, 3) := by decide +kernel
theorem dX5_lays_7 : decode cX5_lays 7 = .ok (.if_icmp .ge 89, 3) := by decide +kernel
theorem dX5_lays_10 : decode cX5_lays 10 = .ok (.aload_n 0, 1) := by decide +kernel
theorem dX5_lays_11 : decode cX5_lays 11 = .ok (.getfield 41, 3) := by decide +kernel
theorem dX5_lays_14 : decode cX5_lays 14 = .ok (.iload_n 2, 1) := by decide +kernel
theorem dX5_lays_15 : decode cX5_lays 15 = .ok (.aload_n 0, 1) := by decide +kernel
theorem dX5_lays_16 : decode cX5_lays 16 = .ok (.getfield 16, 3) := by decide +kernel
theorem dX5_lays_19 : decode cX5_lays 19 = .ok (.iload_n 2, 1) := by decide +kernel
theorem dX5_lays_20 : decode cX5_lays 20 = .ok (.iaload, 1) := by decide +kernel
theorem dX5_lays_21 : decode cX5_lays 21 = .ok (.iastore, 1) := by decide +kernel
theorem dX5_lays_22 : decode cX5_lays 22 = .ok (.aload_n 0, 1) := by decide +kernel
theorem dX5_lays_23 : decode cX5_lays 23 = .ok (.getfield 44, 3) := by decide +kernel
theorem dX5_lays_26 : decode cX5_lays 26 = .ok (.iload_n 2, 1) := by decide +kernel
theorem dX5_lays_27 : decode cX5_lays 27 = .ok (.aload_n 0, 1) := by decide +kernel
theorem dX5_lays_28 : decode cX5_lays 28 = .ok (.getfield 13, 3) := by decide +kernel
theorem dX5_lays_31 : decode cX5_lays 31 = .ok (.iload_n 2, 1) := by decide +kernel
theorem dX5_lays_32 : decode cX5_lays 32 = .ok (.iaload, 1) := by decide +kernel
theorem dX5_lays_33 : decode cX5_lays 33 = .ok (.ifCond .ne 7, 3) := by decide +kernel
theorem dX5_lays_36 : decode cX5_lays 36 = .ok (.iconst 1, 1) := by decide +kernel
theorem dX5_lays_37 : decode cX5_lays 37 = .ok (.goto 18, 3) := by decide +kernel
theorem dX5_lays_40 : decode cX5_lays 40 = .ok (.aload_n 0, 1) := by decide +kernel
theorem dX5_lays_41 : decode cX5_lays 41 = .ok (.getfield 13, 3) := by decide +kernel
theorem dX5_lays_44 : decode cX5_lays 44 = .ok (.iload_n 2, 1) := by decide +kernel
theorem dX5_lays_45 : decode cX5_lays 45 = .ok (.iaload, 1) := by decide +kernel
theorem dX5_lays_46 : decode cX5_lays 46 = .ok (.iconst 1, 1) := by decide +kernel
theorem dX5_lays_47 : decode cX5_lays 47 = .ok (.if_icmp .ne 7, 3) := by decide +kernel
theorem dX5_lays_50 : decode cX5_lays 50 = .ok (.iconst 2, 1) := by decide +kernel
theorem dX5_lays_51 : decode cX5_lays 51 = .ok (.goto 4, 3) := by decide +kernel
theorem dX5_lays_54 : decode cX5_lays 54 = .ok (.iconst 4, 1) := by decide +kernel
theorem dX5_lays_55 : decode cX5_lays 55 = .ok (.iastore, 1) := by decide +kernel
theorem dX5_lays_56 : decode cX5_lays 56 = .ok (.aload_n 0, 1) := by decide +kernel
theorem dX5_lays_57 : decode cX5_lays 57 = .ok (.getfield 47, 3) := by decide +kernel
theorem dX5_lays_60 : decode cX5_lays 60 = .ok (.iload_n 2, 1) := by decide +kernel
theorem dX5_lays_61 : decode cX5_lays 61 = .ok (.aload_n 0, 1) := by decide +kernel
theorem dX5_lays_62 : decode cX5_lays 62 = .ok (.getfield 13, 3) := by decide +kernel
theorem dX5_lays_65 : decode cX5_lays 65 = .ok (.iload_n 2, 1) := by decide +kernel
theorem dX5_lays_66 : decode cX5_lays 66 = .ok (.iaload, 1) := by decide +kernel
theorem dX5_lays_67 : decode cX5_lays 67 = .ok (.ifCond .ne 7, 3) := by decide +kernel
theorem dX5_lays_70 : decode cX5_lays 70 = .ok (.iconst 2, 1) := by decide +kernel
theorem dX5_lays_71 : decode cX5_lays 71 = .ok (.goto 18, 3) := by decide +kernel
theorem dX5_lays_74 : decode cX5_lays 74 = .ok (.aload_n 0, 1) := by decide +kernel
theorem dX5_lays_75 : decode cX5_lays 75 = .ok (.getfield 13, 3) := by decide +kernel
theorem dX5_lays_78 : decode cX5_lays 78 = .ok (.iload_n 2, 1) := by decide +kernel
theorem dX5_lays_79 : decode cX5_lays 79 = .ok (.iaload, 1) := by decide +kernel
theorem dX5_lays_80 : decode cX5_lays 80 = .ok (.iconst 1, 1) := by decide +kernel
theorem dX5_lays_81 : decode cX5_lays 81 = .ok (.if_icmp .ne 7, 3) := by decide +kernel
theorem dX5_lays_84 : decode cX5_lays 84 = .ok (.iconst 1, 1) := by decide +kernel
theorem dX5_lays_85 : decode cX5_lays 85 = .ok (.goto 4, 3) := by decide +kernel
theorem dX5_lays_88 : decode cX5_lays 88 = .ok (.iconst 0, 1) := by decide +kernel
theorem dX5_lays_89 : decode cX5_lays 89 = .ok (.iastore, 1) := by decide +kernel
theorem dX5_lays_90 : decode cX5_lays 90 = .ok (.iinc 2 1, 3) := by decide +kernel
theorem dX5_lays_93 : decode cX5_lays 93 = .ok (.goto (-91), 3) := by decide +kernel
theorem dX5_lays_96 : decode cX5_lays 96 = .ok (.iconst 1, 1) := by decide +kernel
theorem dX5_lays_97 : decode cX5_lays 97 = .ok (.istore_n 2, 1) := by decide +kernel
theorem dX5_lays_98 : decode cX5_lays 98 = .ok (.iload_n 2, 1) := by decide +kernel
theorem dX5_lays_99 : decode cX5_lays 99 = .ok (.iload_n 1, 1) := by decide +kernel
theorem dX5_lays_100 : decode cX5_lays 100 = .ok (.if_icmp .gt 71, 3) := by decide +kernel
end
section
theorem dX5_lays_103 : decode cX5_lays 103 = .ok (.iconst 0, 1) := by decide +kernel
theorem dX5_lays_104 : decode cX5_lays 104 = .ok (.istore_n 3, 1) := by decide +kernel
theorem dX5_lays_105 : decode cX5_lays 105 = .ok (.iload_n 3, 1) := by decide +kernel
theorem dX5_lays_106 : decode cX5_lays 106 = .ok (.aload_n 0, 1) := by decide +kernel
theorem dX5_lays_107 : decode cX5_lays 107 = .ok (.getfield 66, 3) := by decide +kernel
theorem dX5_lays_110 : decode cX5_lays 110 = .ok (.if_icmp .ge 33, 3) := by decide +kernel
theorem dX5_lays_113 : decode cX5_lays 113 = .ok (.aload_n 0, 1) := by decide +kernel
theorem dX5_lays_114 : decode cX5_lays 114 = .ok (.getfield 50, 3) := by decide +kernel
theorem dX5_lays_117 : decode cX5_lays 117 = .ok (.iload_n 3, 1) := by decide +kernel
theorem dX5_lays_118 : decode cX5_lays 118 = .ok (.aload_n 0, 1) := by decide +kernel
theorem dX5_lays_119 : decode cX5_lays 119 = .ok (.getfield 44, 3) := by decide +kernel
theorem dX5_lays_122 : decode cX5_lays 122 = .ok (.iload_n 3, 1) := by decide +kernel
theorem dX5_lays_123 : decode cX5_lays 123 = .ok (.iaload, 1) := by decide +kernel
theorem dX5_lays_124 : decode cX5_lays 124 = .ok (.iastore, 1) := by decide +kernel
theorem dX5_lays_125 : decode cX5_lays 125 = .ok (.aload_n 0, 1) := by decide +kernel
theorem dX5_lays_126 : decode cX5_lays 126 = .ok (.getfield 53, 3) := by decide +kernel
theorem dX5_lays_129 : decode cX5_lays 129 = .ok (.iload_n 3, 1) := by decide +kernel
theorem dX5_lays_130 : decode cX5_lays 130 = .ok (.aload_n 0, 1) := by decide +kernel
theorem dX5_lays_131 : decode cX5_lays 131 = .ok (.getfield 47, 3) := by decide +kernel
theorem dX5_lays_134 : decode cX5_lays 134 = .ok (.iload_n 3, 1) := by decide +kernel
theorem dX5_lays_135 : decode cX5_lays 135 = .ok (.iaload, 1) := by decide +kernel
theorem dX5_lays_136 : decode cX5_lays 136 = .ok (.iastore, 1) := by decide +kernel
theorem dX5_lays_137 : decode cX5_lays 137 = .ok (.iinc 3 1, 3) := by decide +kernel
theorem dX5_lays_140 : decode cX5_lays 140 = .ok (.goto (-35), 3) := by decide +kernel
theorem dX5_lays_143 : decode cX5_lays 143 = .ok (.iconst 0, 1) := by decide +kernel
theorem dX5_lays_144 : decode cX5_lays 144 = .ok (.istore_n 3, 1) := by decide +kernel
theorem dX5_lays_145 : decode cX5_lays 145 = .ok (.iload_n 3, 1) := by decide +kernel
theorem dX5_lays_146 : decode cX5_lays 146 = .ok (.aload_n 0, 1) := by decide +kernel
theorem dX5_lays_147 : decode cX5_lays 147 = .ok (.getfield 66, 3) := by decide +kernel
theorem dX5_lays_150 : decode cX5_lays 150 = .ok (.if_icmp .ge 15, 3) := by decide +kernel
theorem dX5_lays_153 : decode cX5_lays 153 = .ok (.aload_n 0, 1) := by decide +kernel
theorem dX5_lays_154 : decode cX5_lays 154 = .ok (.iload_n 2, 1) := by decide +kernel
theorem dX5_lays_155 : decode cX5_lays 155 = .ok (.iload_n 3, 1) := by decide +kernel
theorem dX5_lays_156 : decode cX5_lays 156 = .ok (.invokevirtual 76, 3) := by decide +kernel
theorem dX5_lays_159 : decode cX5_lays 159 = .ok (.iinc 3 1, 3) := by decide +kernel
theorem dX5_lays_162 : decode cX5_lays 162 = .ok (.goto (-17), 3) := by decide +kernel
theorem dX5_lays_165 : decode cX5_lays 165 = .ok (.iinc 2 1, 3) := by decide +kernel
theorem dX5_lays_168 : decode cX5_lays 168 = .ok (.goto (-70), 3) := by decide +kernel
theorem dX5_lays_171 : decode cX5_lays 171 = .ok (.return_, 1) := by decide +kernel
theorem dX5_triggers_0 : decode cX5_triggers 0 = .ok (.aload_n 0, 1) := by decide +kernel
theorem dX5_triggers_1 : decode cX5_triggers 1 = .ok (.getfield 69, 3) := by decide +kernel
theorem dX5_triggers_4 : decode cX5_triggers 4 = .ok (.bipush 12, 2) := by decide +kernel
theorem dX5_triggers_6 : decode cX5_triggers 6 = .ok (.if_icmp .ge 76, 3) := by decide +kernel
theorem dX5_triggers_9 : decode cX5_triggers 9 = .ok (.aload_n 0, 1) := by decide +kernel
theorem dX5_triggers_10 : decode cX5_triggers 10 = .ok (.getfield 25, 3) := by decide +kernel
theorem dX5_triggers_13 : decode cX5_triggers 13 = .ok (.aload_n 0, 1) := by decide +kernel
theorem dX5_triggers_14 : decode cX5_triggers 14 = .ok (.getfield 69, 3) := by decide +kernel
theorem dX5_triggers_17 : decode cX5_triggers 17 = .ok (.iload_n 1, 1) := by decide +kernel
theorem dX5_triggers_18 : decode cX5_triggers 18 = .ok (.iastore, 1) := by decide +kernel
theorem dX5_triggers_19 : decode cX5_triggers 19 = .ok (.aload_n 0, 1) := by decide +kernel
theorem dX5_triggers_20 : decode cX5_triggers 20 = .ok (.getfield 28, 3) := by decide +kernel
theorem dX5_triggers_23 : decode cX5_triggers 23 = .ok (.aload_n 0, 1) := by decide +kernel
theorem dX5_triggers_24 : decode cX5_triggers 24 = .ok (.getfield 69, 3) := by decide +kernel
theorem dX5_triggers_27 : decode cX5_triggers 27 = .ok (.iconst 1, 1) := by decide +kernel
theorem dX5_triggers_28 : decode cX5_triggers 28 = .ok (.bastore, 1) := by decide +kernel
theorem dX5_triggers_29 : decode cX5_triggers 29 = .ok (.aload_n 0, 1) := by decide +kernel
theorem dX5_triggers_30 : decode cX5_triggers 30 = .ok (.getfield 32, 3) := by decide +kernel
theorem dX5_triggers_33 : decode cX5_triggers 33 = .ok (.aload_n 0, 1) := by decide +kernel
theorem dX5_triggers_34 : decode cX5_triggers 34 = .ok (.getfield 69, 3) := by decide +kernel
theorem dX5_triggers_37 : decode cX5_triggers 37 = .ok (.iload_n 2, 1) := by decide +kernel
theorem dX5_triggers_38 : decode cX5_triggers 38 = .ok (.iastore, 1) := by decide +kernel
theorem dX5_triggers_39 : decode cX5_triggers 39 = .ok (.aload_n 0, 1) := by decide +kernel
theorem dX5_triggers_40 : decode cX5_triggers 40 = .ok (.dup, 1) := by decide +kernel
theorem dX5_triggers_41 : decode cX5_triggers 41 = .ok (.getfield 80, 3) := by decide +kernel
theorem dX5_triggers_44 : decode cX5_triggers 44 = .ok (.iconst 1, 1) := by decide +kernel
theorem dX5_triggers_45 : decode cX5_triggers 45 = .ok (.iadd, 1) := by decide +kernel
theorem dX5_triggers_46 : decode cX5_triggers 46 = .ok (.putfield 80, 3) := by decide +kernel
theorem dX5_triggers_49 : decode cX5_triggers 49 = .ok (.aload_n 0, 1) := by decide +kernel
theorem dX5_triggers_50 : decode cX5_triggers 50 = .ok (.getfield 35, 3) := by decide +kernel
theorem dX5_triggers_53 : decode cX5_triggers 53 = .ok (.aload_n 0, 1) := by decide +kernel
theorem dX5_triggers_54 : decode cX5_triggers 54 = .ok (.getfield 69, 3) := by decide +kernel
theorem dX5_triggers_57 : decode cX5_triggers 57 = .ok (.aload_n 0, 1) := by decide +kernel
theorem dX5_triggers_58 : decode cX5_triggers 58 = .ok (.getfield 80, 3) := by decide +kernel
theorem dX5_triggers_61 : decode cX5_triggers 61 = .ok (.iastore, 1) := by decide +kernel
theorem dX5_triggers_62 : decode cX5_triggers 62 = .ok (.aload_n 0, 1) := by decide +kernel
theorem dX5_triggers_63 : decode cX5_triggers 63 = .ok (.getfield 38, 3) := by decide +kernel
theorem dX5_triggers_66 : decode cX5_triggers 66 = .ok (.aload_n 0, 1) := by decide +kernel
theorem dX5_triggers_67 : decode cX5_triggers 67 = .ok (.getfield 69, 3) := by decide +kernel
theorem dX5_triggers_70 : decode cX5_triggers 70 = .ok (.iconst 0, 1) := by decide +kernel
theorem dX5_triggers_71 : decode cX5_triggers 71 = .ok (.iastore, 1) := by decide +kernel
theorem dX5_triggers_72 : decode cX5_triggers 72 = .ok (.aload_n 0, 1) := by decide +kernel
theorem dX5_triggers_73 : decode cX5_triggers 73 = .ok (.dup, 1) := by decide +kernel
theorem dX5_triggers_74 : decode cX5_triggers 74 = .ok (.getfield 69, 3) := by decide +kernel
theorem dX5_triggers_77 : decode cX5_triggers 77 = .ok (.iconst 1, 1) := by decide +kernel
theorem dX5_triggers_78 : decode cX5_triggers 78 = .ok (.iadd, 1) := by decide +kernel
theorem dX5_triggers_79 : decode cX5_triggers 79 = .ok (.putfield 69, 3) := by decide +kernel
theorem dX5_triggers_82 : decode cX5_triggers 82 = .ok (.return_, 1) := by decide +kernel
set_option maxRecDepth 20000 in
theorem ggX5_triggersOf_X5_lays : GoodIn wsX5_triggersOf wsX5_lays := goodIn_r _ [9, 2, 3, 10, 11, 4, 12, 13, 14, 15, 16, 17, 8, 18, 19, 20, 21, 22, 23, 24, 36, 37, 38, 39, 40, 41, 42, 43, 44, 45, 46, 47, 48, 49, 50, 51, 52, 53, 54, 55, 56, 57, 58, 59, 60, 61, 62] (by decide +kernel) (by decide +kernel)
set_option maxRecDepth 20000 in
theorem gX5_triggersOf_X5_lays : GoodIn wsX5_triggersOf (wsV RX5 83 RX5 yX5_lays wsX5_lays) := goodIn_app (goodIn_of _ (by decide +kernel)) ggX5_triggersOf_X5_lays
set_option maxRecDepth 20000 in
theorem ggX5_triggersOf_X5_triggers : GoodIn wsX5_triggersOf wsX5_triggers := goodIn_r _ [28, 29, 30, 31, 32, 33, 34, 35, 36, 37, 38, 39, 40, 41, 42, 43, 44, 45, 46, 47, 48, 49, 50, 51, 52, 53, 54, 55, 56, 57, 58, 59, 60, 61, 62] (by decide +kernel) (by decide +kernel)
set_option maxRecDepth 20000 in
theorem gX5_triggersOf_X5_triggers : GoodIn wsX5_triggersOf (wsV RX5 90 RX5 yX5_triggers wsX5_triggers) := goodIn_app (goodIn_of _ (by decide +kernel)) ggX5_triggersOf_X5_triggers
theorem dX5_triggersOf_0 : decode cX5_triggersOf 0 = .ok (.aload_n 0, 1) := by decide +kernel
theorem dX5_triggersOf_1 : decode cX5_triggersOf 1 = .ok (.iconst 5, 1) := by decide +kernel
theorem dX5_triggersOf_2 : decode cX5_triggersOf 2 = .ok (.invokevirtual 83, 3) := by decide +kernel
theorem dX5_triggersOf_5 : decode cX5_triggersOf 5 = .ok (.iconst 0, 1) := by decide +kernel
theorem dX5_triggersOf_6 : decode cX5_triggersOf 6 = .ok (.istore 4, 2) := by decide +kernel
theorem dX5_triggersOf_8 : decode cX5_triggersOf 8 = .ok (.iload 4, 2) := by decide +kernel
theorem dX5_triggersOf_10 : decode cX5_triggersOf 10 = .ok (.iconst 3, 1) := by decide +kernel
theorem dX5_triggersOf_11 : decode cX5_triggersOf 11 = .ok (.if_icmp .ge 91, 3) := by decide +kernel
theorem dX5_triggersOf_14 : decode cX5_triggersOf 14 = .ok (.aload_n 0, 1) := by decide +kernel
theorem dX5_triggersOf_15 : decode cX5_triggersOf 15 = .ok (.getfield 87, 3) := by decide +kernel
theorem dX5_triggersOf_18 : decode cX5_triggersOf 18 = .ok (.iload 4, 2) := by decide +kernel
theorem dX5_triggersOf_20 : decode cX5_triggersOf 20 = .ok (.iadd, 1) := by decide +kernel
theorem dX5_triggersOf_21 : decode cX5_triggersOf 21 = .ok (.iconst 3, 1) := by decide +kernel
theorem dX5_triggersOf_22 : decode cX5_triggersOf 22 = .ok (.irem, 1) := by decide +kernel
theorem dX5_triggersOf_23 : decode cX5_triggersOf 23 = .ok (.istore 5, 2) := by decide +kernel
theorem dX5_triggersOf_25 : decode cX5_triggersOf 25 = .ok (.iconst 0, 1) := by decide +kernel
theorem dX5_triggersOf_26 : decode cX5_triggersOf 26 = .ok (.istore 6, 2) := by decide +kernel
theorem dX5_triggersOf_28 : decode cX5_triggersOf 28 = .ok (.iload 6, 2) := by decide +kernel
theorem dX5_triggersOf_30 : decode cX5_triggersOf 30 = .ok (.aload_n 0, 1) := by decide +kernel
theorem dX5_triggersOf_31 : decode cX5_triggersOf 31 = .ok (.getfield 66, 3) := by decide +kernel
theorem dX5_triggersOf_34 : decode cX5_triggersOf 34 = .ok (.if_icmp .ge 62, 3) := by decide +kernel
theorem dX5_triggersOf_37 : decode cX5_triggersOf 37 = .ok (.iload 6, 2) := by decide +kernel
theorem dX5_triggersOf_39 : decode cX5_triggersOf 39 = .ok (.iload_n 3, 1) := by decide +kernel
theorem dX5_triggersOf_40 : decode cX5_triggersOf 40 = .ok (.if_icmp .eq 50, 3) := by decide +kernel
theorem dX5_triggersOf_43 : decode cX5_triggersOf 43 = .ok (.aload_n 0, 1) := by decide +kernel
theorem dX5_triggersOf_44 : decode cX5_triggersOf 44 = .ok (.getfield 41, 3) := by decide +kernel
theorem dX5_triggersOf_47 : decode cX5_triggersOf 47 = .ok (.iload 6, 2) := by decide +kernel
theorem dX5_triggersOf_49 : decode cX5_triggersOf 49 = .ok (.iaload, 1) := by decide +kernel
theorem dX5_triggersOf_50 : decode cX5_triggersOf 50 = .ok (.iload 5, 2) := by decide +kernel
theorem dX5_triggersOf_52 : decode cX5_triggersOf 52 = .ok (.if_icmp .ne 38, 3) := by decide +kernel
theorem dX5_triggersOf_55 : decode cX5_triggersOf 55 = .ok (.aload_n 0, 1) := by decide +kernel
theorem dX5_triggersOf_56 : decode cX5_triggersOf 56 = .ok (.getfield 13, 3) := by decide +kernel
theorem dX5_triggersOf_59 : decode cX5_triggersOf 59 = .ok (.iload 6, 2) := by decide +kernel
theorem dX5_triggersOf_61 : decode cX5_triggersOf 61 = .ok (.iaload, 1) := by decide +kernel
theorem dX5_triggersOf_62 : decode cX5_triggersOf 62 = .ok (.iload_n 1, 1) := by decide +kernel
theorem dX5_triggersOf_63 : decode cX5_triggersOf 63 = .ok (.if_icmp .eq 14, 3) := by decide +kernel
theorem dX5_triggersOf_66 : decode cX5_triggersOf 66 = .ok (.aload_n 0, 1) := by decide +kernel
theorem dX5_triggersOf_67 : decode cX5_triggersOf 67 = .ok (.getfield 13, 3) := by decide +kernel
theorem dX5_triggersOf_70 : decode cX5_triggersOf 70 = .ok (.iload 6, 2) := by decide +kernel
theorem dX5_triggersOf_72 : decode cX5_triggersOf 72 = .ok (.iaload, 1) := by decide +kernel
theorem dX5_triggersOf_73 : decode cX5_triggersOf 73 = .ok (.iload_n 2, 1) := by decide +kernel
theorem dX5_triggersOf_74 : decode cX5_triggersOf 74 = .ok (.if_icmp .ne 16, 3) := by decide +kernel
theorem dX5_triggersOf_77 : decode cX5_triggersOf 77 = .ok (.aload_n 0, 1) := by decide +kernel
theorem dX5_triggersOf_78 : decode cX5_triggersOf 78 = .ok (.aload_n 0, 1) := by decide +kernel
theorem dX5_triggersOf_79 : decode cX5_triggersOf 79 = .ok (.getfield 13, 3) := by decide +kernel
theorem dX5_triggersOf_82 : decode cX5_triggersOf 82 = .ok (.iload 6, 2) := by decide +kernel
theorem dX5_triggersOf_84 : decode cX5_triggersOf 84 = .ok (.iaload, 1) := by decide +kernel
theorem dX5_triggersOf_85 : decode cX5_triggersOf 85 = .ok (.iload 5, 2) := by decide +kernel
theorem dX5_triggersOf_87 : decode cX5_triggersOf 87 = .ok (.invokevirtual 90, 3) := by decide +kernel
theorem dX5_triggersOf_90 : decode cX5_triggersOf 90 = .ok (.iinc 6 1, 3) := by decide +kernel
theorem dX5_triggersOf_93 : decode cX5_triggersOf 93 = .ok (.goto (-65), 3) := by decide +kernel
theorem dX5_triggersOf_96 : decode cX5_triggersOf 96 = .ok (.iinc 4 1, 3) := by decide +kernel
theorem dX5_triggersOf_99 : decode cX5_triggersOf 99 = .ok (.goto (-91), 3) := by decide +kernel
theorem dX5_triggersOf_102 : decode cX5_triggersOf 102 = .ok (.return_, 1) := by decide +kernel
set_option maxRecDepth 20000 in
theorem ggX5_enters_X5_triggersOf : GoodIn wsX5_enters wsX5_triggersOf := goodIn_r _ [11, 12, 1, 13, 2, 14, 15, 16, 10, 17, 3, 18, 19, 20, 21, 22, 23, 24, 25, 6, 26, 27, 28, 29, 5, 30, 31, 32, 33, 34, 35, 36, 37, 4, 38, 39, 40, 41, 42, 43, 44, 45, 46, 47, 48, 49, 50, 51, 52, 53, 54, 55, 56, 57, 58, 59, 60, 61, 62, 63, 64, 65, 66] (by decide +kernel) (by decide +kernel)
set_option maxRecDepth 20000 in
theorem gX5_enters_X5_triggersOf : GoodIn wsX5_enters (wsV RX5 93 RX5 yX5_triggersOf wsX5_triggersOf) := goodIn_app (goodIn_of _ (by decide +kernel)) ggX5_enters_X5_triggersOf
theorem dX5_enters_0 : decode cX5_enters 0 = .ok (.aload_n 0, 1) := by decide +kernel
theorem dX5_enters_1 : decode cX5_enters 1 = .ok (.getfield 66, 3) := by decide +kernel
theorem dX5_enters_4 : decode cX5_enters 4 = .ok (.bipush 10, 2) := by decide +kernel
theorem dX5_enters_6 : decode cX5_enters 6 = .ok (.if_icmp .ge 80, 3) := by decide +kernel
theorem dX5_enters_9 : decode cX5_enters 9 = .ok (.aload_n 0, 1) := by decide +kernel
theorem dX5_enters_10 : decode cX5_enters 10 = .ok (.getfield 13, 3) := by decide +kernel
theorem dX5_enters_13 : decode cX5_enters 13 = .ok (.aload_n 0, 1) := by decide +kernel
theorem dX5_enters_14 : decode cX5_enters 14 = .ok (.getfield 66, 3) := by decide +kernel
theorem dX5_enters_17 : decode cX5_enters 17 = .ok (.iload_n 1, 1) := by decide +kernel
theorem dX5_enters_18 : decode cX5_enters 18 = .ok (.iastore, 1) := by decide +kernel
theorem dX5_enters_19 : decode cX5_enters 19 = .ok (.aload_n 0, 1) := by decide +kernel
theorem dX5_enters_20 : decode cX5_enters 20 = .ok (.getfield 16, 3) := by decide +kernel
theorem dX5_enters_23 : decode cX5_enters 23 = .ok (.aload_n 0, 1) := by decide +kernel
theorem dX5_enters_24 : decode cX5_enters 24 = .ok (.getfield 66, 3) := by decide +kernel
theorem dX5_enters_27 : decode cX5_enters 27 = .ok (.iload_n 2, 1) := by decide +kernel
theorem dX5_enters_28 : decode cX5_enters 28 = .ok (.iastore, 1) := by decide +kernel
theorem dX5_enters_29 : decode cX5_enters 29 = .ok (.aload_n 0, 1) := by decide +kernel
theorem dX5_enters_30 : decode cX5_enters 30 = .ok (.dup, 1) := by decide +kernel
theorem dX5_enters_31 : decode cX5_enters 31 = .ok (.getfield 80, 3) := by decide +kernel
theorem dX5_enters_34 : decode cX5_enters 34 = .ok (.iconst 1, 1) := by decide +kernel
theorem dX5_enters_35 : decode cX5_enters 35 = .ok (.iadd, 1) := by decide +kernel
theorem dX5_enters_36 : decode cX5_enters 36 = .ok (.putfield 80, 3) := by decide +kernel
theorem dX5_enters_39 : decode cX5_enters 39 = .ok (.aload_n 0, 1) := by decide +kernel
theorem dX5_enters_40 : decode cX5_enters 40 = .ok (.getfield 19, 3) := by decide +kernel
theorem dX5_enters_43 : decode cX5_enters 43 = .ok (.aload_n 0, 1) := by decide +kernel
theorem dX5_enters_44 : decode cX5_enters 44 = .ok (.getfield 66, 3) := by decide +kernel
theorem dX5_enters_47 : decode cX5_enters 47 = .ok (.aload_n 0, 1) := by decide +kernel
theorem dX5_enters_48 : decode cX5_enters 48 = .ok (.getfield 80, 3) := by decide +kernel
theorem dX5_enters_51 : decode cX5_enters 51 = .ok (.iastore, 1) := by decide +kernel
theorem dX5_enters_52 : decode cX5_enters 52 = .ok (.aload_n 0, 1) := by decide +kernel
theorem dX5_enters_53 : decode cX5_enters 53 = .ok (.getfield 22, 3) := by decide +kernel
theorem dX5_enters_56 : decode cX5_enters 56 = .ok (.aload_n 0, 1) := by decide +kernel
theorem dX5_enters_57 : decode cX5_enters 57 = .ok (.getfield 66, 3) := by decide +kernel
theorem dX5_enters_60 : decode cX5_enters 60 = .ok (.iload_n 3, 1) := by decide +kernel
theorem dX5_enters_61 : decode cX5_enters 61 = .ok (.iastore, 1) := by decide +kernel
theorem dX5_enters_62 : decode cX5_enters 62 = .ok (.aload_n 0, 1) := by decide +kernel
theorem dX5_enters_63 : decode cX5_enters 63 = .ok (.dup, 1) := by decide +kernel
theorem dX5_enters_64 : decode cX5_enters 64 = .ok (.getfield 66, 3) := by decide +kernel
theorem dX5_enters_67 : decode cX5_enters 67 = .ok (.iconst 1, 1) := by decide +kernel
theorem dX5_enters_68 : decode cX5_enters 68 = .ok (.iadd, 1) := by decide +kernel
theorem dX5_enters_69 : decode cX5_enters 69 = .ok (.putfield 66, 3) := by decide +kernel
theorem dX5_enters_72 : decode cX5_enters 72 = .ok (.aload_n 0, 1) := by decide +kernel
theorem dX5_enters_73 : decode cX5_enters 73 = .ok (.bipush 9, 2) := by decide +kernel
theorem dX5_enters_75 : decode cX5_enters 75 = .ok (.bipush 11, 2) := by decide +kernel
theorem dX5_enters_77 : decode cX5_enters 77 = .ok (.aload_n 0, 1) := by decide +kernel
theorem dX5_enters_78 : decode cX5_enters 78 = .ok (.getfield 66, 3) := by decide +kernel
theorem dX5_enters_81 : decode cX5_enters 81 = .ok (.iconst 1, 1) := by decide +kernel
theorem dX5_enters_82 : decode cX5_enters 82 = .ok (.isub, 1) := by decide +kernel
theorem dX5_enters_83 : decode cX5_enters 83 = .ok (.invokevirtual 93, 3) := by decide +kernel
theorem dX5_enters_86 : decode cX5_enters 86 = .ok (.return_, 1) := by decide +kernel
set_option maxRecDepth 20000 in
theorem ggX5_leaves_X5_triggersOf : GoodIn wsX5_leaves wsX5_triggersOf := goodIn_r _ [10, 11, 1, 12, 2, 13, 14, 15, 9, 16, 3, 17, 18, 19, 20, 21, 22, 23, 24, 5, 25, 26, 27, 28, 4, 29, 30, 31, 32, 33, 34, 35, 36, 37, 38, 39, 40, 41, 42, 43, 44, 45, 46, 47, 48, 49, 50, 51, 52, 53, 54, 55, 56, 57, 58, 59, 60, 61, 62, 63, 64, 65, 66] (by decide +kernel) (by decide +kernel)
set_option maxRecDepth 20000 in
theorem gX5_leaves_X5_triggersOf : GoodIn wsX5_leaves (wsV RX5 93 RX5 yX5_triggersOf wsX5_triggersOf) := goodIn_app (goodIn_of _ (by decide +kernel)) ggX5_leaves_X5_triggersOf
theorem dX5_leaves_0 : decode cX5_leaves 0 = .ok (.aload_n 0, 1) := by decide +kernel
theorem dX5_leaves_1 : decode cX5_leaves 1 = .ok (.dup, 1) := by decide +kernel
theorem dX5_leaves_2 : decode cX5_leaves 2 = .ok (.getfield 66, 3) := by decide +kernel
theorem dX5_leaves_5 : decode cX5_leaves 5 = .ok (.iconst 1, 1) := by decide +kernel
theorem dX5_leaves_6 : decode cX5_leaves 6 = .ok (.isub, 1) := by decide +kernel
theorem dX5_leaves_7 : decode cX5_leaves 7 = .ok (.putfield 66, 3) := by decide +kernel
theorem dX5_leaves_10 : decode cX5_leaves 10 = .ok (.iload_n 1, 1) := by decide +kernel
theorem dX5_leaves_11 : decode cX5_leaves 11 = .ok (.istore_n 2, 1) := by decide +kernel
theorem dX5_leaves_12 : decode cX5_leaves 12 = .ok (.iload_n 2, 1) := by decide +kernel
theorem dX5_leaves_13 : decode cX5_leaves 13 = .ok (.aload_n 0, 1) := by decide +kernel
theorem dX5_leaves_14 : decode cX5_leaves 14 = .ok (.getfield 66, 3) := by decide +kernel
theorem dX5_leaves_17 : decode cX5_leaves 17 = .ok (.if_icmp .ge 65, 3) := by decide +kernel
theorem dX5_leaves_20 : decode cX5_leaves 20 = .ok (.aload_n 0, 1) := by decide +kernel
theorem dX5_leaves_21 : decode cX5_leaves 21 = .ok (.getfield 13, 3) := by decide +kernel
theorem dX5_leaves_24 : decode cX5_leaves 24 = .ok (.iload_n 2, 1) := by decide +kernel
theorem dX5_leaves_25 : decode cX5_leaves 25 = .ok (.aload_n 0, 1) := by decide +kernel
theorem dX5_leaves_26 : decode cX5_leaves 26 = .ok (.getfield 13, 3) := by decide +kernel
theorem dX5_leaves_29 : decode cX5_leaves 29 = .ok (.iload_n 2, 1) := by decide +kernel
theorem dX5_leaves_30 : decode cX5_leaves 30 = .ok (.iconst 1, 1) := by decide +kernel
theorem dX5_leaves_31 : decode cX5_leaves 31 = .ok (.iadd, 1) := by decide +kernel
theorem dX5_leaves_32 : decode cX5_leaves 32 = .ok (.iaload, 1) := by decide +kernel
theorem dX5_leaves_33 : decode cX5_leaves 33 = .ok (.iastore, 1) := by decide +kernel
theorem dX5_leaves_34 : decode cX5_leaves 34 = .ok (.aload_n 0, 1) := by decide +kernel
theorem dX5_leaves_35 : decode cX5_leaves 35 = .ok (.getfield 16, 3) := by decide +kernel
theorem dX5_leaves_38 : decode cX5_leaves 38 = .ok (.iload_n 2, 1) := by decide +kernel
theorem dX5_leaves_39 : decode cX5_leaves 39 = .ok (.aload_n 0, 1) := by decide +kernel
theorem dX5_leaves_40 : decode cX5_leaves 40 = .ok (.getfield 16, 3) := by decide +kernel
theorem dX5_leaves_43 : decode cX5_leaves 43 = .ok (.iload_n 2, 1) := by decide +kernel
theorem dX5_leaves_44 : decode cX5_leaves 44 = .ok (.iconst 1, 1) := by decide +kernel
theorem dX5_leaves_45 : decode cX5_leaves 45 = .ok (.iadd, 1) := by decide +kernel
theorem dX5_leaves_46 : decode cX5_leaves 46 = .ok (.iaload, 1) := by decide +kernel
theorem dX5_leaves_47 : decode cX5_leaves 47 = .ok (.iastore, 1) := by decide +kernel
theorem dX5_leaves_48 : decode cX5_leaves 48 = .ok (.aload_n 0, 1) := by decide +kernel
theorem dX5_leaves_49 : decode cX5_leaves 49 = .ok (.getfield 19, 3) := by decide +kernel
theorem dX5_leaves_52 : decode cX5_leaves 52 = .ok (.iload_n 2, 1) := by decide +kernel
theorem dX5_leaves_53 : decode cX5_leaves 53 = .ok (.aload_n 0, 1) := by decide +kernel
theorem dX5_leaves_54 : decode cX5_leaves 54 = .ok (.getfield 19, 3) := by decide +kernel
theorem dX5_leaves_57 : decode cX5_leaves 57 = .ok (.iload_n 2, 1) := by decide +kernel
theorem dX5_leaves_58 : decode cX5_leaves 58 = .ok (.iconst 1, 1) := by decide +kernel
theorem dX5_leaves_59 : decode cX5_leaves 59 = .ok (.iadd, 1) := by decide +kernel
theorem dX5_leaves_60 : decode cX5_leaves 60 = .ok (.iaload, 1) := by decide +kernel
theorem dX5_leaves_61 : decode cX5_leaves 61 = .ok (.iastore, 1) := by decide +kernel
theorem dX5_leaves_62 : decode cX5_leaves 62 = .ok (.aload_n 0, 1) := by decide +kernel
theorem dX5_leaves_63 : decode cX5_leaves 63 = .ok (.getfield 22, 3) := by decide +kernel
theorem dX5_leaves_66 : decode cX5_leaves 66 = .ok (.iload_n 2, 1) := by decide +kernel
theorem dX5_leaves_67 : decode cX5_leaves 67 = .ok (.aload_n 0, 1) := by decide +kernel
theorem dX5_leaves_68 : decode cX5_leaves 68 = .ok (.getfield 22, 3) := by decide +kernel
theorem dX5_leaves_71 : decode cX5_leaves 71 = .ok (.iload_n 2, 1) := by decide +kernel
theorem dX5_leaves_72 : decode cX5_leaves 72 = .ok (.iconst 1, 1) := by decide +kernel
theorem dX5_leaves_73 : decode cX5_leaves 73 = .ok (.iadd, 1) := by decide +kernel
theorem dX5_leaves_74 : decode cX5_leaves 74 = .ok (.iaload, 1) := by decide +kernel
theorem dX5_leaves_75 : decode cX5_leaves 75 = .ok (.iastore, 1) := by decide +kernel
theorem dX5_leaves_76 : decode cX5_leaves 76 = .ok (.iinc 2 1, 3) := by decide +kernel
theorem dX5_leaves_79 : decode cX5_leaves 79 = .ok (.goto (-67), 3) := by decide +kernel
theorem dX5_leaves_82 : decode cX5_leaves 82 = .ok (.aload_n 0, 1) := by decide +kernel
theorem dX5_leaves_83 : decode cX5_leaves 83 = .ok (.bipush 10, 2) := by decide +kernel
theorem dX5_leaves_85 : decode cX5_leaves 85 = .ok (.bipush 10, 2) := by decide +kernel
theorem dX5_leaves_87 : decode cX5_leaves 87 = .ok (.iconst (-1), 1) := by decide +kernel
theorem dX5_leaves_88 : decode cX5_leaves 88 = .ok (.invokevirtual 93, 3) := by decide +kernel
theorem dX5_leaves_91 : decode cX5_leaves 91 = .ok (.return_, 1) := by decide +kernel
set_option maxRecDepth 20000 in
theorem ggX5_begins_X5_lays : GoodIn wsX5_begins wsX5_lays := goodIn_r _ [13, 6, 8, 14, 15, 7, 16, 17, 18, 19, 20, 21, 12, 22, 23, 24, 25, 26, 27, 28, 40, 41, 42, 43, 44, 45, 46, 47, 48, 49, 50, 51, 52, 53, 54, 55, 56, 57, 58, 59, 60, 61, 62, 63, 64, 65, 66] (by decide +kernel) (by decide +kernel)
set_option maxRecDepth 20000 in
theorem gX5_begins_X5_lays : GoodIn wsX5_begins (wsV RX5 83 RX5 yX5_lays wsX5_lays) := goodIn_app (goodIn_of _ (by decide +kernel)) ggX5_begins_X5_lays
set_option maxRecDepth 20000 in
theorem ggX5_begins_X5_triggers : GoodIn wsX5_begins wsX5_triggers := goodIn_r _ [32, 33, 34, 35, 36, 37, 38, 39, 40, 41, 42, 43, 44, 45, 46, 47, 48, 49, 50, 51, 52, 53, 54, 55, 56, 57, 58, 59, 60, 61, 62, 63, 64, 65, 66] (by decide +kernel) (by decide +kernel)
set_option maxRecDepth 20000 in
theorem gX5_begins_X5_triggers : GoodIn wsX5_begins (wsV RX5 90 RX5 yX5_triggers wsX5_triggers) := goodIn_app (goodIn_of _ (by decide +kernel)) ggX5_begins_X5_triggers
theorem dX5_begins_0 : decode cX5_begins 0 = .ok (.aload_n 0, 1) := by decide +kernel
theorem dX5_begins_1 : decode cX5_begins 1 = .ok (.aload_n 0, 1) := by decide +kernel
theorem dX5_begins_2 : decode cX5_begins 2 = .ok (.getfield 87, 3) := by decide +kernel
theorem dX5_begins_5 : decode cX5_begins 5 = .ok (.iconst 1, 1) := by decide +kernel
theorem dX5_begins_6 : decode cX5_begins 6 = .ok (.iadd, 1) := by decide +kernel
theorem dX5_begins_7 : decode cX5_begins 7 = .ok (.iconst 3, 1) := by decide +kernel
theorem dX5_begins_8 : decode cX5_begins 8 = .ok (.irem, 1) := by decide +kernel
theorem dX5_begins_9 : decode cX5_begins 9 = .ok (.putfield 87, 3) := by decide +kernel
theorem dX5_begins_12 : decode cX5_begins 12 = .ok (.aload_n 0, 1) := by decide +kernel
theorem dX5_begins_13 : decode cX5_begins 13 = .ok (.aload_n 0, 1) := by decide +kernel
theorem dX5_begins_14 : decode cX5_begins 14 = .ok (.getfield 87, 3) := by decide +kernel
theorem dX5_begins_17 : decode cX5_begins 17 = .ok (.putfield 97, 3) := by decide +kernel
theorem dX5_begins_20 : decode cX5_begins 20 = .ok (.aload_n 0, 1) := by decide +kernel
theorem dX5_begins_21 : decode cX5_begins 21 = .ok (.dup, 1) := by decide +kernel
theorem dX5_begins_22 : decode cX5_begins 22 = .ok (.getfield 100, 3) := by decide +kernel
theorem dX5_begins_25 : decode cX5_begins 25 = .ok (.iconst 1, 1) := by decide +kernel
theorem dX5_begins_26 : decode cX5_begins 26 = .ok (.iadd, 1) := by decide +kernel
theorem dX5_begins_27 : decode cX5_begins 27 = .ok (.putfield 100, 3) := by decide +kernel
theorem dX5_begins_30 : decode cX5_begins 30 = .ok (.aload_n 0, 1) := by decide +kernel
theorem dX5_begins_31 : decode cX5_begins 31 = .ok (.getfield 7, 3) := by decide +kernel
theorem dX5_begins_34 : decode cX5_begins 34 = .ok (.aload_n 0, 1) := by decide +kernel
theorem dX5_begins_35 : decode cX5_begins 35 = .ok (.getfield 87, 3) := by decide +kernel
theorem dX5_begins_38 : decode cX5_begins 38 = .ok (.dup2, 1) := by decide +kernel
theorem dX5_begins_39 : decode cX5_begins 39 = .ok (.iaload, 1) := by decide +kernel
theorem dX5_begins_40 : decode cX5_begins 40 = .ok (.iconst 3, 1) := by decide +kernel
theorem dX5_begins_41 : decode cX5_begins 41 = .ok (.iadd, 1) := by decide +kernel
theorem dX5_begins_42 : decode cX5_begins 42 = .ok (.iastore, 1) := by decide +kernel
theorem dX5_begins_43 : decode cX5_begins 43 = .ok (.aload_n 0, 1) := by decide +kernel
theorem dX5_begins_44 : decode cX5_begins 44 = .ok (.iconst 0, 1) := by decide +kernel
theorem dX5_begins_45 : decode cX5_begins 45 = .ok (.putfield 103, 3) := by decide +kernel
theorem dX5_begins_48 : decode cX5_begins 48 = .ok (.aload_n 0, 1) := by decide +kernel
theorem dX5_begins_49 : decode cX5_begins 49 = .ok (.iconst 5, 1) := by decide +kernel
theorem dX5_begins_50 : decode cX5_begins 50 = .ok (.invokevirtual 83, 3) := by decide +kernel
theorem dX5_begins_53 : decode cX5_begins 53 = .ok (.iconst 0, 1) := by decide +kernel
theorem dX5_begins_54 : decode cX5_begins 54 = .ok (.istore_n 1, 1) := by decide +kernel
theorem dX5_begins_55 : decode cX5_begins 55 = .ok (.iload_n 1, 1) := by decide +kernel
theorem dX5_begins_56 : decode cX5_begins 56 = .ok (.aload_n 0, 1) := by decide +kernel
theorem dX5_begins_57 : decode cX5_begins 57 = .ok (.getfield 66, 3) := by decide +kernel
theorem dX5_begins_60 : decode cX5_begins 60 = .ok (.if_icmp .ge 41, 3) := by decide +kernel
theorem dX5_begins_63 : decode cX5_begins 63 = .ok (.aload_n 0, 1) := by decide +kernel
theorem dX5_begins_64 : decode cX5_begins 64 = .ok (.getfield 13, 3) := by decide +kernel
theorem dX5_begins_67 : decode cX5_begins 67 = .ok (.iload_n 1, 1) := by decide +kernel
theorem dX5_begins_68 : decode cX5_begins 68 = .ok (.iaload, 1) := by decide +kernel
theorem dX5_begins_69 : decode cX5_begins 69 = .ok (.iconst 1, 1) := by decide +kernel
theorem dX5_begins_70 : decode cX5_begins 70 = .ok (.if_icmp .ne 25, 3) := by decide +kernel
theorem dX5_begins_73 : decode cX5_begins 73 = .ok (.aload_n 0, 1) := by decide +kernel
theorem dX5_begins_74 : decode cX5_begins 74 = .ok (.getfield 41, 3) := by decide +kernel
theorem dX5_begins_77 : decode cX5_begins 77 = .ok (.iload_n 1, 1) := by decide +kernel
theorem dX5_begins_78 : decode cX5_begins 78 = .ok (.iaload, 1) := by decide +kernel
theorem dX5_begins_79 : decode cX5_begins 79 = .ok (.aload_n 0, 1) := by decide +kernel
theorem dX5_begins_80 : decode cX5_begins 80 = .ok (.getfield 87, 3) := by decide +kernel
theorem dX5_begins_83 : decode cX5_begins 83 = .ok (.if_icmp .ne 12, 3) := by decide +kernel
theorem dX5_begins_86 : decode cX5_begins 86 = .ok (.aload_n 0, 1) := by decide +kernel
theorem dX5_begins_87 : decode cX5_begins 87 = .ok (.iconst 1, 1) := by decide +kernel
theorem dX5_begins_88 : decode cX5_begins 88 = .ok (.aload_n 0, 1) := by decide +kernel
theorem dX5_begins_89 : decode cX5_begins 89 = .ok (.getfield 87, 3) := by decide +kernel
theorem dX5_begins_92 : decode cX5_begins 92 = .ok (.invokevirtual 90, 3) := by decide +kernel
theorem dX5_begins_95 : decode cX5_begins 95 = .ok (.iinc 1 1, 3) := by decide +kernel
theorem dX5_begins_98 : decode cX5_begins 98 = .ok (.goto (-43), 3) := by decide +kernel
theorem dX5_begins_101 : decode cX5_begins 101 = .ok (.return_, 1) := by decide +kernel
theorem dX5_removes_0 : decode cX5_removes 0 = .ok (.aload_n 0, 1) := by decide +kernel
theorem dX5_removes_1 : decode cX5_removes 1 = .ok (.dup, 1) := by decide +kernel
theorem dX5_removes_2 : decode cX5_removes 2 = .ok (.getfield 69, 3) := by decide +kernel
theorem dX5_removes_5 : decode cX5_removes 5 = .ok (.iconst 1, 1) := by decide +kernel
theorem dX5_removes_6 : decode cX5_removes 6 = .ok (.isub, 1) := by decide +kernel
theorem dX5_removes_7 : decode cX5_removes 7 = .ok (.putfield 69, 3) := by decide +kernel
theorem dX5_removes_10 : decode cX5_removes 10 = .ok (.iload_n 1, 1) := by decide +kernel
theorem dX5_removes_11 : decode cX5_removes 11 = .ok (.istore_n 2, 1) := by decide +kernel
theorem dX5_removes_12 : decode cX5_removes 12 = .ok (.iload_n 2, 1) := by decide +kernel
theorem dX5_removes_13 : decode cX5_removes 13 = .ok (.aload_n 0, 1) := by decide +kernel
theorem dX5_removes_14 : decode cX5_removes 14 = .ok (.getfield 69, 3) := by decide +kernel
theorem dX5_removes_17 : decode cX5_removes 17 = .ok (.if_icmp .ge 79, 3) := by decide +kernel
theorem dX5_removes_20 : decode cX5_removes 20 = .ok (.aload_n 0, 1) := by decide +kernel
theorem dX5_removes_21 : decode cX5_removes 21 = .ok (.getfield 25, 3) := by decide +kernel
theorem dX5_removes_24 : decode cX5_removes 24 = .ok (.iload_n 2, 1) := by decide +kernel
theorem dX5_removes_25 : decode cX5_removes 25 = .ok (.aload_n 0, 1) := by decide +kernel
theorem dX5_removes_26 : decode cX5_removes 26 = .ok (.getfield 25, 3) := by decide +kernel
theorem dX5_removes_29 : decode cX5_removes 29 = .ok (.iload_n 2, 1) := by decide +kernel
theorem dX5_removes_30 : decode cX5_removes 30 = .ok (.iconst 1, 1) := by decide +kernel
theorem dX5_removes_31 : decode cX5_removes 31 = .ok (.iadd, 1) := by decide +kernel
theorem dX5_removes_32 : decode cX5_removes 32 = .ok (.iaload, 1) := by decide +kernel
theorem dX5_removes_33 : decode cX5_removes 33 = .ok (.iastore, 1) := by decide +kernel
theorem dX5_removes_34 : decode cX5_removes 34 = .ok (.aload_n 0, 1) := by decide +kernel
theorem dX5_removes_35 : decode cX5_removes 35 = .ok (.getfield 28, 3) := by decide +kernel
theorem dX5_removes_38 : decode cX5_removes 38 = .ok (.iload_n 2, 1) := by decide +kernel
theorem dX5_removes_39 : decode cX5_removes 39 = .ok (.aload_n 0, 1) := by decide +kernel
theorem dX5_removes_40 : decode cX5_removes 40 = .ok (.getfield 28, 3) := by decide +kernel
theorem dX5_removes_43 : decode cX5_removes 43 = .ok (.iload_n 2, 1) := by decide +kernel
theorem dX5_removes_44 : decode cX5_removes 44 = .ok (.iconst 1, 1) := by decide +kernel
theorem dX5_removes_45 : decode cX5_removes 45 = .ok (.iadd, 1) := by decide +kernel
theorem dX5_removes_46 : decode cX5_removes 46 = .ok (.baload, 1) := by decide +kernel
theorem dX5_removes_47 : decode cX5_removes 47 = .ok (.bastore, 1) := by decide +kernel
theorem dX5_removes_48 : decode cX5_removes 48 = .ok (.aload_n 0, 1) := by decide +kernel
theorem dX5_removes_49 : decode cX5_removes 49 = .ok (.getfield 32, 3) := by decide +kernel
theorem dX5_removes_52 : decode cX5_removes 52 = .ok (.iload_n 2, 1) := by decide +kernel
theorem dX5_removes_53 : decode cX5_removes 53 = .ok (.aload_n 0, 1) := by decide +kernel
theorem dX5_removes_54 : decode cX5_removes 54 = .ok (.getfield 32, 3) := by decide +kernel
theorem dX5_removes_57 : decode cX5_removes 57 = .ok (.iload_n 2, 1) := by decide +kernel
theorem dX5_removes_58 : decode cX5_removes 58 = .ok (.iconst 1, 1) := by decide +kernel
theorem dX5_removes_59 : decode cX5_removes 59 = .ok (.iadd, 1) := by decide +kernel
theorem dX5_removes_60 : decode cX5_removes 60 = .ok (.iaload, 1) := by decide +kernel
theorem dX5_removes_61 : decode cX5_removes 61 = .ok (.iastore, 1) := by decide +kernel
theorem dX5_removes_62 : decode cX5_removes 62 = .ok (.aload_n 0, 1) := by decide +kernel
theorem dX5_removes_63 : decode cX5_removes 63 = .ok (.getfield 35, 3) := by decide +kernel
theorem dX5_removes_66 : decode cX5_removes 66 = .ok (.iload_n 2, 1) := by decide +kernel
theorem dX5_removes_67 : decode cX5_removes 67 = .ok (.aload_n 0, 1) := by decide +kernel
theorem dX5_removes_68 : decode cX5_removes 68 = .ok (.getfield 35, 3) := by decide +kernel
theorem dX5_removes_71 : decode cX5_removes 71 = .ok (.iload_n 2, 1) := by decide +kernel
theorem dX5_removes_72 : decode cX5_removes 72 = .ok (.iconst 1, 1) := by decide +kernel
theorem dX5_removes_73 : decode cX5_removes 73 = .ok (.iadd, 1) := by decide +kernel
theorem dX5_removes_74 : decode cX5_removes 74 = .ok (.iaload, 1) := by decide +kernel
theorem dX5_removes_75 : decode cX5_removes 75 = .ok (.iastore, 1) := by decide +kernel
theorem dX5_removes_76 : decode cX5_removes 76 = .ok (.aload_n 0, 1) := by decide +kernel
theorem dX5_removes_77 : decode cX5_removes 77 = .ok (.getfield 38, 3) := by decide +kernel
theorem dX5_removes_80 : decode cX5_removes 80 = .ok (.iload_n 2, 1) := by decide +kernel
theorem dX5_removes_81 : decode cX5_removes 81 = .ok (.aload_n 0, 1) := by decide +kernel
theorem dX5_removes_82 : decode cX5_removes 82 = .ok (.getfield 38, 3) := by decide +kernel
theorem dX5_removes_85 : decode cX5_removes 85 = .ok (.iload_n 2, 1) := by decide +kernel
theorem dX5_removes_86 : decode cX5_removes 86 = .ok (.iconst 1, 1) := by decide +kernel
theorem dX5_removes_87 : decode cX5_removes 87 = .ok (.iadd, 1) := by decide +kernel
theorem dX5_removes_88 : decode cX5_removes 88 = .ok (.iaload, 1) := by decide +kernel
theorem dX5_removes_89 : decode cX5_removes 89 = .ok (.iastore, 1) := by decide +kernel
theorem dX5_removes_90 : decode cX5_removes 90 = .ok (.iinc 2 1, 3) := by decide +kernel
theorem dX5_removes_93 : decode cX5_removes 93 = .ok (.goto (-81), 3) := by decide +kernel
theorem dX5_removes_96 : decode cX5_removes 96 = .ok (.return_, 1) := by decide +kernel
theorem dX5_firstBeast_0 : decode cX5_firstBeast 0 = .ok (.iconst (-1), 1) := by decide +kernel
theorem dX5_firstBeast_1 : decode cX5_firstBeast 1 = .ok (.istore_n 1, 1) := by decide +kernel
theorem dX5_firstBeast_2 : decode cX5_firstBeast 2 = .ok (.aload_n 0, 1) := by decide +kernel
theorem dX5_firstBeast_3 : decode cX5_firstBeast 3 = .ok (.getfield 66, 3) := by decide +kernel
theorem dX5_firstBeast_6 : decode cX5_firstBeast 6 = .ok (.iconst 1, 1) := by decide +kernel
theorem dX5_firstBeast_7 : decode cX5_firstBeast 7 = .ok (.isub, 1) := by decide +kernel
theorem dX5_firstBeast_8 : decode cX5_firstBeast 8 = .ok (.istore_n 2, 1) := by decide +kernel
theorem dX5_firstBeast_9 : decode cX5_firstBeast 9 = .ok (.iload_n 2, 1) := by decide +kernel
theorem dX5_firstBeast_10 : decode cX5_firstBeast 10 = .ok (.ifCond .lt 24, 3) := by decide +kernel
theorem dX5_firstBeast_13 : decode cX5_firstBeast 13 = .ok (.aload_n 0, 1) := by decide +kernel
theorem dX5_firstBeast_14 : decode cX5_firstBeast 14 = .ok (.getfield 13, 3) := by decide +kernel
theorem dX5_firstBeast_17 : decode cX5_firstBeast 17 = .ok (.iload_n 2, 1) := by decide +kernel
theorem dX5_firstBeast_18 : decode cX5_firstBeast 18 = .ok (.iaload, 1) := by decide +kernel
theorem dX5_firstBeast_19 : decode cX5_firstBeast 19 = .ok (.ifCond .ne 7, 3) := by decide +kernel
theorem dX5_firstBeast_22 : decode cX5_firstBeast 22 = .ok (.iload_n 2, 1) := by decide +kernel
theorem dX5_firstBeast_23 : decode cX5_firstBeast 23 = .ok (.goto 4, 3) := by decide +kernel
theorem dX5_firstBeast_26 : decode cX5_firstBeast 26 = .ok (.iload_n 1, 1) := by decide +kernel
theorem dX5_firstBeast_27 : decode cX5_firstBeast 27 = .ok (.istore_n 1, 1) := by decide +kernel
theorem dX5_firstBeast_28 : decode cX5_firstBeast 28 = .ok (.iinc 2 (-1), 3) := by decide +kernel
theorem dX5_firstBeast_31 : decode cX5_firstBeast 31 = .ok (.goto (-22), 3) := by decide +kernel
theorem dX5_firstBeast_34 : decode cX5_firstBeast 34 = .ok (.iload_n 1, 1) := by decide +kernel
theorem dX5_firstBeast_35 : decode cX5_firstBeast 35 = .ok (.ireturn, 1) := by decide +kernel
set_option maxRecDepth 20000 in
theorem ggX5_trigger_X5_enters : GoodIn wsX5_trigger wsX5_enters := goodIn_r _ [6, 7, 8, 9, 10, 11, 12, 13, 14, 15, 5, 16, 17, 18, 19, 20, 21, 22, 23, 24, 25, 26, 27, 28, 29, 30, 31, 32, 33, 34, 35, 36, 37, 38, 39, 40, 41, 42, 43, 44, 53, 54, 55, 56, 57, 58, 59, 60, 61, 62, 63, 64, 65, 66, 67, 68, 69, 70, 71, 72, 73, 74, 75, 76, 77, 78, 79] (by decide +kernel) (by decide +kernel)
set_option maxRecDepth 20000 in
theorem gX5_trigger_X5_enters : GoodIn wsX5_trigger (wsV RX5 106 RX5 yX5_enters wsX5_enters) := goodIn_app (goodIn_of _ (by decide +kernel)) ggX5_trigger_X5_enters
set_option maxRecDepth 20000 in
theorem ggX5_trigger_X5_firstBeast : GoodIn wsX5_trigger wsX5_firstBeast := goodIn_r _ [48, 7, 8, 53, 54, 55, 56, 57, 58, 59, 60, 61, 62, 63, 64, 65, 66, 67, 68, 69, 70, 71, 72, 73, 74, 75, 76, 77, 78, 79] (by decide +kernel) (by decide +kernel)
set_option maxRecDepth 20000 in
theorem gX5_trigger_X5_firstBeast : GoodIn wsX5_trigger (wsV RX5 109 RX5 yX5_firstBeast wsX5_firstBeast) := goodIn_app (goodIn_of _ (by decide +kernel)) ggX5_trigger_X5_firstBeast
set_option maxRecDepth 20000 in
theorem ggX5_trigger_X5_leaves : GoodIn wsX5_trigger wsX5_leaves := goodIn_r _ [52, 7, 8, 9, 11, 12, 13, 14, 15, 5, 16, 17, 18, 19, 20, 21, 22, 23, 24, 25, 26, 27, 28, 29, 30, 31, 32, 33, 34, 35, 36, 37, 38, 39, 40, 41, 42, 10, 43, 44, 53, 54, 55, 56, 57, 58, 59, 60, 61, 62, 63, 64, 65, 66, 67, 68, 69, 70, 71, 72, 73, 74, 75, 76, 77, 78, 79] (by decide +kernel) (by decide +kernel)
set_option maxRecDepth 20000 in
theorem gX5_trigger_X5_leaves : GoodIn wsX5_trigger (wsV RX5 113 RX5 yX5_leaves wsX5_leaves) := goodIn_app (goodIn_of _ (by decide +kernel)) ggX5_trigger_X5_leaves
theorem dX5_trigger_0 : decode cX5_trigger 0 = .ok (.iload_n 1, 1) := by decide +kernel
theorem dX5_trigger_1 : decode cX5_trigger 1 = .ok (.iconst 1, 1) := by decide +kernel
theorem dX5_trigger_2 : decode cX5_trigger 2 = .ok (.if_icmp .eq 9, 3) := by decide +kernel
theorem dX5_trigger_5 : decode cX5_trigger 5 = .ok (.iload_n 1, 1) := by decide +kernel
theorem dX5_trigger_6 : decode cX5_trigger 6 = .ok (.bipush 9, 2) := by decide +kernel
theorem dX5_trigger_8 : decode cX5_trigger 8 = .ok (.if_icmp .ne 25, 3) := by decide +kernel
theorem dX5_trigger_11 : decode cX5_trigger 11 = .ok (.aload_n 0, 1) := by decide +kernel
theorem dX5_trigger_12 : decode cX5_trigger 12 = .ok (.getfield 7, 3) := by decide +kernel
theorem dX5_trigger_15 : decode cX5_trigger 15 = .ok (.iload_n 2, 1) := by decide +kernel
theorem dX5_trigger_16 : decode cX5_trigger 16 = .ok (.dup2, 1) := by decide +kernel
theorem dX5_trigger_17 : decode cX5_trigger 17 = .ok (.iaload, 1) := by decide +kernel
theorem dX5_trigger_18 : decode cX5_trigger 18 = .ok (.iload_n 1, 1) := by decide +kernel
theorem dX5_trigger_19 : decode cX5_trigger 19 = .ok (.iconst 1, 1) := by decide +kernel
theorem dX5_trigger_20 : decode cX5_trigger 20 = .ok (.if_icmp .ne 7, 3) := by decide +kernel
theorem dX5_trigger_23 : decode cX5_trigger 23 = .ok (.iconst 2, 1) := by decide +kernel
theorem dX5_trigger_24 : decode cX5_trigger 24 = .ok (.goto 4, 3) := by decide +kernel
theorem dX5_trigger_27 : decode cX5_trigger 27 = .ok (.iconst 1, 1) := by decide +kernel
theorem dX5_trigger_28 : decode cX5_trigger 28 = .ok (.iadd, 1) := by decide +kernel
theorem dX5_trigger_29 : decode cX5_trigger 29 = .ok (.iastore, 1) := by decide +kernel
theorem dX5_trigger_30 : decode cX5_trigger 30 = .ok (.goto 34, 3) := by decide +kernel
theorem dX5_trigger_33 : decode cX5_trigger 33 = .ok (.iload_n 1, 1) := by decide +kernel
theorem dX5_trigger_34 : decode cX5_trigger 34 = .ok (.bipush 10, 2) := by decide +kernel
theorem dX5_trigger_36 : decode cX5_trigger 36 = .ok (.if_icmp .ne 13, 3) := by decide +kernel
theorem dX5_trigger_39 : decode cX5_trigger 39 = .ok (.aload_n 0, 1) := by decide +kernel
theorem dX5_trigger_40 : decode cX5_trigger 40 = .ok (.iconst 0, 1) := by decide +kernel
theorem dX5_trigger_41 : decode cX5_trigger 41 = .ok (.iload_n 2, 1) := by decide +kernel
theorem dX5_trigger_42 : decode cX5_trigger 42 = .ok (.iconst 0, 1) := by decide +kernel
theorem dX5_trigger_43 : decode cX5_trigger 43 = .ok (.invokevirtual 106, 3) := by decide +kernel
theorem dX5_trigger_46 : decode cX5_trigger 46 = .ok (.goto 18, 3) := by decide +kernel
theorem dX5_trigger_49 : decode cX5_trigger 49 = .ok (.aload_n 0, 1) := by decide +kernel
theorem dX5_trigger_50 : decode cX5_trigger 50 = .ok (.invokevirtual 109, 3) := by decide +kernel
theorem dX5_trigger_53 : decode cX5_trigger 53 = .ok (.ifCond .lt 11, 3) := by decide +kernel
theorem dX5_trigger_56 : decode cX5_trigger 56 = .ok (.aload_n 0, 1) := by decide +kernel
theorem dX5_trigger_57 : decode cX5_trigger 57 = .ok (.aload_n 0, 1) := by decide +kernel
theorem dX5_trigger_58 : decode cX5_trigger 58 = .ok (.invokevirtual 109, 3) := by decide +kernel
theorem dX5_trigger_61 : decode cX5_trigger 61 = .ok (.invokevirtual 113, 3) := by decide +kernel
theorem dX5_trigger_64 : decode cX5_trigger 64 = .ok (.return_, 1) := by decide +kernel
set_option maxRecDepth 20000 in
theorem ggX5_strikes_X5_thingOf : GoodIn wsX5_strikes wsX5_thingOf := goodIn_r _ [6, 7, 8, 44, 45, 46, 47, 48, 49, 50, 51, 52, 53, 54, 55, 56, 57, 58, 59, 60, 61, 62, 63, 64, 65, 66, 67, 68, 69, 70] (by decide +kernel) (by decide +kernel)
set_option maxRecDepth 20000 in
theorem gX5_strikes_X5_thingOf : GoodIn wsX5_strikes (wsV RX5 72 RX5 yX5_thingOf wsX5_thingOf) := goodIn_app (goodIn_of _ (by decide +kernel)) ggX5_strikes_X5_thingOf
set_option maxRecDepth 20000 in
theorem ggX5_strikes_X5_lays : GoodIn wsX5_strikes wsX5_lays := goodIn_r _ [12, 7, 13, 14, 15, 16, 1, 17, 18, 19, 20, 21, 5, 22, 23, 2, 3, 4, 6, 8, 44, 45, 46, 47, 48, 49, 50, 51, 52, 53, 54, 55, 56, 57, 58, 59, 60, 61, 62, 63, 64, 65, 66, 67, 68, 69, 70] (by decide +kernel) (by decide +kernel)
set_option maxRecDepth 20000 in
theorem gX5_strikes_X5_lays : GoodIn wsX5_strikes (wsV RX5 83 RX5 yX5_lays wsX5_lays) := goodIn_app (goodIn_of _ (by decide +kernel)) ggX5_strikes_X5_lays
set_option maxRecDepth 20000 in
theorem ggX5_strikes_X5_leaves : GoodIn wsX5_strikes wsX5_leaves := goodIn_r _ [27, 7, 16, 14, 8, 23, 28, 29, 30, 5, 31, 32, 13, 9, 10, 11, 12, 15, 1, 17, 18, 19, 20, 21, 22, 2, 3, 4, 6, 33, 34, 35, 36, 37, 38, 39, 40, 41, 42, 43, 44, 45, 46, 47, 48, 49, 50, 51, 52, 53, 54, 55, 56, 57, 58, 59, 60, 61, 62, 63, 64, 65, 66, 67, 68, 69, 70] (by decide +kernel) (by decide +kernel)
set_option maxRecDepth 20000 in
theorem gX5_strikes_X5_leaves : GoodIn wsX5_strikes (wsV RX5 113 RX5 yX5_leaves wsX5_leaves) := goodIn_app (goodIn_of _ (by decide +kernel)) ggX5_strikes_X5_leaves
theorem dX5_strikes_0 : decode cX5_strikes 0 = .ok (.aload_n 0, 1) := by decide +kernel
theorem dX5_strikes_1 : decode cX5_strikes 1 = .ok (.iload_n 1, 1) := by decide +kernel
theorem dX5_strikes_2 : decode cX5_strikes 2 = .ok (.invokevirtual 72, 3) := by decide +kernel
theorem dX5_strikes_5 : decode cX5_strikes 5 = .ok (.istore_n 2, 1) := by decide +kernel
theorem dX5_strikes_6 : decode cX5_strikes 6 = .ok (.aload_n 0, 1) := by decide +kernel
theorem dX5_strikes_7 : decode cX5_strikes 7 = .ok (.iconst 5, 1) := by decide +kernel
theorem dX5_strikes_8 : decode cX5_strikes 8 = .ok (.invokevirtual 83, 3) := by decide +kernel
theorem dX5_strikes_11 : decode cX5_strikes 11 = .ok (.iload_n 2, 1) := by decide +kernel
theorem dX5_strikes_12 : decode cX5_strikes 12 = .ok (.ifCond .lt 18, 3) := by decide +kernel
theorem dX5_strikes_15 : decode cX5_strikes 15 = .ok (.aload_n 0, 1) := by decide +kernel
theorem dX5_strikes_16 : decode cX5_strikes 16 = .ok (.getfield 47, 3) := by decide +kernel
theorem dX5_strikes_19 : decode cX5_strikes 19 = .ok (.iload_n 2, 1) := by decide +kernel
theorem dX5_strikes_20 : decode cX5_strikes 20 = .ok (.iaload, 1) := by decide +kernel
theorem dX5_strikes_21 : decode cX5_strikes 21 = .ok (.iconst 4, 1) := by decide +kernel
theorem dX5_strikes_22 : decode cX5_strikes 22 = .ok (.if_icmp .gt 8, 3) := by decide +kernel
theorem dX5_strikes_25 : decode cX5_strikes 25 = .ok (.aload_n 0, 1) := by decide +kernel
theorem dX5_strikes_26 : decode cX5_strikes 26 = .ok (.iload_n 2, 1) := by decide +kernel
theorem dX5_strikes_27 : decode cX5_strikes 27 = .ok (.invokevirtual 113, 3) := by decide +kernel
theorem dX5_strikes_30 : decode cX5_strikes 30 = .ok (.return_, 1) := by decide +kernel
set_option maxRecDepth 20000 in
theorem ggX5_targetOf_X5_thingOf : GoodIn wsX5_targetOf wsX5_thingOf := goodIn_r _ [8, 9, 10, 17, 18, 19, 20, 21, 22, 23, 24, 25, 26, 27, 28, 29, 30, 31, 32, 33, 34, 35, 36, 37, 38, 39, 40, 41, 42, 43] (by decide +kernel) (by decide +kernel)
set_option maxRecDepth 20000 in
theorem gX5_targetOf_X5_thingOf : GoodIn wsX5_targetOf (wsV RX5 72 RX5 yX5_thingOf wsX5_thingOf) := goodIn_app (goodIn_of _ (by decide +kernel)) ggX5_targetOf_X5_thingOf
set_option maxRecDepth 20000 in
theorem ggX5_targetOf_X5_entryOf : GoodIn wsX5_targetOf wsX5_entryOf := goodIn_r _ [14, 15, 16, 17, 18, 19, 20, 21, 22, 23, 24, 25, 26, 27, 28, 29, 30, 31, 32, 33, 34, 35, 36, 37, 38, 39, 40, 41, 42, 43] (by decide +kernel) (by decide +kernel)
set_option maxRecDepth 20000 in
theorem gX5_targetOf_X5_entryOf : GoodIn wsX5_targetOf (wsV RX5 116 RX5 yX5_entryOf wsX5_entryOf) := goodIn_app (goodIn_of _ (by decide +kernel)) ggX5_targetOf_X5_entryOf
theorem dX5_targetOf_0 : decode cX5_targetOf 0 = .ok (.aload_n 0, 1) := by decide +kernel
theorem dX5_targetOf_1 : decode cX5_targetOf 1 = .ok (.getfield 25, 3) := by decide +kernel
theorem dX5_targetOf_4 : decode cX5_targetOf 4 = .ok (.iload_n 1, 1) := by decide +kernel
theorem dX5_targetOf_5 : decode cX5_targetOf 5 = .ok (.iaload, 1) := by decide +kernel
theorem dX5_targetOf_6 : decode cX5_targetOf 6 = .ok (.istore_n 2, 1) := by decide +kernel
theorem dX5_targetOf_7 : decode cX5_targetOf 7 = .ok (.aload_n 0, 1) := by decide +kernel
theorem dX5_targetOf_8 : decode cX5_targetOf 8 = .ok (.getfield 28, 3) := by decide +kernel
theorem dX5_targetOf_11 : decode cX5_targetOf 11 = .ok (.iload_n 1, 1) := by decide +kernel
theorem dX5_targetOf_12 : decode cX5_targetOf 12 = .ok (.baload, 1) := by decide +kernel
theorem dX5_targetOf_13 : decode cX5_targetOf 13 = .ok (.ifCond .eq 7, 3) := by decide +kernel
theorem dX5_targetOf_16 : decode cX5_targetOf 16 = .ok (.iconst (-1), 1) := by decide +kernel
theorem dX5_targetOf_17 : decode cX5_targetOf 17 = .ok (.goto 48, 3) := by decide +kernel
theorem dX5_targetOf_20 : decode cX5_targetOf 20 = .ok (.iload_n 2, 1) := by decide +kernel
theorem dX5_targetOf_21 : decode cX5_targetOf 21 = .ok (.bipush 7, 2) := by decide +kernel
theorem dX5_targetOf_23 : decode cX5_targetOf 23 = .ok (.if_icmp .eq 9, 3) := by decide +kernel
theorem dX5_targetOf_26 : decode cX5_targetOf 26 = .ok (.iload_n 2, 1) := by decide +kernel
theorem dX5_targetOf_27 : decode cX5_targetOf 27 = .ok (.bipush 12, 2) := by decide +kernel
theorem dX5_targetOf_29 : decode cX5_targetOf 29 = .ok (.if_icmp .ne 16, 3) := by decide +kernel
theorem dX5_targetOf_32 : decode cX5_targetOf 32 = .ok (.aload_n 0, 1) := by decide +kernel
theorem dX5_targetOf_33 : decode cX5_targetOf 33 = .ok (.aload_n 0, 1) := by decide +kernel
theorem dX5_targetOf_34 : decode cX5_targetOf 34 = .ok (.getfield 38, 3) := by decide +kernel
theorem dX5_targetOf_37 : decode cX5_targetOf 37 = .ok (.iload_n 1, 1) := by decide +kernel
theorem dX5_targetOf_38 : decode cX5_targetOf 38 = .ok (.iaload, 1) := by decide +kernel
theorem dX5_targetOf_39 : decode cX5_targetOf 39 = .ok (.invokevirtual 72, 3) := by decide +kernel
theorem dX5_targetOf_42 : decode cX5_targetOf 42 = .ok (.goto 23, 3) := by decide +kernel
theorem dX5_targetOf_45 : decode cX5_targetOf 45 = .ok (.iload_n 2, 1) := by decide +kernel
theorem dX5_targetOf_46 : decode cX5_targetOf 46 = .ok (.bipush 13, 2) := by decide +kernel
theorem dX5_targetOf_48 : decode cX5_targetOf 48 = .ok (.if_icmp .ne 16, 3) := by decide +kernel
theorem dX5_targetOf_51 : decode cX5_targetOf 51 = .ok (.aload_n 0, 1) := by decide +kernel
theorem dX5_targetOf_52 : decode cX5_targetOf 52 = .ok (.aload_n 0, 1) := by decide +kernel
theorem dX5_targetOf_53 : decode cX5_targetOf 53 = .ok (.getfield 38, 3) := by decide +kernel
theorem dX5_targetOf_56 : decode cX5_targetOf 56 = .ok (.iload_n 1, 1) := by decide +kernel
theorem dX5_targetOf_57 : decode cX5_targetOf 57 = .ok (.iaload, 1) := by decide +kernel
theorem dX5_targetOf_58 : decode cX5_targetOf 58 = .ok (.invokevirtual 116, 3) := by decide +kernel
theorem dX5_targetOf_61 : decode cX5_targetOf 61 = .ok (.goto 4, 3) := by decide +kernel
theorem dX5_targetOf_64 : decode cX5_targetOf 64 = .ok (.iconst (-1), 1) := by decide +kernel
theorem dX5_targetOf_65 : decode cX5_targetOf 65 = .ok (.ireturn, 1) := by decide +kernel
set_option maxRecDepth 20000 in
theorem ggX5_laysState_X5_thingOf : GoodIn wsX5_laysState wsX5_thingOf := goodIn_r _ [14, 2, 15, 26, 27, 28, 29, 30, 31, 32, 33, 34, 35, 36, 37, 38, 39, 40, 41, 42, 43, 44, 45, 46, 47, 48, 49, 50, 51, 52] (by decide +kernel) (by decide +kernel)
set_option maxRecDepth 20000 in
theorem gX5_laysState_X5_thingOf : GoodIn wsX5_laysState (wsV RX5 72 RX5 yX5_thingOf wsX5_thingOf) := goodIn_app (goodIn_of _ (by decide +kernel)) ggX5_laysState_X5_thingOf
set_option maxRecDepth 20000 in
theorem ggX5_laysState_X5_targetOf : GoodIn wsX5_laysState wsX5_targetOf := goodIn_r _ [19, 7, 8, 20, 10, 11, 12, 13, 14, 2, 15, 21, 22, 23, 24, 3, 25, 26, 27, 28, 29, 30, 31, 32, 33, 34, 35, 36, 37, 38, 39, 40, 41, 42, 43, 44, 45, 46, 47, 48, 49, 50, 51, 52] (by decide +kernel) (by decide +kernel)
set_option maxRecDepth 20000 in
theorem gX5_laysState_X5_targetOf : GoodIn wsX5_laysState (wsV RX5 119 RX5 yX5_targetOf wsX5_targetOf) := goodIn_app (goodIn_of _ (by decide +kernel)) ggX5_laysState_X5_targetOf
theorem dX5_laysState_0 : decode cX5_laysState 0 = .ok (.iconst 0, 1) := by decide +kernel
theorem dX5_laysState_1 : decode cX5_laysState 1 = .ok (.istore_n 1, 1) := by decide +kernel
theorem dX5_laysState_2 : decode cX5_laysState 2 = .ok (.iload_n 1, 1) := by decide +kernel
theorem dX5_laysState_3 : decode cX5_laysState 3 = .ok (.bipush 24, 2) := by decide +kernel
theorem dX5_laysState_5 : decode cX5_laysState 5 = .ok (.if_icmp .ge 16, 3) := by decide +kernel
theorem dX5_laysState_8 : decode cX5_laysState 8 = .ok (.aload_n 0, 1) := by decide +kernel
theorem dX5_laysState_9 : decode cX5_laysState 9 = .ok (.getfield 59, 3) := by decide +kernel
theorem dX5_laysState_12 : decode cX5_laysState 12 = .ok (.iload_n 1, 1) := by decide +kernel
theorem dX5_laysState_13 : decode cX5_laysState 13 = .ok (.iconst 0, 1) := by decide +kernel
theorem dX5_laysState_14 : decode cX5_laysState 14 = .ok (.iastore, 1) := by decide +kernel
theorem dX5_laysState_15 : decode cX5_laysState 15 = .ok (.iinc 1 1, 3) := by decide +kernel
theorem dX5_laysState_18 : decode cX5_laysState 18 = .ok (.goto (-16), 3) := by decide +kernel
theorem dX5_laysState_21 : decode cX5_laysState 21 = .ok (.aload_n 0, 1) := by decide +kernel
theorem dX5_laysState_22 : decode cX5_laysState 22 = .ok (.getfield 59, 3) := by decide +kernel
theorem dX5_laysState_25 : decode cX5_laysState 25 = .ok (.iconst 0, 1) := by decide +kernel
theorem dX5_laysState_26 : decode cX5_laysState 26 = .ok (.aload_n 0, 1) := by decide +kernel
theorem dX5_laysState_27 : decode cX5_laysState 27 = .ok (.getfield 66, 3) := by decide +kernel
theorem dX5_laysState_30 : decode cX5_laysState 30 = .ok (.iastore, 1) := by decide +kernel
theorem dX5_laysState_31 : decode cX5_laysState 31 = .ok (.aload_n 0, 1) := by decide +kernel
theorem dX5_laysState_32 : decode cX5_laysState 32 = .ok (.getfield 59, 3) := by decide +kernel
theorem dX5_laysState_35 : decode cX5_laysState 35 = .ok (.iconst 1, 1) := by decide +kernel
theorem dX5_laysState_36 : decode cX5_laysState 36 = .ok (.aload_n 0, 1) := by decide +kernel
theorem dX5_laysState_37 : decode cX5_laysState 37 = .ok (.getfield 69, 3) := by decide +kernel
theorem dX5_laysState_40 : decode cX5_laysState 40 = .ok (.iastore, 1) := by decide +kernel
theorem dX5_laysState_41 : decode cX5_laysState 41 = .ok (.iconst 0, 1) := by decide +kernel
theorem dX5_laysState_42 : decode cX5_laysState 42 = .ok (.istore_n 1, 1) := by decide +kernel
theorem dX5_laysState_43 : decode cX5_laysState 43 = .ok (.iload_n 1, 1) := by decide +kernel
theorem dX5_laysState_44 : decode cX5_laysState 44 = .ok (.aload_n 0, 1) := by decide +kernel
theorem dX5_laysState_45 : decode cX5_laysState 45 = .ok (.getfield 66, 3) := by decide +kernel
theorem dX5_laysState_48 : decode cX5_laysState 48 = .ok (.if_icmp .ge 66, 3) := by decide +kernel
theorem dX5_laysState_51 : decode cX5_laysState 51 = .ok (.aload_n 0, 1) := by decide +kernel
theorem dX5_laysState_52 : decode cX5_laysState 52 = .ok (.getfield 13, 3) := by decide +kernel
theorem dX5_laysState_55 : decode cX5_laysState 55 = .ok (.iload_n 1, 1) := by decide +kernel
theorem dX5_laysState_56 : decode cX5_laysState 56 = .ok (.iaload, 1) := by decide +kernel
theorem dX5_laysState_57 : decode cX5_laysState 57 = .ok (.bipush 7, 2) := by decide +kernel
theorem dX5_laysState_59 : decode cX5_laysState 59 = .ok (.if_icmp .ne 16, 3) := by decide +kernel
theorem dX5_laysState_62 : decode cX5_laysState 62 = .ok (.aload_n 0, 1) := by decide +kernel
theorem dX5_laysState_63 : decode cX5_laysState 63 = .ok (.aload_n 0, 1) := by decide +kernel
theorem dX5_laysState_64 : decode cX5_laysState 64 = .ok (.getfield 22, 3) := by decide +kernel
theorem dX5_laysState_67 : decode cX5_laysState 67 = .ok (.iload_n 1, 1) := by decide +kernel
theorem dX5_laysState_68 : decode cX5_laysState 68 = .ok (.iaload, 1) := by decide +kernel
theorem dX5_laysState_69 : decode cX5_laysState 69 = .ok (.invokevirtual 72, 3) := by decide +kernel
theorem dX5_laysState_72 : decode cX5_laysState 72 = .ok (.goto 4, 3) := by decide +kernel
theorem dX5_laysState_75 : decode cX5_laysState 75 = .ok (.iconst (-1), 1) := by decide +kernel
theorem dX5_laysState_76 : decode cX5_laysState 76 = .ok (.istore_n 2, 1) := by decide +kernel
theorem dX5_laysState_77 : decode cX5_laysState 77 = .ok (.aload_n 0, 1) := by decide +kernel
theorem dX5_laysState_78 : decode cX5_laysState 78 = .ok (.getfield 59, 3) := by decide +kernel
theorem dX5_laysState_81 : decode cX5_laysState 81 = .ok (.iconst 2, 1) := by decide +kernel
theorem dX5_laysState_82 : decode cX5_laysState 82 = .ok (.iload_n 1, 1) := by decide +kernel
theorem dX5_laysState_83 : decode cX5_laysState 83 = .ok (.iadd, 1) := by decide +kernel
theorem dX5_laysState_84 : decode cX5_laysState 84 = .ok (.bipush 100, 2) := by decide +kernel
theorem dX5_laysState_86 : decode cX5_laysState 86 = .ok (.aload_n 0, 1) := by decide +kernel
theorem dX5_laysState_87 : decode cX5_laysState 87 = .ok (.getfield 13, 3) := by decide +kernel
theorem dX5_laysState_90 : decode cX5_laysState 90 = .ok (.iload_n 1, 1) := by decide +kernel
theorem dX5_laysState_91 : decode cX5_laysState 91 = .ok (.iaload, 1) := by decide +kernel
theorem dX5_laysState_92 : decode cX5_laysState 92 = .ok (.imul, 1) := by decide +kernel
theorem dX5_laysState_93 : decode cX5_laysState 93 = .ok (.bipush 20, 2) := by decide +kernel
theorem dX5_laysState_95 : decode cX5_laysState 95 = .ok (.aload_n 0, 1) := by decide +kernel
theorem dX5_laysState_96 : decode cX5_laysState 96 = .ok (.getfield 16, 3) := by decide +kernel
theorem dX5_laysState_99 : decode cX5_laysState 99 = .ok (.iload_n 1, 1) := by decide +kernel
theorem dX5_laysState_100 : decode cX5_laysState 100 = .ok (.iaload, 1) := by decide +kernel
theorem dX5_laysState_101 : decode cX5_laysState 101 = .ok (.imul, 1) := by decide +kernel
theorem dX5_laysState_102 : decode cX5_laysState 102 = .ok (.iadd, 1) := by decide +kernel
theorem dX5_laysState_103 : decode cX5_laysState 103 = .ok (.iload_n 2, 1) := by decide +kernel
theorem dX5_laysState_104 : decode cX5_laysState 104 = .ok (.iadd, 1) := by decide +kernel
theorem dX5_laysState_105 : decode cX5_laysState 105 = .ok (.iconst 1, 1) := by decide +kernel
theorem dX5_laysState_106 : decode cX5_laysState 106 = .ok (.iadd, 1) := by decide +kernel
theorem dX5_laysState_107 : decode cX5_laysState 107 = .ok (.iastore, 1) := by decide +kernel
theorem dX5_laysState_108 : decode cX5_laysState 108 = .ok (.iinc 1 1, 3) := by decide +kernel
theorem dX5_laysState_111 : decode cX5_laysState 111 = .ok (.goto (-68), 3) := by decide +kernel
theorem dX5_laysState_114 : decode cX5_laysState 114 = .ok (.iconst 0, 1) := by decide +kernel
theorem dX5_laysState_115 : decode cX5_laysState 115 = .ok (.istore_n 1, 1) := by decide +kernel
theorem dX5_laysState_116 : decode cX5_laysState 116 = .ok (.iload_n 1, 1) := by decide +kernel
theorem dX5_laysState_117 : decode cX5_laysState 117 = .ok (.aload_n 0, 1) := by decide +kernel
theorem dX5_laysState_118 : decode cX5_laysState 118 = .ok (.getfield 69, 3) := by decide +kernel
theorem dX5_laysState_121 : decode cX5_laysState 121 = .ok (.if_icmp .ge 63, 3) := by decide +kernel
theorem dX5_laysState_124 : decode cX5_laysState 124 = .ok (.aload_n 0, 1) := by decide +kernel
theorem dX5_laysState_125 : decode cX5_laysState 125 = .ok (.getfield 59, 3) := by decide +kernel
theorem dX5_laysState_128 : decode cX5_laysState 128 = .ok (.bipush 12, 2) := by decide +kernel
theorem dX5_laysState_130 : decode cX5_laysState 130 = .ok (.iload_n 1, 1) := by decide +kernel
theorem dX5_laysState_131 : decode cX5_laysState 131 = .ok (.iadd, 1) := by decide +kernel
theorem dX5_laysState_132 : decode cX5_laysState 132 = .ok (.sipush 1000, 3) := by decide +kernel
theorem dX5_laysState_135 : decode cX5_laysState 135 = .ok (.aload_n 0, 1) := by decide +kernel
theorem dX5_laysState_136 : decode cX5_laysState 136 = .ok (.getfield 25, 3) := by decide +kernel
theorem dX5_laysState_139 : decode cX5_laysState 139 = .ok (.iload_n 1, 1) := by decide +kernel
theorem dX5_laysState_140 : decode cX5_laysState 140 = .ok (.iaload, 1) := by decide +kernel
theorem dX5_laysState_141 : decode cX5_laysState 141 = .ok (.imul, 1) := by decide +kernel
theorem dX5_laysState_142 : decode cX5_laysState 142 = .ok (.aload_n 0, 1) := by decide +kernel
theorem dX5_laysState_143 : decode cX5_laysState 143 = .ok (.getfield 28, 3) := by decide +kernel
theorem dX5_laysState_146 : decode cX5_laysState 146 = .ok (.iload_n 1, 1) := by decide +kernel
theorem dX5_laysState_147 : decode cX5_laysState 147 = .ok (.baload, 1) := by decide +kernel
theorem dX5_laysState_148 : decode cX5_laysState 148 = .ok (.ifCond .eq 9, 3) := by decide +kernel
theorem dX5_laysState_151 : decode cX5_laysState 151 = .ok (.sipush 500, 3) := by decide +kernel
theorem dX5_laysState_154 : decode cX5_laysState 154 = .ok (.goto 4, 3) := by decide +kernel
theorem dX5_laysState_157 : decode cX5_laysState 157 = .ok (.iconst 0, 1) := by decide +kernel
theorem dX5_laysState_158 : decode cX5_laysState 158 = .ok (.iadd, 1) := by decide +kernel
theorem dX5_laysState_159 : decode cX5_laysState 159 = .ok (.bipush 20, 2) := by decide +kernel
theorem dX5_laysState_161 : decode cX5_laysState 161 = .ok (.aload_n 0, 1) := by decide +kernel
theorem dX5_laysState_162 : decode cX5_laysState 162 = .ok (.getfield 32, 3) := by decide +kernel
theorem dX5_laysState_165 : decode cX5_laysState 165 = .ok (.iload_n 1, 1) := by decide +kernel
theorem dX5_laysState_166 : decode cX5_laysState 166 = .ok (.iaload, 1) := by decide +kernel
theorem dX5_laysState_167 : decode cX5_laysState 167 = .ok (.imul, 1) := by decide +kernel
theorem dX5_laysState_168 : decode cX5_laysState 168 = .ok (.iadd, 1) := by decide +kernel
theorem dX5_laysState_169 : decode cX5_laysState 169 = .ok (.aload_n 0, 1) := by decide +kernel
theorem dX5_laysState_170 : decode cX5_laysState 170 = .ok (.iload_n 1, 1) := by decide +kernel
theorem dX5_laysState_171 : decode cX5_laysState 171 = .ok (.invokevirtual 119, 3) := by decide +kernel
theorem dX5_laysState_174 : decode cX5_laysState 174 = .ok (.iadd, 1) := by decide +kernel
theorem dX5_laysState_175 : decode cX5_laysState 175 = .ok (.iconst 1, 1) := by decide +kernel
theorem dX5_laysState_176 : decode cX5_laysState 176 = .ok (.iadd, 1) := by decide +kernel
theorem dX5_laysState_177 : decode cX5_laysState 177 = .ok (.iastore, 1) := by decide +kernel
theorem dX5_laysState_178 : decode cX5_laysState 178 = .ok (.iinc 1 1, 3) := by decide +kernel
theorem dX5_laysState_181 : decode cX5_laysState 181 = .ok (.goto (-65), 3) := by decide +kernel
theorem dX5_laysState_184 : decode cX5_laysState 184 = .ok (.return_, 1) := by decide +kernel
set_option maxRecDepth 20000 in
theorem ggX5_remembers_X5_laysState : GoodIn wsX5_remembers wsX5_laysState := goodIn_r _ [10, 3, 11, 5, 12, 13, 14, 15, 16, 17, 18, 19, 20, 9, 21, 22, 23, 24, 25, 26, 27, 28, 29, 30, 31, 32, 33, 34, 35, 36, 37, 38, 39, 40, 41, 42, 43, 44, 45, 46, 47, 48, 49, 50, 51, 52, 53, 54, 55, 56, 57, 58, 59] (by decide +kernel) (by decide +kernel)
set_option maxRecDepth 20000 in
theorem gX5_remembers_X5_laysState : GoodIn wsX5_remembers (wsV RX5 122 RX5 yX5_laysState wsX5_laysState) := goodIn_app (goodIn_of _ (by decide +kernel)) ggX5_remembers_X5_laysState
theorem dX5_remembers_0 : decode cX5_remembers 0 = .ok (.aload_n 0, 1) := by decide +kernel
theorem dX5_remembers_1 : decode cX5_remembers 1 = .ok (.invokevirtual 122, 3) := by decide +kernel
theorem dX5_remembers_4 : decode cX5_remembers 4 = .ok (.iconst 0, 1) := by decide +kernel
theorem dX5_remembers_5 : decode cX5_remembers 5 = .ok (.istore_n 1, 1) := by decide +kernel
theorem dX5_remembers_6 : decode cX5_remembers 6 = .ok (.iconst 0, 1) := by decide +kernel
theorem dX5_remembers_7 : decode cX5_remembers 7 = .ok (.istore_n 2, 1) := by decide +kernel
theorem dX5_remembers_8 : decode cX5_remembers 8 = .ok (.iload_n 2, 1) := by decide +kernel
theorem dX5_remembers_9 : decode cX5_remembers 9 = .ok (.aload_n 0, 1) := by decide +kernel
theorem dX5_remembers_10 : decode cX5_remembers 10 = .ok (.getfield 103, 3) := by decide +kernel
theorem dX5_remembers_13 : decode cX5_remembers 13 = .ok (.if_icmp .ge 61, 3) := by decide +kernel
theorem dX5_remembers_16 : decode cX5_remembers 16 = .ok (.iconst 1, 1) := by decide +kernel
theorem dX5_remembers_17 : decode cX5_remembers 17 = .ok (.istore_n 3, 1) := by decide +kernel
theorem dX5_remembers_18 : decode cX5_remembers 18 = .ok (.iconst 0, 1) := by decide +kernel
theorem dX5_remembers_19 : decode cX5_remembers 19 = .ok (.istore 4, 2) := by decide +kernel
theorem dX5_remembers_21 : decode cX5_remembers 21 = .ok (.iload 4, 2) := by decide +kernel
theorem dX5_remembers_23 : decode cX5_remembers 23 = .ok (.bipush 24, 2) := by decide +kernel
theorem dX5_remembers_25 : decode cX5_remembers 25 = .ok (.if_icmp .ge 39, 3) := by decide +kernel
theorem dX5_remembers_28 : decode cX5_remembers 28 = .ok (.iload_n 3, 1) := by decide +kernel
theorem dX5_remembers_29 : decode cX5_remembers 29 = .ok (.aload_n 0, 1) := by decide +kernel
theorem dX5_remembers_30 : decode cX5_remembers 30 = .ok (.getfield 56, 3) := by decide +kernel
theorem dX5_remembers_33 : decode cX5_remembers 33 = .ok (.bipush 24, 2) := by decide +kernel
theorem dX5_remembers_35 : decode cX5_remembers 35 = .ok (.iload_n 2, 1) := by decide +kernel
theorem dX5_remembers_36 : decode cX5_remembers 36 = .ok (.imul, 1) := by decide +kernel
theorem dX5_remembers_37 : decode cX5_remembers 37 = .ok (.iload 4, 2) := by decide +kernel
theorem dX5_remembers_39 : decode cX5_remembers 39 = .ok (.iadd, 1) := by decide +kernel
theorem dX5_remembers_40 : decode cX5_remembers 40 = .ok (.iaload, 1) := by decide +kernel
theorem dX5_remembers_41 : decode cX5_remembers 41 = .ok (.aload_n 0, 1) := by decide +kernel
theorem dX5_remembers_42 : decode cX5_remembers 42 = .ok (.getfield 59, 3) := by decide +kernel
theorem dX5_remembers_45 : decode cX5_remembers 45 = .ok (.iload 4, 2) := by decide +kernel
theorem dX5_remembers_47 : decode cX5_remembers 47 = .ok (.iaload, 1) := by decide +kernel
theorem dX5_remembers_48 : decode cX5_remembers 48 = .ok (.if_icmp .ne 7, 3) := by decide +kernel
theorem dX5_remembers_51 : decode cX5_remembers 51 = .ok (.iconst 1, 1) := by decide +kernel
theorem dX5_remembers_52 : decode cX5_remembers 52 = .ok (.goto 4, 3) := by decide +kernel
theorem dX5_remembers_55 : decode cX5_remembers 55 = .ok (.iconst 0, 1) := by decide +kernel
theorem dX5_remembers_56 : decode cX5_remembers 56 = .ok (.iand, 1) := by decide +kernel
theorem dX5_remembers_57 : decode cX5_remembers 57 = .ok (.istore_n 3, 1) := by decide +kernel
theorem dX5_remembers_58 : decode cX5_remembers 58 = .ok (.iinc 4 1, 3) := by decide +kernel
theorem dX5_remembers_61 : decode cX5_remembers 61 = .ok (.goto (-40), 3) := by decide +kernel
theorem dX5_remembers_64 : decode cX5_remembers 64 = .ok (.iload_n 1, 1) := by decide +kernel
theorem dX5_remembers_65 : decode cX5_remembers 65 = .ok (.iload_n 3, 1) := by decide +kernel
theorem dX5_remembers_66 : decode cX5_remembers 66 = .ok (.ior, 1) := by decide +kernel
theorem dX5_remembers_67 : decode cX5_remembers 67 = .ok (.istore_n 1, 1) := by decide +kernel
theorem dX5_remembers_68 : decode cX5_remembers 68 = .ok (.iinc 2 1, 3) := by decide +kernel
theorem dX5_remembers_71 : decode cX5_remembers 71 = .ok (.goto (-63), 3) := by decide +kernel
theorem dX5_remembers_74 : decode cX5_remembers 74 = .ok (.iload_n 1, 1) := by decide +kernel
theorem dX5_remembers_75 : decode cX5_remembers 75 = .ok (.ifCond .eq 24, 3) := by decide +kernel
theorem dX5_remembers_78 : decode cX5_remembers 78 = .ok (.aload_n 0, 1) := by decide +kernel
theorem dX5_remembers_79 : decode cX5_remembers 79 = .ok (.dup, 1) := by decide +kernel
theorem dX5_remembers_80 : decode cX5_remembers 80 = .ok (.getfield 125, 3) := by decide +kernel
theorem dX5_remembers_83 : decode cX5_remembers 83 = .ok (.iconst 1, 1) := by decide +kernel
theorem dX5_remembers_84 : decode cX5_remembers 84 = .ok (.iadd, 1) := by decide +kernel
theorem dX5_remembers_85 : decode cX5_remembers 85 = .ok (.putfield 125, 3) := by decide +kernel
theorem dX5_remembers_88 : decode cX5_remembers 88 = .ok (.aload_n 0, 1) := by decide +kernel
theorem dX5_remembers_89 : decode cX5_remembers 89 = .ok (.iconst 0, 1) := by decide +kernel
theorem dX5_remembers_90 : decode cX5_remembers 90 = .ok (.putfield 69, 3) := by decide +kernel
theorem dX5_remembers_93 : decode cX5_remembers 93 = .ok (.aload_n 0, 1) := by decide +kernel
theorem dX5_remembers_94 : decode cX5_remembers 94 = .ok (.iconst 0, 1) := by decide +kernel
theorem dX5_remembers_95 : decode cX5_remembers 95 = .ok (.putfield 103, 3) := by decide +kernel
theorem dX5_remembers_98 : decode cX5_remembers 98 = .ok (.return_, 1) := by decide +kernel
theorem dX5_remembers_99 : decode cX5_remembers 99 = .ok (.aload_n 0, 1) := by decide +kernel
theorem dX5_remembers_100 : decode cX5_remembers 100 = .ok (.getfield 103, 3) := by decide +kernel
theorem dX5_remembers_103 : decode cX5_remembers 103 = .ok (.bipush 40, 2) := by decide +kernel
theorem dX5_remembers_105 : decode cX5_remembers 105 = .ok (.if_icmp .ne 47, 3) := by decide +kernel
theorem dX5_remembers_108 : decode cX5_remembers 108 = .ok (.aload_n 0, 1) := by decide +kernel
theorem dX5_remembers_109 : decode cX5_remembers 109 = .ok (.dup, 1) := by decide +kernel
theorem dX5_remembers_110 : decode cX5_remembers 110 = .ok (.getfield 103, 3) := by decide +kernel
theorem dX5_remembers_113 : decode cX5_remembers 113 = .ok (.iconst 1, 1) := by decide +kernel
theorem dX5_remembers_114 : decode cX5_remembers 114 = .ok (.isub, 1) := by decide +kernel
theorem dX5_remembers_115 : decode cX5_remembers 115 = .ok (.putfield 103, 3) := by decide +kernel
theorem dX5_remembers_118 : decode cX5_remembers 118 = .ok (.iconst 0, 1) := by decide +kernel
theorem dX5_remembers_119 : decode cX5_remembers 119 = .ok (.istore_n 2, 1) := by decide +kernel
theorem dX5_remembers_120 : decode cX5_remembers 120 = .ok (.iload_n 2, 1) := by decide +kernel
theorem dX5_remembers_121 : decode cX5_remembers 121 = .ok (.bipush 24, 2) := by decide +kernel
theorem dX5_remembers_123 : decode cX5_remembers 123 = .ok (.aload_n 0, 1) := by decide +kernel
theorem dX5_remembers_124 : decode cX5_remembers 124 = .ok (.getfield 103, 3) := by decide +kernel
theorem dX5_remembers_127 : decode cX5_remembers 127 = .ok (.imul, 1) := by decide +kernel
theorem dX5_remembers_128 : decode cX5_remembers 128 = .ok (.if_icmp .ge 24, 3) := by decide +kernel
theorem dX5_remembers_131 : decode cX5_remembers 131 = .ok (.aload_n 0, 1) := by decide +kernel
theorem dX5_remembers_132 : decode cX5_remembers 132 = .ok (.getfield 56, 3) := by decide +kernel
theorem dX5_remembers_135 : decode cX5_remembers 135 = .ok (.iload_n 2, 1) := by decide +kernel
theorem dX5_remembers_136 : decode cX5_remembers 136 = .ok (.aload_n 0, 1) := by decide +kernel
theorem dX5_remembers_137 : decode cX5_remembers 137 = .ok (.getfield 56, 3) := by decide +kernel
theorem dX5_remembers_140 : decode cX5_remembers 140 = .ok (.iload_n 2, 1) := by decide +kernel
theorem dX5_remembers_141 : decode cX5_remembers 141 = .ok (.bipush 24, 2) := by decide +kernel
theorem dX5_remembers_143 : decode cX5_remembers 143 = .ok (.iadd, 1) := by decide +kernel
theorem dX5_remembers_144 : decode cX5_remembers 144 = .ok (.iaload, 1) := by decide +kernel
theorem dX5_remembers_145 : decode cX5_remembers 145 = .ok (.iastore, 1) := by decide +kernel
theorem dX5_remembers_146 : decode cX5_remembers 146 = .ok (.iinc 2 1, 3) := by decide +kernel
theorem dX5_remembers_149 : decode cX5_remembers 149 = .ok (.goto (-29), 3) := by decide +kernel
theorem dX5_remembers_152 : decode cX5_remembers 152 = .ok (.iconst 0, 1) := by decide +kernel
theorem dX5_remembers_153 : decode cX5_remembers 153 = .ok (.istore_n 2, 1) := by decide +kernel
theorem dX5_remembers_154 : decode cX5_remembers 154 = .ok (.iload_n 2, 1) := by decide +kernel
theorem dX5_remembers_155 : decode cX5_remembers 155 = .ok (.bipush 24, 2) := by decide +kernel
theorem dX5_remembers_157 : decode cX5_remembers 157 = .ok (.if_icmp .ge 29, 3) := by decide +kernel
theorem dX5_remembers_160 : decode cX5_remembers 160 = .ok (.aload_n 0, 1) := by decide +kernel
theorem dX5_remembers_161 : decode cX5_remembers 161 = .ok (.getfield 56, 3) := by decide +kernel
theorem dX5_remembers_164 : decode cX5_remembers 164 = .ok (.bipush 24, 2) := by decide +kernel
theorem dX5_remembers_166 : decode cX5_remembers 166 = .ok (.aload_n 0, 1) := by decide +kernel
theorem dX5_remembers_167 : decode cX5_remembers 167 = .ok (.getfield 103, 3) := by decide +kernel
theorem dX5_remembers_170 : decode cX5_remembers 170 = .ok (.imul, 1) := by decide +kernel
theorem dX5_remembers_171 : decode cX5_remembers 171 = .ok (.iload_n 2, 1) := by decide +kernel
theorem dX5_remembers_172 : decode cX5_remembers 172 = .ok (.iadd, 1) := by decide +kernel
theorem dX5_remembers_173 : decode cX5_remembers 173 = .ok (.aload_n 0, 1) := by decide +kernel
theorem dX5_remembers_174 : decode cX5_remembers 174 = .ok (.getfield 59, 3) := by decide +kernel
theorem dX5_remembers_177 : decode cX5_remembers 177 = .ok (.iload_n 2, 1) := by decide +kernel
theorem dX5_remembers_178 : decode cX5_remembers 178 = .ok (.iaload, 1) := by decide +kernel
theorem dX5_remembers_179 : decode cX5_remembers 179 = .ok (.iastore, 1) := by decide +kernel
theorem dX5_remembers_180 : decode cX5_remembers 180 = .ok (.iinc 2 1, 3) := by decide +kernel
theorem dX5_remembers_183 : decode cX5_remembers 183 = .ok (.goto (-29), 3) := by decide +kernel
theorem dX5_remembers_186 : decode cX5_remembers 186 = .ok (.aload_n 0, 1) := by decide +kernel
theorem dX5_remembers_187 : decode cX5_remembers 187 = .ok (.dup, 1) := by decide +kernel
theorem dX5_remembers_188 : decode cX5_remembers 188 = .ok (.getfield 103, 3) := by decide +kernel
theorem dX5_remembers_191 : decode cX5_remembers 191 = .ok (.iconst 1, 1) := by decide +kernel
theorem dX5_remembers_192 : decode cX5_remembers 192 = .ok (.iadd, 1) := by decide +kernel
theorem dX5_remembers_193 : decode cX5_remembers 193 = .ok (.putfield 103, 3) := by decide +kernel
theorem dX5_remembers_196 : decode cX5_remembers 196 = .ok (.return_, 1) := by decide +kernel
set_option maxRecDepth 20000 in
theorem ggX5_resolves_X5_trigger : GoodIn wsX5_resolves wsX5_trigger := goodIn_r _ [13, 14, 15, 16, 17, 12, 18, 19, 20, 21, 22, 23, 24, 25, 26, 27, 28, 6, 29, 30, 31, 32, 33, 34, 35, 36, 37, 38, 39, 40, 41, 42, 43, 44, 45, 46, 47, 48, 49, 1, 2, 5, 3, 50, 4, 51, 52, 53, 54, 55, 56, 57, 58, 87, 88, 89, 90, 91, 92, 93, 94, 95, 96, 97, 98, 99, 100, 101, 102, 103, 104, 105, 106, 107, 108, 109, 110, 111, 112, 113] (by decide +kernel) (by decide +kernel)
set_option maxRecDepth 20000 in
theorem gX5_resolves_X5_trigger : GoodIn wsX5_resolves (wsV RX5 128 RX5 yX5_trigger wsX5_trigger) := goodIn_app (goodIn_of _ (by decide +kernel)) ggX5_resolves_X5_trigger
set_option maxRecDepth 20000 in
theorem ggX5_resolves_X5_enters : GoodIn wsX5_resolves wsX5_enters := goodIn_r _ [18, 19, 20, 21, 22, 23, 24, 25, 26, 27, 12, 28, 6, 29, 30, 31, 32, 33, 34, 35, 36, 37, 38, 39, 40, 41, 42, 43, 44, 45, 46, 47, 48, 49, 1, 2, 5, 3, 50, 4, 87, 88, 89, 90, 91, 92, 93, 94, 95, 96, 97, 98, 99, 100, 101, 102, 103, 104, 105, 106, 107, 108, 109, 110, 111, 112, 113] (by decide +kernel) (by decide +kernel)
set_option maxRecDepth 20000 in
theorem gX5_resolves_X5_enters : GoodIn wsX5_resolves (wsV RX5 106 RX5 yX5_enters wsX5_enters) := goodIn_app (goodIn_of _ (by decide +kernel)) ggX5_resolves_X5_enters
set_option maxRecDepth 20000 in
theorem ggX5_resolves_X5_strikes : GoodIn wsX5_resolves wsX5_strikes := goodIn_r _ [62, 35, 42, 43, 44, 12, 45, 19, 23, 30, 31, 32, 33, 29, 21, 34, 20, 36, 37, 38, 39, 40, 41, 24, 55, 56, 57, 58, 25, 26, 27, 28, 6, 46, 47, 48, 49, 1, 2, 5, 3, 22, 50, 4, 87, 88, 89, 90, 91, 92, 93, 94, 95, 96, 97, 98, 99, 100, 101, 102, 103, 104, 105, 106, 107, 108, 109, 110, 111, 112, 113] (by decide +kernel) (by decide +kernel)
set_option maxRecDepth 20000 in
theorem gX5_resolves_X5_strikes : GoodIn wsX5_resolves (wsV RX5 131 RX5 yX5_strikes wsX5_strikes) := goodIn_app (goodIn_of _ (by decide +kernel)) ggX5_resolves_X5_strikes
set_option maxRecDepth 20000 in
theorem ggX5_resolves_X5_entryOf : GoodIn wsX5_resolves wsX5_entryOf := goodIn_r _ [66, 1, 50, 87, 88, 89, 90, 91, 92, 93, 94, 95, 96, 97, 98, 99, 100, 101, 102, 103, 104, 105, 106, 107, 108, 109, 110, 111, 112, 113] (by decide +kernel) (by decide +kernel)
set_option maxRecDepth 20000 in
theorem gX5_resolves_X5_entryOf : GoodIn wsX5_resolves (wsV RX5 116 RX5 yX5_entryOf wsX5_entryOf) := goodIn_app (goodIn_of _ (by decide +kernel)) ggX5_resolves_X5_entryOf
set_option maxRecDepth 20000 in
theorem ggX5_resolves_X5_removes : GoodIn wsX5_resolves wsX5_removes := goodIn_r _ [70, 1, 2, 5, 3, 50, 4, 87, 88, 89, 90, 91, 92, 93, 94, 95, 96, 97, 98, 99, 100, 101, 102, 103, 104, 105, 106, 107, 108, 109, 110, 111, 112, 113] (by decide +kernel) (by decide +kernel)
set_option maxRecDepth 20000 in
theorem gX5_resolves_X5_removes : GoodIn wsX5_resolves (wsV RX5 134 RX5 yX5_removes wsX5_removes) := goodIn_app (goodIn_of _ (by decide +kernel)) ggX5_resolves_X5_removes
set_option maxRecDepth 20000 in
theorem ggX5_resolves_X5_remembers : GoodIn wsX5_resolves wsX5_remembers := goodIn_r _ [74, 75, 76, 77, 78, 1, 79, 80, 81, 12, 82, 19, 20, 24, 21, 2, 5, 3, 42, 43, 44, 45, 23, 83, 84, 85, 86, 4, 63, 64, 65, 66, 50, 87, 88, 89, 90, 91, 92, 93, 94, 95, 96, 97, 98, 99, 100, 101, 102, 103, 104, 105, 106, 107, 108, 109, 110, 111, 112, 113] (by decide +kernel) (by decide +kernel)
set_option maxRecDepth 20000 in
theorem gX5_resolves_X5_remembers : GoodIn wsX5_resolves (wsV RX5 137 RX5 yX5_remembers wsX5_remembers) := goodIn_app (goodIn_of _ (by decide +kernel)) ggX5_resolves_X5_remembers
theorem dX5_resolves_0 : decode cX5_resolves 0 = .ok (.aload_n 0, 1) := by decide +kernel
theorem dX5_resolves_1 : decode cX5_resolves 1 = .ok (.dup, 1) := by decide +kernel
theorem dX5_resolves_2 : decode cX5_resolves 2 = .ok (.getfield 69, 3) := by decide +kernel
theorem dX5_resolves_5 : decode cX5_resolves 5 = .ok (.iconst 1, 1) := by decide +kernel
theorem dX5_resolves_6 : decode cX5_resolves 6 = .ok (.isub, 1) := by decide +kernel
theorem dX5_resolves_7 : decode cX5_resolves 7 = .ok (.putfield 69, 3) := by decide +kernel
theorem dX5_resolves_10 : decode cX5_resolves 10 = .ok (.aload_n 0, 1) := by decide +kernel
theorem dX5_resolves_11 : decode cX5_resolves 11 = .ok (.getfield 25, 3) := by decide +kernel
theorem dX5_resolves_14 : decode cX5_resolves 14 = .ok (.aload_n 0, 1) := by decide +kernel
theorem dX5_resolves_15 : decode cX5_resolves 15 = .ok (.getfield 69, 3) := by decide +kernel
theorem dX5_resolves_18 : decode cX5_resolves 18 = .ok (.iaload, 1) := by decide +kernel
theorem dX5_resolves_19 : decode cX5_resolves 19 = .ok (.istore_n 1, 1) := by decide +kernel
theorem dX5_resolves_20 : decode cX5_resolves 20 = .ok (.aload_n 0, 1) := by decide +kernel
theorem dX5_resolves_21 : decode cX5_resolves 21 = .ok (.getfield 32, 3) := by decide +kernel
theorem dX5_resolves_24 : decode cX5_resolves 24 = .ok (.aload_n 0, 1) := by decide +kernel
theorem dX5_resolves_25 : decode cX5_resolves 25 = .ok (.getfield 69, 3) := by decide +kernel
theorem dX5_resolves_28 : decode cX5_resolves 28 = .ok (.iaload, 1) := by decide +kernel
theorem dX5_resolves_29 : decode cX5_resolves 29 = .ok (.istore_n 2, 1) := by decide +kernel
theorem dX5_resolves_30 : decode cX5_resolves 30 = .ok (.aload_n 0, 1) := by decide +kernel
theorem dX5_resolves_31 : decode cX5_resolves 31 = .ok (.getfield 38, 3) := by decide +kernel
theorem dX5_resolves_34 : decode cX5_resolves 34 = .ok (.aload_n 0, 1) := by decide +kernel
theorem dX5_resolves_35 : decode cX5_resolves 35 = .ok (.getfield 69, 3) := by decide +kernel
theorem dX5_resolves_38 : decode cX5_resolves 38 = .ok (.iaload, 1) := by decide +kernel
theorem dX5_resolves_39 : decode cX5_resolves 39 = .ok (.istore_n 3, 1) := by decide +kernel
theorem dX5_resolves_40 : decode cX5_resolves 40 = .ok (.aload_n 0, 1) := by decide +kernel
theorem dX5_resolves_41 : decode cX5_resolves 41 = .ok (.getfield 28, 3) := by decide +kernel
theorem dX5_resolves_44 : decode cX5_resolves 44 = .ok (.aload_n 0, 1) := by decide +kernel
theorem dX5_resolves_45 : decode cX5_resolves 45 = .ok (.getfield 69, 3) := by decide +kernel
theorem dX5_resolves_48 : decode cX5_resolves 48 = .ok (.baload, 1) := by decide +kernel
theorem dX5_resolves_49 : decode cX5_resolves 49 = .ok (.ifCond .eq 12, 3) := by decide +kernel
theorem dX5_resolves_52 : decode cX5_resolves 52 = .ok (.aload_n 0, 1) := by decide +kernel
theorem dX5_resolves_53 : decode cX5_resolves 53 = .ok (.iload_n 1, 1) := by decide +kernel
theorem dX5_resolves_54 : decode cX5_resolves 54 = .ok (.iload_n 2, 1) := by decide +kernel
theorem dX5_resolves_55 : decode cX5_resolves 55 = .ok (.invokevirtual 128, 3) := by decide +kernel
theorem dX5_resolves_58 : decode cX5_resolves 58 = .ok (.goto 57, 3) := by decide +kernel
theorem dX5_resolves_61 : decode cX5_resolves 61 = .ok (.iload_n 1, 1) := by decide +kernel
theorem dX5_resolves_62 : decode cX5_resolves 62 = .ok (.bipush 12, 2) := by decide +kernel
theorem dX5_resolves_64 : decode cX5_resolves 64 = .ok (.if_icmp .ge 13, 3) := by decide +kernel
theorem dX5_resolves_67 : decode cX5_resolves 67 = .ok (.aload_n 0, 1) := by decide +kernel
theorem dX5_resolves_68 : decode cX5_resolves 68 = .ok (.iload_n 1, 1) := by decide +kernel
theorem dX5_resolves_69 : decode cX5_resolves 69 = .ok (.iload_n 2, 1) := by decide +kernel
theorem dX5_resolves_70 : decode cX5_resolves 70 = .ok (.iload_n 3, 1) := by decide +kernel
theorem dX5_resolves_71 : decode cX5_resolves 71 = .ok (.invokevirtual 106, 3) := by decide +kernel
theorem dX5_resolves_74 : decode cX5_resolves 74 = .ok (.goto 41, 3) := by decide +kernel
theorem dX5_resolves_77 : decode cX5_resolves 77 = .ok (.iload_n 1, 1) := by decide +kernel
theorem dX5_resolves_78 : decode cX5_resolves 78 = .ok (.bipush 12, 2) := by decide +kernel
theorem dX5_resolves_80 : decode cX5_resolves 80 = .ok (.if_icmp .ne 11, 3) := by decide +kernel
theorem dX5_resolves_83 : decode cX5_resolves 83 = .ok (.aload_n 0, 1) := by decide +kernel
theorem dX5_resolves_84 : decode cX5_resolves 84 = .ok (.iload_n 3, 1) := by decide +kernel
theorem dX5_resolves_85 : decode cX5_resolves 85 = .ok (.invokevirtual 131, 3) := by decide +kernel
theorem dX5_resolves_88 : decode cX5_resolves 88 = .ok (.goto 27, 3) := by decide +kernel
theorem dX5_resolves_91 : decode cX5_resolves 91 = .ok (.aload_n 0, 1) := by decide +kernel
theorem dX5_resolves_92 : decode cX5_resolves 92 = .ok (.iload_n 3, 1) := by decide +kernel
theorem dX5_resolves_93 : decode cX5_resolves 93 = .ok (.invokevirtual 116, 3) := by decide +kernel
theorem dX5_resolves_96 : decode cX5_resolves 96 = .ok (.ifCond .lt 19, 3) := by decide +kernel
theorem dX5_resolves_99 : decode cX5_resolves 99 = .ok (.aload_n 0, 1) := by decide +kernel
theorem dX5_resolves_100 : decode cX5_resolves 100 = .ok (.aload_n 0, 1) := by decide +kernel
theorem dX5_resolves_101 : decode cX5_resolves 101 = .ok (.getfield 69, 3) := by decide +kernel
theorem dX5_resolves_104 : decode cX5_resolves 104 = .ok (.iconst 1, 1) := by decide +kernel
theorem dX5_resolves_105 : decode cX5_resolves 105 = .ok (.isub, 1) := by decide +kernel
theorem dX5_resolves_106 : decode cX5_resolves 106 = .ok (.aload_n 0, 1) := by decide +kernel
theorem dX5_resolves_107 : decode cX5_resolves 107 = .ok (.iload_n 3, 1) := by decide +kernel
theorem dX5_resolves_108 : decode cX5_resolves 108 = .ok (.invokevirtual 116, 3) := by decide +kernel
theorem dX5_resolves_111 : decode cX5_resolves 111 = .ok (.isub, 1) := by decide +kernel
theorem dX5_resolves_112 : decode cX5_resolves 112 = .ok (.invokevirtual 134, 3) := by decide +kernel
theorem dX5_resolves_115 : decode cX5_resolves 115 = .ok (.aload_n 0, 1) := by decide +kernel
theorem dX5_resolves_116 : decode cX5_resolves 116 = .ok (.invokevirtual 137, 3) := by decide +kernel
theorem dX5_resolves_119 : decode cX5_resolves 119 = .ok (.aload_n 0, 1) := by decide +kernel
theorem dX5_resolves_120 : decode cX5_resolves 120 = .ok (.aload_n 0, 1) := by decide +kernel
theorem dX5_resolves_121 : decode cX5_resolves 121 = .ok (.getfield 87, 3) := by decide +kernel
theorem dX5_resolves_124 : decode cX5_resolves 124 = .ok (.putfield 97, 3) := by decide +kernel
theorem dX5_resolves_127 : decode cX5_resolves 127 = .ok (.aload_n 0, 1) := by decide +kernel
theorem dX5_resolves_128 : decode cX5_resolves 128 = .ok (.iconst 0, 1) := by decide +kernel
theorem dX5_resolves_129 : decode cX5_resolves 129 = .ok (.putfield 140, 3) := by decide +kernel
theorem dX5_resolves_132 : decode cX5_resolves 132 = .ok (.return_, 1) := by decide +kernel
set_option maxRecDepth 20000 in
theorem ggX5_obstacleOf_X5_cost : GoodIn wsX5_obstacleOf wsX5_cost := goodIn_r _ [10] (by decide +kernel) (by decide +kernel)
set_option maxRecDepth 20000 in
theorem gX5_obstacleOf_X5_cost : GoodIn wsX5_obstacleOf (va_wsS RX5 143 yX5_cost wsX5_cost) := goodIn_app (goodIn_of _ (by decide +kernel)) ggX5_obstacleOf_X5_cost
set_option maxRecDepth 20000 in
theorem ggX5_obstacleOf_X5_isIn : GoodIn wsX5_obstacleOf wsX5_isIn := goodIn_r _ [13] (by decide +kernel) (by decide +kernel)
set_option maxRecDepth 20000 in
theorem gX5_obstacleOf_X5_isIn : GoodIn wsX5_obstacleOf (va_wsS RX5 146 yX5_isIn wsX5_isIn) := goodIn_app (goodIn_of _ (by decide +kernel)) ggX5_obstacleOf_X5_isIn
theorem dX5_obstacleOf_0 : decode cX5_obstacleOf 0 = .ok (.iload_n 1, 1) := by decide +kernel
theorem dX5_obstacleOf_1 : decode cX5_obstacleOf 1 = .ok (.bipush 12, 2) := by decide +kernel
theorem dX5_obstacleOf_3 : decode cX5_obstacleOf 3 = .ok (.if_icmp .ge 23, 3) := by decide +kernel
theorem dX5_obstacleOf_6 : decode cX5_obstacleOf 6 = .ok (.aload_n 0, 1) := by decide +kernel
theorem dX5_obstacleOf_7 : decode cX5_obstacleOf 7 = .ok (.getfield 69, 3) := by decide +kernel
theorem dX5_obstacleOf_10 : decode cX5_obstacleOf 10 = .ok (.ifCond .gt 14, 3) := by decide +kernel
theorem dX5_obstacleOf_13 : decode cX5_obstacleOf 13 = .ok (.aload_n 0, 1) := by decide +kernel
theorem dX5_obstacleOf_14 : decode cX5_obstacleOf 14 = .ok (.getfield 97, 3) := by decide +kernel
theorem dX5_obstacleOf_17 : decode cX5_obstacleOf 17 = .ok (.aload_n 0, 1) := by decide +kernel
theorem dX5_obstacleOf_18 : decode cX5_obstacleOf 18 = .ok (.getfield 87, 3) := by decide +kernel
theorem dX5_obstacleOf_21 : decode cX5_obstacleOf 21 = .ok (.if_icmp .eq 5, 3) := by decide +kernel
theorem dX5_obstacleOf_24 : decode cX5_obstacleOf 24 = .ok (.iconst 1, 1) := by decide +kernel
theorem dX5_obstacleOf_25 : decode cX5_obstacleOf 25 = .ok (.ireturn, 1) := by decide +kernel
theorem dX5_obstacleOf_26 : decode cX5_obstacleOf 26 = .ok (.aload_n 0, 1) := by decide +kernel
theorem dX5_obstacleOf_27 : decode cX5_obstacleOf 27 = .ok (.getfield 7, 3) := by decide +kernel
theorem dX5_obstacleOf_30 : decode cX5_obstacleOf 30 = .ok (.aload_n 0, 1) := by decide +kernel
theorem dX5_obstacleOf_31 : decode cX5_obstacleOf 31 = .ok (.getfield 97, 3) := by decide +kernel
theorem dX5_obstacleOf_34 : decode cX5_obstacleOf 34 = .ok (.iaload, 1) := by decide +kernel
theorem dX5_obstacleOf_35 : decode cX5_obstacleOf 35 = .ok (.iload_n 1, 1) := by decide +kernel
theorem dX5_obstacleOf_36 : decode cX5_obstacleOf 36 = .ok (.invokestatic 143, 3) := by decide +kernel
theorem dX5_obstacleOf_39 : decode cX5_obstacleOf 39 = .ok (.if_icmp .ge 5, 3) := by decide +kernel
theorem dX5_obstacleOf_42 : decode cX5_obstacleOf 42 = .ok (.iconst 2, 1) := by decide +kernel
theorem dX5_obstacleOf_43 : decode cX5_obstacleOf 43 = .ok (.ireturn, 1) := by decide +kernel
theorem dX5_obstacleOf_44 : decode cX5_obstacleOf 44 = .ok (.iload_n 1, 1) := by decide +kernel
theorem dX5_obstacleOf_45 : decode cX5_obstacleOf 45 = .ok (.bipush 7, 2) := by decide +kernel
theorem dX5_obstacleOf_47 : decode cX5_obstacleOf 47 = .ok (.if_icmp .eq 9, 3) := by decide +kernel
theorem dX5_obstacleOf_50 : decode cX5_obstacleOf 50 = .ok (.iload_n 1, 1) := by decide +kernel
theorem dX5_obstacleOf_51 : decode cX5_obstacleOf 51 = .ok (.bipush 12, 2) := by decide +kernel
theorem dX5_obstacleOf_53 : decode cX5_obstacleOf 53 = .ok (.if_icmp .ne 17, 3) := by decide +kernel
theorem dX5_obstacleOf_56 : decode cX5_obstacleOf 56 = .ok (.iload_n 2, 1) := by decide +kernel
theorem dX5_obstacleOf_57 : decode cX5_obstacleOf 57 = .ok (.iconst 0, 1) := by decide +kernel
theorem dX5_obstacleOf_58 : decode cX5_obstacleOf 58 = .ok (.aload_n 0, 1) := by decide +kernel
theorem dX5_obstacleOf_59 : decode cX5_obstacleOf 59 = .ok (.getfield 66, 3) := by decide +kernel
theorem dX5_obstacleOf_62 : decode cX5_obstacleOf 62 = .ok (.iconst 1, 1) := by decide +kernel
theorem dX5_obstacleOf_63 : decode cX5_obstacleOf 63 = .ok (.isub, 1) := by decide +kernel
theorem dX5_obstacleOf_64 : decode cX5_obstacleOf 64 = .ok (.invokestatic 146, 3) := by decide +kernel
theorem dX5_obstacleOf_67 : decode cX5_obstacleOf 67 = .ok (.ifCond .eq 7, 3) := by decide +kernel
theorem dX5_obstacleOf_70 : decode cX5_obstacleOf 70 = .ok (.iconst 1, 1) := by decide +kernel
theorem dX5_obstacleOf_71 : decode cX5_obstacleOf 71 = .ok (.goto 4, 3) := by decide +kernel
theorem dX5_obstacleOf_74 : decode cX5_obstacleOf 74 = .ok (.iconst 0, 1) := by decide +kernel
theorem dX5_obstacleOf_75 : decode cX5_obstacleOf 75 = .ok (.istore_n 3, 1) := by decide +kernel
theorem dX5_obstacleOf_76 : decode cX5_obstacleOf 76 = .ok (.iload_n 1, 1) := by decide +kernel
theorem dX5_obstacleOf_77 : decode cX5_obstacleOf 77 = .ok (.bipush 13, 2) := by decide +kernel
theorem dX5_obstacleOf_79 : decode cX5_obstacleOf 79 = .ok (.if_icmp .ne 33, 3) := by decide +kernel
theorem dX5_obstacleOf_82 : decode cX5_obstacleOf 82 = .ok (.iload_n 2, 1) := by decide +kernel
theorem dX5_obstacleOf_83 : decode cX5_obstacleOf 83 = .ok (.iconst 0, 1) := by decide +kernel
theorem dX5_obstacleOf_84 : decode cX5_obstacleOf 84 = .ok (.aload_n 0, 1) := by decide +kernel
theorem dX5_obstacleOf_85 : decode cX5_obstacleOf 85 = .ok (.getfield 69, 3) := by decide +kernel
theorem dX5_obstacleOf_88 : decode cX5_obstacleOf 88 = .ok (.iconst 1, 1) := by decide +kernel
theorem dX5_obstacleOf_89 : decode cX5_obstacleOf 89 = .ok (.isub, 1) := by decide +kernel
theorem dX5_obstacleOf_90 : decode cX5_obstacleOf 90 = .ok (.invokestatic 146, 3) := by decide +kernel
theorem dX5_obstacleOf_93 : decode cX5_obstacleOf 93 = .ok (.ifCond .eq 23, 3) := by decide +kernel
theorem dX5_obstacleOf_96 : decode cX5_obstacleOf 96 = .ok (.aload_n 0, 1) := by decide +kernel
theorem dX5_obstacleOf_97 : decode cX5_obstacleOf 97 = .ok (.getfield 28, 3) := by decide +kernel
theorem dX5_obstacleOf_100 : decode cX5_obstacleOf 100 = .ok (.aload_n 0, 1) := by decide +kernel
theorem dX5_obstacleOf_101 : decode cX5_obstacleOf 101 = .ok (.getfield 69, 3) := by decide +kernel
theorem dX5_obstacleOf_104 : decode cX5_obstacleOf 104 = .ok (.iconst 1, 1) := by decide +kernel
theorem dX5_obstacleOf_105 : decode cX5_obstacleOf 105 = .ok (.isub, 1) := by decide +kernel
theorem dX5_obstacleOf_106 : decode cX5_obstacleOf 106 = .ok (.iload_n 2, 1) := by decide +kernel
theorem dX5_obstacleOf_107 : decode cX5_obstacleOf 107 = .ok (.isub, 1) := by decide +kernel
theorem dX5_obstacleOf_108 : decode cX5_obstacleOf 108 = .ok (.baload, 1) := by decide +kernel
theorem dX5_obstacleOf_109 : decode cX5_obstacleOf 109 = .ok (.ifCond .ne 7, 3) := by decide +kernel
theorem dX5_obstacleOf_112 : decode cX5_obstacleOf 112 = .ok (.iconst 1, 1) := by decide +kernel
theorem dX5_obstacleOf_113 : decode cX5_obstacleOf 113 = .ok (.goto 4, 3) := by decide +kernel
theorem dX5_obstacleOf_116 : decode cX5_obstacleOf 116 = .ok (.iconst 0, 1) := by decide +kernel
theorem dX5_obstacleOf_117 : decode cX5_obstacleOf 117 = .ok (.istore 4, 2) := by decide +kernel
theorem dX5_obstacleOf_119 : decode cX5_obstacleOf 119 = .ok (.iload_n 3, 1) := by decide +kernel
theorem dX5_obstacleOf_120 : decode cX5_obstacleOf 120 = .ok (.ifCond .eq 8, 3) := by decide +kernel
theorem dX5_obstacleOf_123 : decode cX5_obstacleOf 123 = .ok (.iload 4, 2) := by decide +kernel
theorem dX5_obstacleOf_125 : decode cX5_obstacleOf 125 = .ok (.ifCond .ne 7, 3) := by decide +kernel
theorem dX5_obstacleOf_128 : decode cX5_obstacleOf 128 = .ok (.iconst 3, 1) := by decide +kernel
theorem dX5_obstacleOf_129 : decode cX5_obstacleOf 129 = .ok (.goto 17, 3) := by decide +kernel
theorem dX5_obstacleOf_132 : decode cX5_obstacleOf 132 = .ok (.aload_n 0, 1) := by decide +kernel
theorem dX5_obstacleOf_133 : decode cX5_obstacleOf 133 = .ok (.getfield 69, 3) := by decide +kernel
theorem dX5_obstacleOf_136 : decode cX5_obstacleOf 136 = .ok (.bipush 12, 2) := by decide +kernel
theorem dX5_obstacleOf_138 : decode cX5_obstacleOf 138 = .ok (.if_icmp .ne 7, 3) := by decide +kernel
theorem dX5_obstacleOf_141 : decode cX5_obstacleOf 141 = .ok (.iconst 4, 1) := by decide +kernel
theorem dX5_obstacleOf_142 : decode cX5_obstacleOf 142 = .ok (.goto 4, 3) := by decide +kernel
theorem dX5_obstacleOf_145 : decode cX5_obstacleOf 145 = .ok (.iconst 0, 1) := by decide +kernel
theorem dX5_obstacleOf_146 : decode cX5_obstacleOf 146 = .ok (.ireturn, 1) := by decide +kernel
set_option maxRecDepth 20000 in
theorem ggX5_play_X5_isIn : GoodIn wsX5_play wsX5_isIn := goodIn_r _ [17] (by decide +kernel) (by decide +kernel)
set_option maxRecDepth 20000 in
theorem gX5_play_X5_isIn : GoodIn wsX5_play (va_wsS RX5 146 yX5_isIn wsX5_isIn) := goodIn_app (goodIn_of _ (by decide +kernel)) ggX5_play_X5_isIn
set_option maxRecDepth 20000 in
theorem ggX5_play_X5_obstacleOf : GoodIn wsX5_play wsX5_obstacleOf := goodIn_r _ [21, 5, 3, 22, 2, 23, 6, 24, 25, 16, 26, 14, 15, 17, 27, 28, 29, 30, 31, 32, 33, 34, 35, 36, 37, 38, 39, 40, 41, 42, 43, 44, 45, 46, 47, 48, 49, 50, 51, 52, 53] (by decide +kernel) (by decide +kernel)
set_option maxRecDepth 20000 in
theorem gX5_play_X5_obstacleOf : GoodIn wsX5_play (wsV RX5 150 RX5 yX5_obstacleOf wsX5_obstacleOf) := goodIn_app (goodIn_of _ (by decide +kernel)) ggX5_play_X5_obstacleOf
set_option maxRecDepth 20000 in
theorem ggX5_play_X5_cost : GoodIn wsX5_play wsX5_cost := goodIn_r _ [26] (by decide +kernel) (by decide +kernel)
set_option maxRecDepth 20000 in
theorem gX5_play_X5_cost : GoodIn wsX5_play (va_wsS RX5 143 yX5_cost wsX5_cost) := goodIn_app (goodIn_of _ (by decide +kernel)) ggX5_play_X5_cost
theorem dX5_play_0 : decode cX5_play 0 = .ok (.aload_n 0, 1) := by decide +kernel
theorem dX5_play_1 : decode cX5_play 1 = .ok (.iload_n 1, 1) := by decide +kernel
theorem dX5_play_2 : decode cX5_play 2 = .ok (.iconst 0, 1) := by decide +kernel
theorem dX5_play_3 : decode cX5_play 3 = .ok (.bipush 13, 2) := by decide +kernel
theorem dX5_play_5 : decode cX5_play 5 = .ok (.invokestatic 146, 3) := by decide +kernel
theorem dX5_play_8 : decode cX5_play 8 = .ok (.ifCond .eq 7, 3) := by decide +kernel
theorem dX5_play_11 : decode cX5_play 11 = .ok (.iconst 0, 1) := by decide +kernel
theorem dX5_play_12 : decode cX5_play 12 = .ok (.goto 4, 3) := by decide +kernel
theorem dX5_play_15 : decode cX5_play 15 = .ok (.iconst 1, 1) := by decide +kernel
theorem dX5_play_16 : decode cX5_play 16 = .ok (.putfield 62, 3) := by decide +kernel
theorem dX5_play_19 : decode cX5_play 19 = .ok (.aload_n 0, 1) := by decide +kernel
theorem dX5_play_20 : decode cX5_play 20 = .ok (.getfield 62, 3) := by decide +kernel
theorem dX5_play_23 : decode cX5_play 23 = .ok (.ifCond .le 5, 3) := by decide +kernel
theorem dX5_play_26 : decode cX5_play 26 = .ok (.iconst 0, 1) := by decide +kernel
theorem dX5_play_27 : decode cX5_play 27 = .ok (.ireturn, 1) := by decide +kernel
theorem dX5_play_28 : decode cX5_play 28 = .ok (.aload_n 0, 1) := by decide +kernel
theorem dX5_play_29 : decode cX5_play 29 = .ok (.aload_n 0, 1) := by decide +kernel
theorem dX5_play_30 : decode cX5_play 30 = .ok (.iload_n 1, 1) := by decide +kernel
theorem dX5_play_31 : decode cX5_play 31 = .ok (.iload_n 2, 1) := by decide +kernel
theorem dX5_play_32 : decode cX5_play 32 = .ok (.invokevirtual 150, 3) := by decide +kernel
theorem dX5_play_35 : decode cX5_play 35 = .ok (.ifCond .le 7, 3) := by decide +kernel
theorem dX5_play_38 : decode cX5_play 38 = .ok (.iconst 2, 1) := by decide +kernel
theorem dX5_play_39 : decode cX5_play 39 = .ok (.goto 4, 3) := by decide +kernel
theorem dX5_play_42 : decode cX5_play 42 = .ok (.iconst 0, 1) := by decide +kernel
theorem dX5_play_43 : decode cX5_play 43 = .ok (.putfield 62, 3) := by decide +kernel
theorem dX5_play_46 : decode cX5_play 46 = .ok (.aload_n 0, 1) := by decide +kernel
theorem dX5_play_47 : decode cX5_play 47 = .ok (.getfield 62, 3) := by decide +kernel
theorem dX5_play_50 : decode cX5_play 50 = .ok (.ifCond .le 5, 3) := by decide +kernel
theorem dX5_play_53 : decode cX5_play 53 = .ok (.iconst 0, 1) := by decide +kernel
theorem dX5_play_54 : decode cX5_play 54 = .ok (.ireturn, 1) := by decide +kernel
theorem dX5_play_55 : decode cX5_play 55 = .ok (.aload_n 0, 1) := by decide +kernel
theorem dX5_play_56 : decode cX5_play 56 = .ok (.getfield 7, 3) := by decide +kernel
theorem dX5_play_59 : decode cX5_play 59 = .ok (.aload_n 0, 1) := by decide +kernel
theorem dX5_play_60 : decode cX5_play 60 = .ok (.getfield 97, 3) := by decide +kernel
theorem dX5_play_63 : decode cX5_play 63 = .ok (.dup2, 1) := by decide +kernel
theorem dX5_play_64 : decode cX5_play 64 = .ok (.iaload, 1) := by decide +kernel
theorem dX5_play_65 : decode cX5_play 65 = .ok (.iload_n 1, 1) := by decide +kernel
theorem dX5_play_66 : decode cX5_play 66 = .ok (.invokestatic 143, 3) := by decide +kernel
theorem dX5_play_69 : decode cX5_play 69 = .ok (.isub, 1) := by decide +kernel
theorem dX5_play_70 : decode cX5_play 70 = .ok (.iastore, 1) := by decide +kernel
theorem dX5_play_71 : decode cX5_play 71 = .ok (.aload_n 0, 1) := by decide +kernel
theorem dX5_play_72 : decode cX5_play 72 = .ok (.getfield 25, 3) := by decide +kernel
theorem dX5_play_75 : decode cX5_play 75 = .ok (.aload_n 0, 1) := by decide +kernel
theorem dX5_play_76 : decode cX5_play 76 = .ok (.getfield 69, 3) := by decide +kernel
theorem dX5_play_79 : decode cX5_play 79 = .ok (.iload_n 1, 1) := by decide +kernel
theorem dX5_play_80 : decode cX5_play 80 = .ok (.iastore, 1) := by decide +kernel
theorem dX5_play_81 : decode cX5_play 81 = .ok (.aload_n 0, 1) := by decide +kernel
theorem dX5_play_82 : decode cX5_play 82 = .ok (.getfield 28, 3) := by decide +kernel
theorem dX5_play_85 : decode cX5_play 85 = .ok (.aload_n 0, 1) := by decide +kernel
theorem dX5_play_86 : decode cX5_play 86 = .ok (.getfield 69, 3) := by decide +kernel
theorem dX5_play_89 : decode cX5_play 89 = .ok (.iconst 0, 1) := by decide +kernel
theorem dX5_play_90 : decode cX5_play 90 = .ok (.bastore, 1) := by decide +kernel
theorem dX5_play_91 : decode cX5_play 91 = .ok (.aload_n 0, 1) := by decide +kernel
theorem dX5_play_92 : decode cX5_play 92 = .ok (.getfield 32, 3) := by decide +kernel
theorem dX5_play_95 : decode cX5_play 95 = .ok (.aload_n 0, 1) := by decide +kernel
theorem dX5_play_96 : decode cX5_play 96 = .ok (.getfield 69, 3) := by decide +kernel
theorem dX5_play_99 : decode cX5_play 99 = .ok (.aload_n 0, 1) := by decide +kernel
theorem dX5_play_100 : decode cX5_play 100 = .ok (.getfield 97, 3) := by decide +kernel
theorem dX5_play_103 : decode cX5_play 103 = .ok (.iastore, 1) := by decide +kernel
theorem dX5_play_104 : decode cX5_play 104 = .ok (.aload_n 0, 1) := by decide +kernel
theorem dX5_play_105 : decode cX5_play 105 = .ok (.dup, 1) := by decide +kernel
theorem dX5_play_106 : decode cX5_play 106 = .ok (.getfield 80, 3) := by decide +kernel
theorem dX5_play_109 : decode cX5_play 109 = .ok (.iconst 1, 1) := by decide +kernel
theorem dX5_play_110 : decode cX5_play 110 = .ok (.iadd, 1) := by decide +kernel
theorem dX5_play_111 : decode cX5_play 111 = .ok (.putfield 80, 3) := by decide +kernel
theorem dX5_play_114 : decode cX5_play 114 = .ok (.aload_n 0, 1) := by decide +kernel
theorem dX5_play_115 : decode cX5_play 115 = .ok (.getfield 35, 3) := by decide +kernel
theorem dX5_play_118 : decode cX5_play 118 = .ok (.aload_n 0, 1) := by decide +kernel
theorem dX5_play_119 : decode cX5_play 119 = .ok (.getfield 69, 3) := by decide +kernel
theorem dX5_play_122 : decode cX5_play 122 = .ok (.aload_n 0, 1) := by decide +kernel
theorem dX5_play_123 : decode cX5_play 123 = .ok (.getfield 80, 3) := by decide +kernel
theorem dX5_play_126 : decode cX5_play 126 = .ok (.iastore, 1) := by decide +kernel
theorem dX5_play_127 : decode cX5_play 127 = .ok (.aload_n 0, 1) := by decide +kernel
theorem dX5_play_128 : decode cX5_play 128 = .ok (.getfield 38, 3) := by decide +kernel
theorem dX5_play_131 : decode cX5_play 131 = .ok (.aload_n 0, 1) := by decide +kernel
theorem dX5_play_132 : decode cX5_play 132 = .ok (.getfield 69, 3) := by decide +kernel
theorem dX5_play_135 : decode cX5_play 135 = .ok (.iload_n 1, 1) := by decide +kernel
theorem dX5_play_136 : decode cX5_play 136 = .ok (.bipush 7, 2) := by decide +kernel
theorem dX5_play_138 : decode cX5_play 138 = .ok (.if_icmp .eq 9, 3) := by decide +kernel
theorem dX5_play_141 : decode cX5_play 141 = .ok (.iload_n 1, 1) := by decide +kernel
theorem dX5_play_142 : decode cX5_play 142 = .ok (.bipush 12, 2) := by decide +kernel
theorem dX5_play_144 : decode cX5_play 144 = .ok (.if_icmp .ne 12, 3) := by decide +kernel
theorem dX5_play_147 : decode cX5_play 147 = .ok (.aload_n 0, 1) := by decide +kernel
theorem dX5_play_148 : decode cX5_play 148 = .ok (.getfield 19, 3) := by decide +kernel
theorem dX5_play_151 : decode cX5_play 151 = .ok (.iload_n 2, 1) := by decide +kernel
theorem dX5_play_152 : decode cX5_play 152 = .ok (.iaload, 1) := by decide +kernel
theorem dX5_play_153 : decode cX5_play 153 = .ok (.goto 26, 3) := by decide +kernel
theorem dX5_play_156 : decode cX5_play 156 = .ok (.iload_n 1, 1) := by decide +kernel
theorem dX5_play_157 : decode cX5_play 157 = .ok (.bipush 13, 2) := by decide +kernel
theorem dX5_play_159 : decode cX5_play 159 = .ok (.if_icmp .ne 19, 3) := by decide +kernel
theorem dX5_play_162 : decode cX5_play 162 = .ok (.aload_n 0, 1) := by decide +kernel
theorem dX5_play_163 : decode cX5_play 163 = .ok (.getfield 35, 3) := by decide +kernel
theorem dX5_play_166 : decode cX5_play 166 = .ok (.aload_n 0, 1) := by decide +kernel
theorem dX5_play_167 : decode cX5_play 167 = .ok (.getfield 69, 3) := by decide +kernel
theorem dX5_play_170 : decode cX5_play 170 = .ok (.iconst 1, 1) := by decide +kernel
theorem dX5_play_171 : decode cX5_play 171 = .ok (.isub, 1) := by decide +kernel
theorem dX5_play_172 : decode cX5_play 172 = .ok (.iload_n 2, 1) := by decide +kernel
theorem dX5_play_173 : decode cX5_play 173 = .ok (.isub, 1) := by decide +kernel
theorem dX5_play_174 : decode cX5_play 174 = .ok (.iaload, 1) := by decide +kernel
theorem dX5_play_175 : decode cX5_play 175 = .ok (.goto 4, 3) := by decide +kernel
theorem dX5_play_178 : decode cX5_play 178 = .ok (.iconst 0, 1) := by decide +kernel
theorem dX5_play_179 : decode cX5_play 179 = .ok (.iastore, 1) := by decide +kernel
theorem dX5_play_180 : decode cX5_play 180 = .ok (.aload_n 0, 1) := by decide +kernel
theorem dX5_play_181 : decode cX5_play 181 = .ok (.dup, 1) := by decide +kernel
theorem dX5_play_182 : decode cX5_play 182 = .ok (.getfield 69, 3) := by decide +kernel
theorem dX5_play_185 : decode cX5_play 185 = .ok (.iconst 1, 1) := by decide +kernel
theorem dX5_play_186 : decode cX5_play 186 = .ok (.iadd, 1) := by decide +kernel
theorem dX5_play_187 : decode cX5_play 187 = .ok (.putfield 69, 3) := by decide +kernel
theorem dX5_play_190 : decode cX5_play 190 = .ok (.aload_n 0, 1) := by decide +kernel
theorem dX5_play_191 : decode cX5_play 191 = .ok (.aload_n 0, 1) := by decide +kernel
theorem dX5_play_192 : decode cX5_play 192 = .ok (.getfield 97, 3) := by decide +kernel
theorem dX5_play_195 : decode cX5_play 195 = .ok (.iconst 1, 1) := by decide +kernel
theorem dX5_play_196 : decode cX5_play 196 = .ok (.iadd, 1) := by decide +kernel
theorem dX5_play_197 : decode cX5_play 197 = .ok (.iconst 3, 1) := by decide +kernel
theorem dX5_play_198 : decode cX5_play 198 = .ok (.irem, 1) := by decide +kernel
theorem dX5_play_199 : decode cX5_play 199 = .ok (.putfield 97, 3) := by decide +kernel
theorem dX5_play_202 : decode cX5_play 202 = .ok (.aload_n 0, 1) := by decide +kernel
theorem dX5_play_203 : decode cX5_play 203 = .ok (.iconst 0, 1) := by decide +kernel
theorem dX5_play_204 : decode cX5_play 204 = .ok (.putfield 140, 3) := by decide +kernel
theorem dX5_play_207 : decode cX5_play 207 = .ok (.aload_n 0, 1) := by decide +kernel
theorem dX5_play_208 : decode cX5_play 208 = .ok (.iconst 0, 1) := by decide +kernel
theorem dX5_play_209 : decode cX5_play 209 = .ok (.putfield 103, 3) := by decide +kernel
theorem dX5_play_212 : decode cX5_play 212 = .ok (.aload_n 0, 1) := by decide +kernel
theorem dX5_play_213 : decode cX5_play 213 = .ok (.getfield 69, 3) := by decide +kernel
theorem dX5_play_216 : decode cX5_play 216 = .ok (.ireturn, 1) := by decide +kernel
set_option maxRecDepth 20000 in
theorem ggX5_obstacle_X5_isIn : GoodIn wsX5_obstacle wsX5_isIn := goodIn_r _ [5] (by decide +kernel) (by decide +kernel)
set_option maxRecDepth 20000 in
theorem gX5_obstacle_X5_isIn : GoodIn wsX5_obstacle (va_wsS RX5 146 yX5_isIn wsX5_isIn) := goodIn_app (goodIn_of _ (by decide +kernel)) ggX5_obstacle_X5_isIn
set_option maxRecDepth 20000 in
theorem ggX5_obstacle_X5_obstacleOf : GoodIn wsX5_obstacle wsX5_obstacleOf := goodIn_r _ [9, 10, 11, 12, 13, 14, 15, 16, 17, 4, 18, 2, 3, 5, 19, 20, 21, 22, 23, 24, 25, 26, 27, 28, 29, 30, 31, 32, 33, 34, 35, 36, 37, 38, 39, 40, 41, 42, 43, 44, 45] (by decide +kernel) (by decide +kernel)
set_option maxRecDepth 20000 in
theorem gX5_obstacle_X5_obstacleOf : GoodIn wsX5_obstacle (wsV RX5 150 RX5 yX5_obstacleOf wsX5_obstacleOf) := goodIn_app (goodIn_of _ (by decide +kernel)) ggX5_obstacle_X5_obstacleOf
theorem dX5_obstacle_0 : decode cX5_obstacle 0 = .ok (.aload_n 0, 1) := by decide +kernel
theorem dX5_obstacle_1 : decode cX5_obstacle 1 = .ok (.iload_n 1, 1) := by decide +kernel
theorem dX5_obstacle_2 : decode cX5_obstacle 2 = .ok (.iconst 0, 1) := by decide +kernel
theorem dX5_obstacle_3 : decode cX5_obstacle 3 = .ok (.bipush 13, 2) := by decide +kernel
theorem dX5_obstacle_5 : decode cX5_obstacle 5 = .ok (.invokestatic 146, 3) := by decide +kernel
theorem dX5_obstacle_8 : decode cX5_obstacle 8 = .ok (.ifCond .eq 7, 3) := by decide +kernel
theorem dX5_obstacle_11 : decode cX5_obstacle 11 = .ok (.iconst 0, 1) := by decide +kernel
theorem dX5_obstacle_12 : decode cX5_obstacle 12 = .ok (.goto 4, 3) := by decide +kernel
theorem dX5_obstacle_15 : decode cX5_obstacle 15 = .ok (.iconst 1, 1) := by decide +kernel
theorem dX5_obstacle_16 : decode cX5_obstacle 16 = .ok (.putfield 62, 3) := by decide +kernel
theorem dX5_obstacle_19 : decode cX5_obstacle 19 = .ok (.aload_n 0, 1) := by decide +kernel
theorem dX5_obstacle_20 : decode cX5_obstacle 20 = .ok (.getfield 62, 3) := by decide +kernel
theorem dX5_obstacle_23 : decode cX5_obstacle 23 = .ok (.ifCond .le 7, 3) := by decide +kernel
theorem dX5_obstacle_26 : decode cX5_obstacle 26 = .ok (.iconst 0, 1) := by decide +kernel
theorem dX5_obstacle_27 : decode cX5_obstacle 27 = .ok (.goto 9, 3) := by decide +kernel
theorem dX5_obstacle_30 : decode cX5_obstacle 30 = .ok (.aload_n 0, 1) := by decide +kernel
theorem dX5_obstacle_31 : decode cX5_obstacle 31 = .ok (.iload_n 1, 1) := by decide +kernel
theorem dX5_obstacle_32 : decode cX5_obstacle 32 = .ok (.iload_n 2, 1) := by decide +kernel
theorem dX5_obstacle_33 : decode cX5_obstacle 33 = .ok (.invokevirtual 150, 3) := by decide +kernel
theorem dX5_obstacle_36 : decode cX5_obstacle 36 = .ok (.ireturn, 1) := by decide +kernel
set_option maxRecDepth 20000 in
theorem ggX5_pass_X5_resolves : GoodIn wsX5_pass wsX5_resolves := goodIn_r _ [9, 4, 10, 11, 12, 13, 14, 3, 2, 15, 16, 17, 8, 18, 19, 20, 21, 22, 23, 24, 25, 26, 27, 28, 29, 30, 31, 32, 33, 34, 35, 36, 37, 38, 39, 40, 41, 42, 43, 44, 45, 46, 47, 48, 49, 50, 51, 52, 53, 54, 55, 56, 57, 58, 59, 60, 61, 62, 63, 64, 65, 66, 67, 68, 69, 70, 71, 72, 73, 74, 75, 76, 77, 78, 79, 80, 81, 82, 83, 84, 85, 86, 87, 88, 89, 90, 91, 97, 98, 99, 100, 101, 102, 103, 104, 105, 106, 107, 108, 109, 110, 111, 112, 113, 114, 115, 116, 117, 118, 119, 120, 121, 122, 123] (by decide +kernel) (by decide +kernel)
set_option maxRecDepth 20000 in
theorem gX5_pass_X5_resolves : GoodIn wsX5_pass (wsV RX5 154 RX5 yX5_resolves wsX5_resolves) := goodIn_app (goodIn_of _ (by decide +kernel)) ggX5_pass_X5_resolves
set_option maxRecDepth 20000 in
theorem ggX5_pass_X5_begins : GoodIn wsX5_pass wsX5_begins := goodIn_r _ [95, 14, 3, 96, 19, 80, 24, 25, 34, 35, 36, 37, 8, 38, 26, 39, 40, 41, 42, 43, 44, 45, 46, 29, 47, 48, 49, 50, 28, 51, 52, 53, 54, 4, 10, 13, 11, 27, 55, 12, 97, 98, 99, 100, 101, 102, 103, 104, 105, 106, 107, 108, 109, 110, 111, 112, 113, 114, 115, 116, 117, 118, 119, 120, 121, 122, 123] (by decide +kernel) (by decide +kernel)
set_option maxRecDepth 20000 in
theorem gX5_pass_X5_begins : GoodIn wsX5_pass (wsV RX5 157 RX5 yX5_begins wsX5_begins) := goodIn_app (goodIn_of _ (by decide +kernel)) ggX5_pass_X5_begins
theorem dX5_pass_0 : decode cX5_pass 0 = .ok (.aload_n 0, 1) := by decide +kernel
theorem dX5_pass_1 : decode cX5_pass 1 = .ok (.iconst 0, 1) := by decide +kernel
theorem dX5_pass_2 : decode cX5_pass 2 = .ok (.putfield 62, 3) := by decide +kernel
theorem dX5_pass_5 : decode cX5_pass 5 = .ok (.aload_n 0, 1) := by decide +kernel
theorem dX5_pass_6 : decode cX5_pass 6 = .ok (.dup, 1) := by decide +kernel
theorem dX5_pass_7 : decode cX5_pass 7 = .ok (.getfield 140, 3) := by decide +kernel
theorem dX5_pass_10 : decode cX5_pass 10 = .ok (.iconst 1, 1) := by decide +kernel
theorem dX5_pass_11 : decode cX5_pass 11 = .ok (.iadd, 1) := by decide +kernel
theorem dX5_pass_12 : decode cX5_pass 12 = .ok (.putfield 140, 3) := by decide +kernel
theorem dX5_pass_15 : decode cX5_pass 15 = .ok (.aload_n 0, 1) := by decide +kernel
theorem dX5_pass_16 : decode cX5_pass 16 = .ok (.getfield 140, 3) := by decide +kernel
theorem dX5_pass_19 : decode cX5_pass 19 = .ok (.iconst 3, 1) := by decide +kernel
theorem dX5_pass_20 : decode cX5_pass 20 = .ok (.if_icmp .ge 17, 3) := by decide +kernel
theorem dX5_pass_23 : decode cX5_pass 23 = .ok (.aload_n 0, 1) := by decide +kernel
theorem dX5_pass_24 : decode cX5_pass 24 = .ok (.aload_n 0, 1) := by decide +kernel
theorem dX5_pass_25 : decode cX5_pass 25 = .ok (.getfield 97, 3) := by decide +kernel
theorem dX5_pass_28 : decode cX5_pass 28 = .ok (.iconst 1, 1) := by decide +kernel
theorem dX5_pass_29 : decode cX5_pass 29 = .ok (.iadd, 1) := by decide +kernel
theorem dX5_pass_30 : decode cX5_pass 30 = .ok (.iconst 3, 1) := by decide +kernel
theorem dX5_pass_31 : decode cX5_pass 31 = .ok (.irem, 1) := by decide +kernel
theorem dX5_pass_32 : decode cX5_pass 32 = .ok (.putfield 97, 3) := by decide +kernel
theorem dX5_pass_35 : decode cX5_pass 35 = .ok (.iconst 0, 1) := by decide +kernel
theorem dX5_pass_36 : decode cX5_pass 36 = .ok (.ireturn, 1) := by decide +kernel
theorem dX5_pass_37 : decode cX5_pass 37 = .ok (.aload_n 0, 1) := by decide +kernel
theorem dX5_pass_38 : decode cX5_pass 38 = .ok (.iconst 0, 1) := by decide +kernel
theorem dX5_pass_39 : decode cX5_pass 39 = .ok (.putfield 140, 3) := by decide +kernel
theorem dX5_pass_42 : decode cX5_pass 42 = .ok (.aload_n 0, 1) := by decide +kernel
theorem dX5_pass_43 : decode cX5_pass 43 = .ok (.getfield 69, 3) := by decide +kernel
theorem dX5_pass_46 : decode cX5_pass 46 = .ok (.ifCond .le 9, 3) := by decide +kernel
theorem dX5_pass_49 : decode cX5_pass 49 = .ok (.aload_n 0, 1) := by decide +kernel
theorem dX5_pass_50 : decode cX5_pass 50 = .ok (.invokevirtual 154, 3) := by decide +kernel
theorem dX5_pass_53 : decode cX5_pass 53 = .ok (.iconst 1, 1) := by decide +kernel
theorem dX5_pass_54 : decode cX5_pass 54 = .ok (.ireturn, 1) := by decide +kernel
theorem dX5_pass_55 : decode cX5_pass 55 = .ok (.aload_n 0, 1) := by decide +kernel
theorem dX5_pass_56 : decode cX5_pass 56 = .ok (.invokevirtual 157, 3) := by decide +kernel
theorem dX5_pass_59 : decode cX5_pass 59 = .ok (.iconst 2, 1) := by decide +kernel
theorem dX5_pass_60 : decode cX5_pass 60 = .ok (.ireturn, 1) := by decide +kernel
set_option maxRecDepth 20000 in
theorem ggX5_settle_X5_isIn : GoodIn wsX5_settle wsX5_isIn := goodIn_r _ [6] (by decide +kernel) (by decide +kernel)
set_option maxRecDepth 20000 in
theorem gX5_settle_X5_isIn : GoodIn wsX5_settle (va_wsS RX5 146 yX5_isIn wsX5_isIn) := goodIn_app (goodIn_of _ (by decide +kernel)) ggX5_settle_X5_isIn
set_option maxRecDepth 20000 in
theorem ggX5_settle_X5_resolves : GoodIn wsX5_settle wsX5_resolves := goodIn_r _ [10, 2, 11, 12, 13, 14, 15, 16, 17, 18, 19, 20, 5, 21, 22, 23, 24, 25, 26, 27, 28, 29, 30, 31, 32, 33, 34, 35, 36, 37, 38, 39, 40, 41, 42, 43, 44, 45, 46, 47, 48, 49, 50, 51, 52, 53, 54, 55, 56, 57, 58, 59, 60, 61, 62, 63, 64, 65, 66, 67, 68, 69, 70, 71, 72, 73, 74, 75, 76, 77, 78, 79, 80, 81, 82, 83, 84, 85, 86, 87, 88, 89, 90, 91, 92, 93, 94, 95, 96, 97, 98, 99, 100, 101, 102, 103, 104, 105, 106, 107, 108, 109, 110, 111, 112, 113, 114, 115, 116, 117, 118, 119, 120, 121] (by decide +kernel) (by decide +kernel)
set_option maxRecDepth 20000 in
theorem gX5_settle_X5_resolves : GoodIn wsX5_settle (wsV RX5 154 RX5 yX5_resolves wsX5_resolves) := goodIn_app (goodIn_of _ (by decide +kernel)) ggX5_settle_X5_resolves
theorem dX5_settle_0 : decode cX5_settle 0 = .ok (.aload_n 0, 1) := by decide +kernel
theorem dX5_settle_1 : decode cX5_settle 1 = .ok (.iload_n 1, 1) := by decide +kernel
theorem dX5_settle_2 : decode cX5_settle 2 = .ok (.iconst 1, 1) := by decide +kernel
theorem dX5_settle_3 : decode cX5_settle 3 = .ok (.bipush 60, 2) := by decide +kernel
theorem dX5_settle_5 : decode cX5_settle 5 = .ok (.invokestatic 146, 3) := by decide +kernel
theorem dX5_settle_8 : decode cX5_settle 8 = .ok (.ifCond .eq 7, 3) := by decide +kernel
theorem dX5_settle_11 : decode cX5_settle 11 = .ok (.iconst 0, 1) := by decide +kernel
theorem dX5_settle_12 : decode cX5_settle 12 = .ok (.goto 4, 3) := by decide +kernel
theorem dX5_settle_15 : decode cX5_settle 15 = .ok (.iconst 1, 1) := by decide +kernel
theorem dX5_settle_16 : decode cX5_settle 16 = .ok (.putfield 62, 3) := by decide +kernel
theorem dX5_settle_19 : decode cX5_settle 19 = .ok (.iconst 0, 1) := by decide +kernel
theorem dX5_settle_20 : decode cX5_settle 20 = .ok (.istore_n 2, 1) := by decide +kernel
theorem dX5_settle_21 : decode cX5_settle 21 = .ok (.aload_n 0, 1) := by decide +kernel
theorem dX5_settle_22 : decode cX5_settle 22 = .ok (.getfield 62, 3) := by decide +kernel
theorem dX5_settle_25 : decode cX5_settle 25 = .ok (.ifCond .ne 25, 3) := by decide +kernel
theorem dX5_settle_28 : decode cX5_settle 28 = .ok (.iload_n 2, 1) := by decide +kernel
theorem dX5_settle_29 : decode cX5_settle 29 = .ok (.iload_n 1, 1) := by decide +kernel
theorem dX5_settle_30 : decode cX5_settle 30 = .ok (.if_icmp .ge 20, 3) := by decide +kernel
theorem dX5_settle_33 : decode cX5_settle 33 = .ok (.aload_n 0, 1) := by decide +kernel
theorem dX5_settle_34 : decode cX5_settle 34 = .ok (.getfield 69, 3) := by decide +kernel
theorem dX5_settle_37 : decode cX5_settle 37 = .ok (.ifCond .le 13, 3) := by decide +kernel
theorem dX5_settle_40 : decode cX5_settle 40 = .ok (.aload_n 0, 1) := by decide +kernel
theorem dX5_settle_41 : decode cX5_settle 41 = .ok (.invokevirtual 154, 3) := by decide +kernel
theorem dX5_settle_44 : decode cX5_settle 44 = .ok (.iinc 2 1, 3) := by decide +kernel
theorem dX5_settle_47 : decode cX5_settle 47 = .ok (.goto (-26), 3) := by decide +kernel
theorem dX5_settle_50 : decode cX5_settle 50 = .ok (.iload_n 2, 1) := by decide +kernel
theorem dX5_settle_51 : decode cX5_settle 51 = .ok (.ireturn, 1) := by decide +kernel
theorem dX5_turn_0 : decode cX5_turn 0 = .ok (.aload_n 0, 1) := by decide +kernel
theorem dX5_turn_1 : decode cX5_turn 1 = .ok (.iconst 0, 1) := by decide +kernel
theorem dX5_turn_2 : decode cX5_turn 2 = .ok (.putfield 62, 3) := by decide +kernel
theorem dX5_turn_5 : decode cX5_turn 5 = .ok (.aload_n 0, 1) := by decide +kernel
theorem dX5_turn_6 : decode cX5_turn 6 = .ok (.getfield 87, 3) := by decide +kernel
theorem dX5_turn_9 : decode cX5_turn 9 = .ok (.ireturn, 1) := by decide +kernel
theorem dX5_acting_0 : decode cX5_acting 0 = .ok (.aload_n 0, 1) := by decide +kernel
theorem dX5_acting_1 : decode cX5_acting 1 = .ok (.iconst 0, 1) := by decide +kernel
theorem dX5_acting_2 : decode cX5_acting 2 = .ok (.putfield 62, 3) := by decide +kernel
theorem dX5_acting_5 : decode cX5_acting 5 = .ok (.aload_n 0, 1) := by decide +kernel
theorem dX5_acting_6 : decode cX5_acting 6 = .ok (.getfield 97, 3) := by decide +kernel
theorem dX5_acting_9 : decode cX5_acting 9 = .ok (.ireturn, 1) := by decide +kernel
theorem dX5_rounds_0 : decode cX5_rounds 0 = .ok (.aload_n 0, 1) := by decide +kernel
theorem dX5_rounds_1 : decode cX5_rounds 1 = .ok (.iconst 0, 1) := by decide +kernel
theorem dX5_rounds_2 : decode cX5_rounds 2 = .ok (.putfield 62, 3) := by decide +kernel
theorem dX5_rounds_5 : decode cX5_rounds 5 = .ok (.aload_n 0, 1) := by decide +kernel
theorem dX5_rounds_6 : decode cX5_rounds 6 = .ok (.getfield 100, 3) := by decide +kernel
theorem dX5_rounds_9 : decode cX5_rounds 9 = .ok (.ireturn, 1) := by decide +kernel
theorem dX5_loops_0 : decode cX5_loops 0 = .ok (.aload_n 0, 1) := by decide +kernel
theorem dX5_loops_1 : decode cX5_loops 1 = .ok (.iconst 0, 1) := by decide +kernel
theorem dX5_loops_2 : decode cX5_loops 2 = .ok (.putfield 62, 3) := by decide +kernel
theorem dX5_loops_5 : decode cX5_loops 5 = .ok (.aload_n 0, 1) := by decide +kernel
theorem dX5_loops_6 : decode cX5_loops 6 = .ok (.getfield 125, 3) := by decide +kernel
theorem dX5_loops_9 : decode cX5_loops 9 = .ok (.ireturn, 1) := by decide +kernel
set_option maxRecDepth 20000 in
theorem ggX5_coins_X5_isIn : GoodIn wsX5_coins wsX5_isIn := goodIn_r _ [6] (by decide +kernel) (by decide +kernel)
set_option maxRecDepth 20000 in
theorem gX5_coins_X5_isIn : GoodIn wsX5_coins (va_wsS RX5 146 yX5_isIn wsX5_isIn) := goodIn_app (goodIn_of _ (by decide +kernel)) ggX5_coins_X5_isIn
theorem dX5_coins_0 : decode cX5_coins 0 = .ok (.aload_n 0, 1) := by decide +kernel
theorem dX5_coins_1 : decode cX5_coins 1 = .ok (.iload_n 1, 1) := by decide +kernel
theorem dX5_coins_2 : decode cX5_coins 2 = .ok (.iconst 0, 1) := by decide +kernel
theorem dX5_coins_3 : decode cX5_coins 3 = .ok (.iconst 2, 1) := by decide +kernel
theorem dX5_coins_4 : decode cX5_coins 4 = .ok (.invokestatic 146, 3) := by decide +kernel
theorem dX5_coins_7 : decode cX5_coins 7 = .ok (.ifCond .eq 7, 3) := by decide +kernel
theorem dX5_coins_10 : decode cX5_coins 10 = .ok (.iconst 0, 1) := by decide +kernel
theorem dX5_coins_11 : decode cX5_coins 11 = .ok (.goto 4, 3) := by decide +kernel
theorem dX5_coins_14 : decode cX5_coins 14 = .ok (.iconst 1, 1) := by decide +kernel
theorem dX5_coins_15 : decode cX5_coins 15 = .ok (.putfield 62, 3) := by decide +kernel
theorem dX5_coins_18 : decode cX5_coins 18 = .ok (.aload_n 0, 1) := by decide +kernel
theorem dX5_coins_19 : decode cX5_coins 19 = .ok (.getfield 62, 3) := by decide +kernel
theorem dX5_coins_22 : decode cX5_coins 22 = .ok (.ifCond .le 7, 3) := by decide +kernel
theorem dX5_coins_25 : decode cX5_coins 25 = .ok (.iconst 0, 1) := by decide +kernel
theorem dX5_coins_26 : decode cX5_coins 26 = .ok (.goto 9, 3) := by decide +kernel
theorem dX5_coins_29 : decode cX5_coins 29 = .ok (.aload_n 0, 1) := by decide +kernel
theorem dX5_coins_30 : decode cX5_coins 30 = .ok (.getfield 7, 3) := by decide +kernel
theorem dX5_coins_33 : decode cX5_coins 33 = .ok (.iload_n 1, 1) := by decide +kernel
theorem dX5_coins_34 : decode cX5_coins 34 = .ok (.iaload, 1) := by decide +kernel
theorem dX5_coins_35 : decode cX5_coins 35 = .ok (.ireturn, 1) := by decide +kernel
theorem dX5_things_0 : decode cX5_things 0 = .ok (.aload_n 0, 1) := by decide +kernel
theorem dX5_things_1 : decode cX5_things 1 = .ok (.iconst 0, 1) := by decide +kernel
theorem dX5_things_2 : decode cX5_things 2 = .ok (.putfield 62, 3) := by decide +kernel
theorem dX5_things_5 : decode cX5_things 5 = .ok (.aload_n 0, 1) := by decide +kernel
theorem dX5_things_6 : decode cX5_things 6 = .ok (.getfield 66, 3) := by decide +kernel
theorem dX5_things_9 : decode cX5_things 9 = .ok (.ireturn, 1) := by decide +kernel
set_option maxRecDepth 20000 in
theorem ggX5_cardOf_X5_isIn : GoodIn wsX5_cardOf wsX5_isIn := goodIn_r _ [7] (by decide +kernel) (by decide +kernel)
set_option maxRecDepth 20000 in
theorem gX5_cardOf_X5_isIn : GoodIn wsX5_cardOf (va_wsS RX5 146 yX5_isIn wsX5_isIn) := goodIn_app (goodIn_of _ (by decide +kernel)) ggX5_cardOf_X5_isIn
theorem dX5_cardOf_0 : decode cX5_cardOf 0 = .ok (.aload_n 0, 1) := by decide +kernel
theorem dX5_cardOf_1 : decode cX5_cardOf 1 = .ok (.iload_n 1, 1) := by decide +kernel
theorem dX5_cardOf_2 : decode cX5_cardOf 2 = .ok (.iconst 0, 1) := by decide +kernel
theorem dX5_cardOf_3 : decode cX5_cardOf 3 = .ok (.aload_n 0, 1) := by decide +kernel
end
section
theorem dX5_cardOf_4 : decode cX5_cardOf 4 = .ok (.getfield 66, 3) := by decide +kernel
theorem dX5_cardOf_7 : decode cX5_cardOf 7 = .ok (.iconst 1, 1) := by decide +kernel
theorem dX5_cardOf_8 : decode cX5_cardOf 8 = .ok (.isub, 1) := by decide +kernel
theorem dX5_cardOf_9 : decode cX5_cardOf 9 = .ok (.invokestatic 146, 3) := by decide +kernel
theorem dX5_cardOf_12 : decode cX5_cardOf 12 = .ok (.ifCond .eq 7, 3) := by decide +kernel
theorem dX5_cardOf_15 : decode cX5_cardOf 15 = .ok (.iconst 0, 1) := by decide +kernel
theorem dX5_cardOf_16 : decode cX5_cardOf 16 = .ok (.goto 4, 3) := by decide +kernel
theorem dX5_cardOf_19 : decode cX5_cardOf 19 = .ok (.iconst 1, 1) := by decide +kernel
theorem dX5_cardOf_20 : decode cX5_cardOf 20 = .ok (.putfield 62, 3) := by decide +kernel
theorem dX5_cardOf_23 : decode cX5_cardOf 23 = .ok (.aload_n 0, 1) := by decide +kernel
theorem dX5_cardOf_24 : decode cX5_cardOf 24 = .ok (.getfield 62, 3) := by decide +kernel
theorem dX5_cardOf_27 : decode cX5_cardOf 27 = .ok (.ifCond .le 7, 3) := by decide +kernel
theorem dX5_cardOf_30 : decode cX5_cardOf 30 = .ok (.iconst 0, 1) := by decide +kernel
theorem dX5_cardOf_31 : decode cX5_cardOf 31 = .ok (.goto 9, 3) := by decide +kernel
theorem dX5_cardOf_34 : decode cX5_cardOf 34 = .ok (.aload_n 0, 1) := by decide +kernel
theorem dX5_cardOf_35 : decode cX5_cardOf 35 = .ok (.getfield 13, 3) := by decide +kernel
theorem dX5_cardOf_38 : decode cX5_cardOf 38 = .ok (.iload_n 1, 1) := by decide +kernel
theorem dX5_cardOf_39 : decode cX5_cardOf 39 = .ok (.iaload, 1) := by decide +kernel
theorem dX5_cardOf_40 : decode cX5_cardOf 40 = .ok (.ireturn, 1) := by decide +kernel
set_option maxRecDepth 20000 in
theorem ggX5_isLaid_X5_isIn : GoodIn wsX5_isLaid wsX5_isIn := goodIn_r _ [6] (by decide +kernel) (by decide +kernel)
set_option maxRecDepth 20000 in
theorem gX5_isLaid_X5_isIn : GoodIn wsX5_isLaid (va_wsS RX5 146 yX5_isIn wsX5_isIn) := goodIn_app (goodIn_of _ (by decide +kernel)) ggX5_isLaid_X5_isIn
set_option maxRecDepth 20000 in
theorem ggX5_isLaid_X5_lays : GoodIn wsX5_isLaid wsX5_lays := goodIn_r _ [10, 1, 11, 12, 13, 14, 15, 16, 17, 18, 19, 20, 5, 21, 22, 23, 24, 25, 26, 27, 28, 29, 30, 31, 32, 33, 34, 35, 36, 37, 38, 39, 40, 41, 42, 43, 44, 45, 46, 47, 48, 49, 50, 51, 52, 53, 54] (by decide +kernel) (by decide +kernel)
set_option maxRecDepth 20000 in
theorem gX5_isLaid_X5_lays : GoodIn wsX5_isLaid (wsV RX5 83 RX5 yX5_lays wsX5_lays) := goodIn_app (goodIn_of _ (by decide +kernel)) ggX5_isLaid_X5_lays
theorem dX5_isLaid_0 : decode cX5_isLaid 0 = .ok (.aload_n 0, 1) := by decide +kernel
theorem dX5_isLaid_1 : decode cX5_isLaid 1 = .ok (.iload_n 1, 1) := by decide +kernel
theorem dX5_isLaid_2 : decode cX5_isLaid 2 = .ok (.iconst 0, 1) := by decide +kernel
theorem dX5_isLaid_3 : decode cX5_isLaid 3 = .ok (.aload_n 0, 1) := by decide +kernel
theorem dX5_isLaid_4 : decode cX5_isLaid 4 = .ok (.getfield 66, 3) := by decide +kernel
theorem dX5_isLaid_7 : decode cX5_isLaid 7 = .ok (.iconst 1, 1) := by decide +kernel
theorem dX5_isLaid_8 : decode cX5_isLaid 8 = .ok (.isub, 1) := by decide +kernel
theorem dX5_isLaid_9 : decode cX5_isLaid 9 = .ok (.invokestatic 146, 3) := by decide +kernel
theorem dX5_isLaid_12 : decode cX5_isLaid 12 = .ok (.ifCond .ne 7, 3) := by decide +kernel
theorem dX5_isLaid_15 : decode cX5_isLaid 15 = .ok (.iconst 1, 1) := by decide +kernel
theorem dX5_isLaid_16 : decode cX5_isLaid 16 = .ok (.goto 17, 3) := by decide +kernel
theorem dX5_isLaid_19 : decode cX5_isLaid 19 = .ok (.iload_n 2, 1) := by decide +kernel
theorem dX5_isLaid_20 : decode cX5_isLaid 20 = .ok (.iconst 0, 1) := by decide +kernel
theorem dX5_isLaid_21 : decode cX5_isLaid 21 = .ok (.iconst 5, 1) := by decide +kernel
theorem dX5_isLaid_22 : decode cX5_isLaid 22 = .ok (.invokestatic 146, 3) := by decide +kernel
theorem dX5_isLaid_25 : decode cX5_isLaid 25 = .ok (.ifCond .eq 7, 3) := by decide +kernel
theorem dX5_isLaid_28 : decode cX5_isLaid 28 = .ok (.iconst 0, 1) := by decide +kernel
theorem dX5_isLaid_29 : decode cX5_isLaid 29 = .ok (.goto 4, 3) := by decide +kernel
theorem dX5_isLaid_32 : decode cX5_isLaid 32 = .ok (.iconst 2, 1) := by decide +kernel
theorem dX5_isLaid_33 : decode cX5_isLaid 33 = .ok (.putfield 62, 3) := by decide +kernel
theorem dX5_isLaid_36 : decode cX5_isLaid 36 = .ok (.aload_n 0, 1) := by decide +kernel
theorem dX5_isLaid_37 : decode cX5_isLaid 37 = .ok (.getfield 62, 3) := by decide +kernel
theorem dX5_isLaid_40 : decode cX5_isLaid 40 = .ok (.ifCond .ne 8, 3) := by decide +kernel
theorem dX5_isLaid_43 : decode cX5_isLaid 43 = .ok (.aload_n 0, 1) := by decide +kernel
theorem dX5_isLaid_44 : decode cX5_isLaid 44 = .ok (.iload_n 2, 1) := by decide +kernel
theorem dX5_isLaid_45 : decode cX5_isLaid 45 = .ok (.invokevirtual 83, 3) := by decide +kernel
theorem dX5_isLaid_48 : decode cX5_isLaid 48 = .ok (.aload_n 0, 1) := by decide +kernel
theorem dX5_isLaid_49 : decode cX5_isLaid 49 = .ok (.getfield 62, 3) := by decide +kernel
theorem dX5_isLaid_52 : decode cX5_isLaid 52 = .ok (.ifCond .ne 7, 3) := by decide +kernel
theorem dX5_isLaid_55 : decode cX5_isLaid 55 = .ok (.iconst 1, 1) := by decide +kernel
theorem dX5_isLaid_56 : decode cX5_isLaid 56 = .ok (.goto 4, 3) := by decide +kernel
theorem dX5_isLaid_59 : decode cX5_isLaid 59 = .ok (.iconst 0, 1) := by decide +kernel
theorem dX5_isLaid_60 : decode cX5_isLaid 60 = .ok (.ireturn, 1) := by decide +kernel
set_option maxRecDepth 20000 in
theorem ggX5_controllerOf_X5_isLaid : GoodIn wsX5_controllerOf wsX5_isLaid := goodIn_r _ [6, 7, 8, 9, 10, 5, 11, 12, 13, 14, 15, 1, 16, 17, 18, 19, 20, 21, 22, 23, 24, 25, 26, 27, 28, 29, 30, 31, 32, 33, 34, 35, 36, 37, 38, 39, 40, 41, 42, 43, 44, 45, 46, 47, 48, 49, 50, 51, 52, 53, 54, 55, 56, 57, 58] (by decide +kernel) (by decide +kernel)
set_option maxRecDepth 20000 in
theorem gX5_controllerOf_X5_isLaid : GoodIn wsX5_controllerOf (wsV RX5 160 RX5 yX5_isLaid wsX5_isLaid) := goodIn_app (goodIn_of _ (by decide +kernel)) ggX5_controllerOf_X5_isLaid
theorem dX5_controllerOf_0 : decode cX5_controllerOf 0 = .ok (.aload_n 0, 1) := by decide +kernel
theorem dX5_controllerOf_1 : decode cX5_controllerOf 1 = .ok (.iload_n 1, 1) := by decide +kernel
theorem dX5_controllerOf_2 : decode cX5_controllerOf 2 = .ok (.iload_n 2, 1) := by decide +kernel
theorem dX5_controllerOf_3 : decode cX5_controllerOf 3 = .ok (.invokevirtual 160, 3) := by decide +kernel
theorem dX5_controllerOf_6 : decode cX5_controllerOf 6 = .ok (.ifCond .eq 12, 3) := by decide +kernel
theorem dX5_controllerOf_9 : decode cX5_controllerOf 9 = .ok (.aload_n 0, 1) := by decide +kernel
theorem dX5_controllerOf_10 : decode cX5_controllerOf 10 = .ok (.getfield 41, 3) := by decide +kernel
theorem dX5_controllerOf_13 : decode cX5_controllerOf 13 = .ok (.iload_n 1, 1) := by decide +kernel
theorem dX5_controllerOf_14 : decode cX5_controllerOf 14 = .ok (.iaload, 1) := by decide +kernel
theorem dX5_controllerOf_15 : decode cX5_controllerOf 15 = .ok (.goto 4, 3) := by decide +kernel
theorem dX5_controllerOf_18 : decode cX5_controllerOf 18 = .ok (.iconst 0, 1) := by decide +kernel
theorem dX5_controllerOf_19 : decode cX5_controllerOf 19 = .ok (.ireturn, 1) := by decide +kernel
set_option maxRecDepth 20000 in
theorem ggX5_kindsOf_X5_isLaid : GoodIn wsX5_kindsOf wsX5_isLaid := goodIn_r _ [6, 7, 8, 9, 10, 5, 11, 12, 13, 14, 15, 16, 17, 1, 18, 19, 20, 21, 22, 23, 24, 25, 26, 27, 28, 29, 30, 31, 32, 33, 34, 35, 36, 37, 38, 39, 40, 41, 42, 43, 44, 45, 46, 47, 48, 49, 50, 51, 52, 53, 54, 55, 56, 57, 58] (by decide +kernel) (by decide +kernel)
set_option maxRecDepth 20000 in
theorem gX5_kindsOf_X5_isLaid : GoodIn wsX5_kindsOf (wsV RX5 160 RX5 yX5_isLaid wsX5_isLaid) := goodIn_app (goodIn_of _ (by decide +kernel)) ggX5_kindsOf_X5_isLaid
theorem dX5_kindsOf_0 : decode cX5_kindsOf 0 = .ok (.aload_n 0, 1) := by decide +kernel
theorem dX5_kindsOf_1 : decode cX5_kindsOf 1 = .ok (.iload_n 1, 1) := by decide +kernel
theorem dX5_kindsOf_2 : decode cX5_kindsOf 2 = .ok (.iload_n 2, 1) := by decide +kernel
theorem dX5_kindsOf_3 : decode cX5_kindsOf 3 = .ok (.invokevirtual 160, 3) := by decide +kernel
theorem dX5_kindsOf_6 : decode cX5_kindsOf 6 = .ok (.ifCond .eq 12, 3) := by decide +kernel
theorem dX5_kindsOf_9 : decode cX5_kindsOf 9 = .ok (.aload_n 0, 1) := by decide +kernel
theorem dX5_kindsOf_10 : decode cX5_kindsOf 10 = .ok (.getfield 44, 3) := by decide +kernel
theorem dX5_kindsOf_13 : decode cX5_kindsOf 13 = .ok (.iload_n 1, 1) := by decide +kernel
theorem dX5_kindsOf_14 : decode cX5_kindsOf 14 = .ok (.iaload, 1) := by decide +kernel
theorem dX5_kindsOf_15 : decode cX5_kindsOf 15 = .ok (.goto 4, 3) := by decide +kernel
theorem dX5_kindsOf_18 : decode cX5_kindsOf 18 = .ok (.iconst 0, 1) := by decide +kernel
theorem dX5_kindsOf_19 : decode cX5_kindsOf 19 = .ok (.ireturn, 1) := by decide +kernel
set_option maxRecDepth 20000 in
theorem ggX5_strengthOf_X5_isLaid : GoodIn wsX5_strengthOf wsX5_isLaid := goodIn_r _ [6, 7, 8, 9, 10, 5, 11, 12, 13, 14, 15, 16, 17, 18, 19, 1, 20, 21, 22, 23, 24, 25, 26, 27, 28, 29, 30, 31, 32, 33, 34, 35, 36, 37, 38, 39, 40, 41, 42, 43, 44, 45, 46, 47, 48, 49, 50, 51, 52, 53, 54, 55, 56, 57, 58] (by decide +kernel) (by decide +kernel)
set_option maxRecDepth 20000 in
theorem gX5_strengthOf_X5_isLaid : GoodIn wsX5_strengthOf (wsV RX5 160 RX5 yX5_isLaid wsX5_isLaid) := goodIn_app (goodIn_of _ (by decide +kernel)) ggX5_strengthOf_X5_isLaid
theorem dX5_strengthOf_0 : decode cX5_strengthOf 0 = .ok (.aload_n 0, 1) := by decide +kernel
theorem dX5_strengthOf_1 : decode cX5_strengthOf 1 = .ok (.iload_n 1, 1) := by decide +kernel
theorem dX5_strengthOf_2 : decode cX5_strengthOf 2 = .ok (.iload_n 2, 1) := by decide +kernel
theorem dX5_strengthOf_3 : decode cX5_strengthOf 3 = .ok (.invokevirtual 160, 3) := by decide +kernel
theorem dX5_strengthOf_6 : decode cX5_strengthOf 6 = .ok (.ifCond .eq 12, 3) := by decide +kernel
theorem dX5_strengthOf_9 : decode cX5_strengthOf 9 = .ok (.aload_n 0, 1) := by decide +kernel
theorem dX5_strengthOf_10 : decode cX5_strengthOf 10 = .ok (.getfield 47, 3) := by decide +kernel
theorem dX5_strengthOf_13 : decode cX5_strengthOf 13 = .ok (.iload_n 1, 1) := by decide +kernel
theorem dX5_strengthOf_14 : decode cX5_strengthOf 14 = .ok (.iaload, 1) := by decide +kernel
theorem dX5_strengthOf_15 : decode cX5_strengthOf 15 = .ok (.goto 4, 3) := by decide +kernel
theorem dX5_strengthOf_18 : decode cX5_strengthOf 18 = .ok (.iconst 0, 1) := by decide +kernel
theorem dX5_strengthOf_19 : decode cX5_strengthOf 19 = .ok (.ireturn, 1) := by decide +kernel
set_option maxRecDepth 20000 in
theorem ggX5_power_X5_isIn : GoodIn wsX5_power wsX5_isIn := goodIn_r _ [9] (by decide +kernel) (by decide +kernel)
set_option maxRecDepth 20000 in
theorem gX5_power_X5_isIn : GoodIn wsX5_power (va_wsS RX5 146 yX5_isIn wsX5_isIn) := goodIn_app (goodIn_of _ (by decide +kernel)) ggX5_power_X5_isIn
set_option maxRecDepth 20000 in
theorem ggX5_power_X5_lays : GoodIn wsX5_power wsX5_lays := goodIn_r _ [13, 2, 3, 14, 4, 15, 5, 16, 17, 18, 19, 20, 8, 21, 22, 23, 24, 25, 26, 27, 28, 29, 30, 31, 32, 33, 34, 35, 36, 37, 38, 39, 40, 41, 42, 43, 44, 45, 46, 47, 48, 49, 50, 51, 52, 53, 54] (by decide +kernel) (by decide +kernel)
set_option maxRecDepth 20000 in
theorem gX5_power_X5_lays : GoodIn wsX5_power (wsV RX5 83 RX5 yX5_lays wsX5_lays) := goodIn_app (goodIn_of _ (by decide +kernel)) ggX5_power_X5_lays
theorem dX5_power_0 : decode cX5_power 0 = .ok (.aload_n 0, 1) := by decide +kernel
theorem dX5_power_1 : decode cX5_power 1 = .ok (.iload_n 1, 1) := by decide +kernel
theorem dX5_power_2 : decode cX5_power 2 = .ok (.iconst 0, 1) := by decide +kernel
theorem dX5_power_3 : decode cX5_power 3 = .ok (.iconst 2, 1) := by decide +kernel
theorem dX5_power_4 : decode cX5_power 4 = .ok (.invokestatic 146, 3) := by decide +kernel
theorem dX5_power_7 : decode cX5_power 7 = .ok (.ifCond .eq 7, 3) := by decide +kernel
theorem dX5_power_10 : decode cX5_power 10 = .ok (.iconst 0, 1) := by decide +kernel
theorem dX5_power_11 : decode cX5_power 11 = .ok (.goto 4, 3) := by decide +kernel
theorem dX5_power_14 : decode cX5_power 14 = .ok (.iconst 1, 1) := by decide +kernel
theorem dX5_power_15 : decode cX5_power 15 = .ok (.putfield 62, 3) := by decide +kernel
theorem dX5_power_18 : decode cX5_power 18 = .ok (.aload_n 0, 1) := by decide +kernel
theorem dX5_power_19 : decode cX5_power 19 = .ok (.getfield 62, 3) := by decide +kernel
theorem dX5_power_22 : decode cX5_power 22 = .ok (.ifCond .le 5, 3) := by decide +kernel
theorem dX5_power_25 : decode cX5_power 25 = .ok (.iconst 0, 1) := by decide +kernel
theorem dX5_power_26 : decode cX5_power 26 = .ok (.ireturn, 1) := by decide +kernel
theorem dX5_power_27 : decode cX5_power 27 = .ok (.aload_n 0, 1) := by decide +kernel
theorem dX5_power_28 : decode cX5_power 28 = .ok (.iconst 5, 1) := by decide +kernel
theorem dX5_power_29 : decode cX5_power 29 = .ok (.invokevirtual 83, 3) := by decide +kernel
theorem dX5_power_32 : decode cX5_power 32 = .ok (.iconst 0, 1) := by decide +kernel
theorem dX5_power_33 : decode cX5_power 33 = .ok (.istore_n 2, 1) := by decide +kernel
theorem dX5_power_34 : decode cX5_power 34 = .ok (.iconst 0, 1) := by decide +kernel
theorem dX5_power_35 : decode cX5_power 35 = .ok (.istore_n 3, 1) := by decide +kernel
theorem dX5_power_36 : decode cX5_power 36 = .ok (.iload_n 3, 1) := by decide +kernel
theorem dX5_power_37 : decode cX5_power 37 = .ok (.aload_n 0, 1) := by decide +kernel
theorem dX5_power_38 : decode cX5_power 38 = .ok (.getfield 66, 3) := by decide +kernel
theorem dX5_power_41 : decode cX5_power 41 = .ok (.if_icmp .ge 44, 3) := by decide +kernel
theorem dX5_power_44 : decode cX5_power 44 = .ok (.iload_n 2, 1) := by decide +kernel
theorem dX5_power_45 : decode cX5_power 45 = .ok (.aload_n 0, 1) := by decide +kernel
theorem dX5_power_46 : decode cX5_power 46 = .ok (.getfield 41, 3) := by decide +kernel
theorem dX5_power_49 : decode cX5_power 49 = .ok (.iload_n 3, 1) := by decide +kernel
theorem dX5_power_50 : decode cX5_power 50 = .ok (.iaload, 1) := by decide +kernel
theorem dX5_power_51 : decode cX5_power 51 = .ok (.iload_n 1, 1) := by decide +kernel
theorem dX5_power_52 : decode cX5_power 52 = .ok (.if_icmp .ne 24, 3) := by decide +kernel
theorem dX5_power_55 : decode cX5_power 55 = .ok (.aload_n 0, 1) := by decide +kernel
theorem dX5_power_56 : decode cX5_power 56 = .ok (.getfield 44, 3) := by decide +kernel
theorem dX5_power_59 : decode cX5_power 59 = .ok (.iload_n 3, 1) := by decide +kernel
theorem dX5_power_60 : decode cX5_power 60 = .ok (.iaload, 1) := by decide +kernel
theorem dX5_power_61 : decode cX5_power 61 = .ok (.iconst 1, 1) := by decide +kernel
theorem dX5_power_62 : decode cX5_power 62 = .ok (.iand, 1) := by decide +kernel
theorem dX5_power_63 : decode cX5_power 63 = .ok (.iconst 1, 1) := by decide +kernel
theorem dX5_power_64 : decode cX5_power 64 = .ok (.if_icmp .ne 12, 3) := by decide +kernel
theorem dX5_power_67 : decode cX5_power 67 = .ok (.aload_n 0, 1) := by decide +kernel
theorem dX5_power_68 : decode cX5_power 68 = .ok (.getfield 47, 3) := by decide +kernel
theorem dX5_power_71 : decode cX5_power 71 = .ok (.iload_n 3, 1) := by decide +kernel
theorem dX5_power_72 : decode cX5_power 72 = .ok (.iaload, 1) := by decide +kernel
theorem dX5_power_73 : decode cX5_power 73 = .ok (.goto 4, 3) := by decide +kernel
theorem dX5_power_76 : decode cX5_power 76 = .ok (.iconst 0, 1) := by decide +kernel
theorem dX5_power_77 : decode cX5_power 77 = .ok (.iadd, 1) := by decide +kernel
theorem dX5_power_78 : decode cX5_power 78 = .ok (.istore_n 2, 1) := by decide +kernel
theorem dX5_power_79 : decode cX5_power 79 = .ok (.iinc 3 1, 3) := by decide +kernel
theorem dX5_power_82 : decode cX5_power 82 = .ok (.goto (-46), 3) := by decide +kernel
theorem dX5_power_85 : decode cX5_power 85 = .ok (.iload_n 2, 1) := by decide +kernel
theorem dX5_power_86 : decode cX5_power 86 = .ok (.ireturn, 1) := by decide +kernel
theorem dX5_stack_0 : decode cX5_stack 0 = .ok (.aload_n 0, 1) := by decide +kernel
theorem dX5_stack_1 : decode cX5_stack 1 = .ok (.iconst 0, 1) := by decide +kernel
theorem dX5_stack_2 : decode cX5_stack 2 = .ok (.putfield 62, 3) := by decide +kernel
theorem dX5_stack_5 : decode cX5_stack 5 = .ok (.aload_n 0, 1) := by decide +kernel
theorem dX5_stack_6 : decode cX5_stack 6 = .ok (.getfield 69, 3) := by decide +kernel
theorem dX5_stack_9 : decode cX5_stack 9 = .ok (.ireturn, 1) := by decide +kernel
set_option maxRecDepth 20000 in
theorem ggX5_isEntry_X5_isIn : GoodIn wsX5_isEntry wsX5_isIn := goodIn_r _ [6] (by decide +kernel) (by decide +kernel)
set_option maxRecDepth 20000 in
theorem gX5_isEntry_X5_isIn : GoodIn wsX5_isEntry (va_wsS RX5 146 yX5_isIn wsX5_isIn) := goodIn_app (goodIn_of _ (by decide +kernel)) ggX5_isEntry_X5_isIn
theorem dX5_isEntry_0 : decode cX5_isEntry 0 = .ok (.aload_n 0, 1) := by decide +kernel
theorem dX5_isEntry_1 : decode cX5_isEntry 1 = .ok (.iload_n 1, 1) := by decide +kernel
theorem dX5_isEntry_2 : decode cX5_isEntry 2 = .ok (.iconst 0, 1) := by decide +kernel
theorem dX5_isEntry_3 : decode cX5_isEntry 3 = .ok (.aload_n 0, 1) := by decide +kernel
theorem dX5_isEntry_4 : decode cX5_isEntry 4 = .ok (.getfield 69, 3) := by decide +kernel
theorem dX5_isEntry_7 : decode cX5_isEntry 7 = .ok (.iconst 1, 1) := by decide +kernel
theorem dX5_isEntry_8 : decode cX5_isEntry 8 = .ok (.isub, 1) := by decide +kernel
theorem dX5_isEntry_9 : decode cX5_isEntry 9 = .ok (.invokestatic 146, 3) := by decide +kernel
theorem dX5_isEntry_12 : decode cX5_isEntry 12 = .ok (.ifCond .eq 7, 3) := by decide +kernel
theorem dX5_isEntry_15 : decode cX5_isEntry 15 = .ok (.iconst 0, 1) := by decide +kernel
theorem dX5_isEntry_16 : decode cX5_isEntry 16 = .ok (.goto 4, 3) := by decide +kernel
theorem dX5_isEntry_19 : decode cX5_isEntry 19 = .ok (.iconst 1, 1) := by decide +kernel
theorem dX5_isEntry_20 : decode cX5_isEntry 20 = .ok (.putfield 62, 3) := by decide +kernel
theorem dX5_isEntry_23 : decode cX5_isEntry 23 = .ok (.aload_n 0, 1) := by decide +kernel
theorem dX5_isEntry_24 : decode cX5_isEntry 24 = .ok (.getfield 62, 3) := by decide +kernel
theorem dX5_isEntry_27 : decode cX5_isEntry 27 = .ok (.ifCond .ne 7, 3) := by decide +kernel
theorem dX5_isEntry_30 : decode cX5_isEntry 30 = .ok (.iconst 1, 1) := by decide +kernel
theorem dX5_isEntry_31 : decode cX5_isEntry 31 = .ok (.goto 4, 3) := by decide +kernel
theorem dX5_isEntry_34 : decode cX5_isEntry 34 = .ok (.iconst 0, 1) := by decide +kernel
theorem dX5_isEntry_35 : decode cX5_isEntry 35 = .ok (.ireturn, 1) := by decide +kernel
set_option maxRecDepth 20000 in
theorem ggX5_entryCard_X5_isEntry : GoodIn wsX5_entryCard wsX5_isEntry := goodIn_r _ [7, 2, 8, 9, 10, 6, 11, 12, 13, 14, 15, 16, 17, 18, 19, 20, 21, 22, 23, 24, 25, 26, 27, 28, 29, 30, 31, 32, 33, 34, 35, 36, 37, 38] (by decide +kernel) (by decide +kernel)
set_option maxRecDepth 20000 in
theorem gX5_entryCard_X5_isEntry : GoodIn wsX5_entryCard (wsV RX5 164 RX5 yX5_isEntry wsX5_isEntry) := goodIn_app (goodIn_of _ (by decide +kernel)) ggX5_entryCard_X5_isEntry
theorem dX5_entryCard_0 : decode cX5_entryCard 0 = .ok (.aload_n 0, 1) := by decide +kernel
theorem dX5_entryCard_1 : decode cX5_entryCard 1 = .ok (.iload_n 1, 1) := by decide +kernel
theorem dX5_entryCard_2 : decode cX5_entryCard 2 = .ok (.invokevirtual 164, 3) := by decide +kernel
theorem dX5_entryCard_5 : decode cX5_entryCard 5 = .ok (.ifCond .eq 19, 3) := by decide +kernel
theorem dX5_entryCard_8 : decode cX5_entryCard 8 = .ok (.aload_n 0, 1) := by decide +kernel
theorem dX5_entryCard_9 : decode cX5_entryCard 9 = .ok (.getfield 25, 3) := by decide +kernel
theorem dX5_entryCard_12 : decode cX5_entryCard 12 = .ok (.aload_n 0, 1) := by decide +kernel
theorem dX5_entryCard_13 : decode cX5_entryCard 13 = .ok (.getfield 69, 3) := by decide +kernel
theorem dX5_entryCard_16 : decode cX5_entryCard 16 = .ok (.iconst 1, 1) := by decide +kernel
theorem dX5_entryCard_17 : decode cX5_entryCard 17 = .ok (.isub, 1) := by decide +kernel
theorem dX5_entryCard_18 : decode cX5_entryCard 18 = .ok (.iload_n 1, 1) := by decide +kernel
theorem dX5_entryCard_19 : decode cX5_entryCard 19 = .ok (.isub, 1) := by decide +kernel
theorem dX5_entryCard_20 : decode cX5_entryCard 20 = .ok (.iaload, 1) := by decide +kernel
theorem dX5_entryCard_21 : decode cX5_entryCard 21 = .ok (.goto 4, 3) := by decide +kernel
theorem dX5_entryCard_24 : decode cX5_entryCard 24 = .ok (.iconst 0, 1) := by decide +kernel
theorem dX5_entryCard_25 : decode cX5_entryCard 25 = .ok (.ireturn, 1) := by decide +kernel
set_option maxRecDepth 20000 in
theorem ggX5_isTrigger_X5_isEntry : GoodIn wsX5_isTrigger wsX5_isEntry := goodIn_r _ [7, 2, 8, 9, 10, 6, 11, 12, 13, 14, 15, 16, 17, 18, 19, 20, 21, 22, 23, 24, 25, 26, 27, 28, 29, 30, 31, 32, 33, 34, 35, 36, 37, 38] (by decide +kernel) (by decide +kernel)
set_option maxRecDepth 20000 in
theorem gX5_isTrigger_X5_isEntry : GoodIn wsX5_isTrigger (wsV RX5 164 RX5 yX5_isEntry wsX5_isEntry) := goodIn_app (goodIn_of _ (by decide +kernel)) ggX5_isTrigger_X5_isEntry
theorem dX5_isTrigger_0 : decode cX5_isTrigger 0 = .ok (.aload_n 0, 1) := by decide +kernel
theorem dX5_isTrigger_1 : decode cX5_isTrigger 1 = .ok (.iload_n 1, 1) := by decide +kernel
theorem dX5_isTrigger_2 : decode cX5_isTrigger 2 = .ok (.invokevirtual 164, 3) := by decide +kernel
theorem dX5_isTrigger_5 : decode cX5_isTrigger 5 = .ok (.ifCond .eq 23, 3) := by decide +kernel
theorem dX5_isTrigger_8 : decode cX5_isTrigger 8 = .ok (.aload_n 0, 1) := by decide +kernel
theorem dX5_isTrigger_9 : decode cX5_isTrigger 9 = .ok (.getfield 28, 3) := by decide +kernel
theorem dX5_isTrigger_12 : decode cX5_isTrigger 12 = .ok (.aload_n 0, 1) := by decide +kernel
theorem dX5_isTrigger_13 : decode cX5_isTrigger 13 = .ok (.getfield 69, 3) := by decide +kernel
theorem dX5_isTrigger_16 : decode cX5_isTrigger 16 = .ok (.iconst 1, 1) := by decide +kernel
theorem dX5_isTrigger_17 : decode cX5_isTrigger 17 = .ok (.isub, 1) := by decide +kernel
theorem dX5_isTrigger_18 : decode cX5_isTrigger 18 = .ok (.iload_n 1, 1) := by decide +kernel
theorem dX5_isTrigger_19 : decode cX5_isTrigger 19 = .ok (.isub, 1) := by decide +kernel
theorem dX5_isTrigger_20 : decode cX5_isTrigger 20 = .ok (.baload, 1) := by decide +kernel
theorem dX5_isTrigger_21 : decode cX5_isTrigger 21 = .ok (.ifCond .eq 7, 3) := by decide +kernel
theorem dX5_isTrigger_24 : decode cX5_isTrigger 24 = .ok (.iconst 1, 1) := by decide +kernel
theorem dX5_isTrigger_25 : decode cX5_isTrigger 25 = .ok (.goto 4, 3) := by decide +kernel
theorem dX5_isTrigger_28 : decode cX5_isTrigger 28 = .ok (.iconst 0, 1) := by decide +kernel
theorem dX5_isTrigger_29 : decode cX5_isTrigger 29 = .ok (.ireturn, 1) := by decide +kernel
set_option maxRecDepth 20000 in
theorem ggX5_entryPlayer_X5_isEntry : GoodIn wsX5_entryPlayer wsX5_isEntry := goodIn_r _ [7, 2, 8, 9, 10, 6, 11, 12, 13, 14, 15, 16, 17, 18, 19, 20, 21, 22, 23, 24, 25, 26, 27, 28, 29, 30, 31, 32, 33, 34, 35, 36, 37, 38] (by decide +kernel) (by decide +kernel)
set_option maxRecDepth 20000 in
theorem gX5_entryPlayer_X5_isEntry : GoodIn wsX5_entryPlayer (wsV RX5 164 RX5 yX5_isEntry wsX5_isEntry) := goodIn_app (goodIn_of _ (by decide +kernel)) ggX5_entryPlayer_X5_isEntry
theorem dX5_entryPlayer_0 : decode cX5_entryPlayer 0 = .ok (.aload_n 0, 1) := by decide +kernel
theorem dX5_entryPlayer_1 : decode cX5_entryPlayer 1 = .ok (.iload_n 1, 1) := by decide +kernel
theorem dX5_entryPlayer_2 : decode cX5_entryPlayer 2 = .ok (.invokevirtual 164, 3) := by decide +kernel
theorem dX5_entryPlayer_5 : decode cX5_entryPlayer 5 = .ok (.ifCond .eq 19, 3) := by decide +kernel
theorem dX5_entryPlayer_8 : decode cX5_entryPlayer 8 = .ok (.aload_n 0, 1) := by decide +kernel
theorem dX5_entryPlayer_9 : decode cX5_entryPlayer 9 = .ok (.getfield 32, 3) := by decide +kernel
theorem dX5_entryPlayer_12 : decode cX5_entryPlayer 12 = .ok (.aload_n 0, 1) := by decide +kernel
theorem dX5_entryPlayer_13 : decode cX5_entryPlayer 13 = .ok (.getfield 69, 3) := by decide +kernel
theorem dX5_entryPlayer_16 : decode cX5_entryPlayer 16 = .ok (.iconst 1, 1) := by decide +kernel
theorem dX5_entryPlayer_17 : decode cX5_entryPlayer 17 = .ok (.isub, 1) := by decide +kernel
theorem dX5_entryPlayer_18 : decode cX5_entryPlayer 18 = .ok (.iload_n 1, 1) := by decide +kernel
theorem dX5_entryPlayer_19 : decode cX5_entryPlayer 19 = .ok (.isub, 1) := by decide +kernel
theorem dX5_entryPlayer_20 : decode cX5_entryPlayer 20 = .ok (.iaload, 1) := by decide +kernel
theorem dX5_entryPlayer_21 : decode cX5_entryPlayer 21 = .ok (.goto 4, 3) := by decide +kernel
theorem dX5_entryPlayer_24 : decode cX5_entryPlayer 24 = .ok (.iconst 0, 1) := by decide +kernel
theorem dX5_entryPlayer_25 : decode cX5_entryPlayer 25 = .ok (.ireturn, 1) := by decide +kernel
set_option maxRecDepth 20000 in
theorem ggX5_entryTarget_X5_isEntry : GoodIn wsX5_entryTarget wsX5_isEntry := goodIn_r _ [6, 1, 7, 8, 9, 5, 10, 29, 30, 31, 32, 33, 34, 35, 36, 37, 38, 39, 40, 41, 42, 43, 44, 45, 46, 47, 48, 49, 50, 51, 52, 53, 54, 55] (by decide +kernel) (by decide +kernel)
set_option maxRecDepth 20000 in
theorem gX5_entryTarget_X5_isEntry : GoodIn wsX5_entryTarget (wsV RX5 164 RX5 yX5_isEntry wsX5_isEntry) := goodIn_app (goodIn_of _ (by decide +kernel)) ggX5_entryTarget_X5_isEntry
set_option maxRecDepth 20000 in
theorem ggX5_entryTarget_X5_targetOf : GoodIn wsX5_entryTarget wsX5_targetOf := goodIn_r _ [14, 15, 16, 17, 18, 19, 20, 5, 21, 22, 23, 24, 25, 26, 27, 1, 28, 29, 30, 31, 32, 33, 34, 35, 36, 37, 38, 39, 40, 41, 42, 43, 44, 45, 46, 47, 48, 49, 50, 51, 52, 53, 54, 55] (by decide +kernel) (by decide +kernel)
set_option maxRecDepth 20000 in
theorem gX5_entryTarget_X5_targetOf : GoodIn wsX5_entryTarget (wsV RX5 119 RX5 yX5_targetOf wsX5_targetOf) := goodIn_app (goodIn_of _ (by decide +kernel)) ggX5_entryTarget_X5_targetOf
theorem dX5_entryTarget_0 : decode cX5_entryTarget 0 = .ok (.aload_n 0, 1) := by decide +kernel
theorem dX5_entryTarget_1 : decode cX5_entryTarget 1 = .ok (.iload_n 1, 1) := by decide +kernel
theorem dX5_entryTarget_2 : decode cX5_entryTarget 2 = .ok (.invokevirtual 164, 3) := by decide +kernel
theorem dX5_entryTarget_5 : decode cX5_entryTarget 5 = .ok (.ifCond .eq 18, 3) := by decide +kernel
theorem dX5_entryTarget_8 : decode cX5_entryTarget 8 = .ok (.aload_n 0, 1) := by decide +kernel
theorem dX5_entryTarget_9 : decode cX5_entryTarget 9 = .ok (.aload_n 0, 1) := by decide +kernel
theorem dX5_entryTarget_10 : decode cX5_entryTarget 10 = .ok (.getfield 69, 3) := by decide +kernel
theorem dX5_entryTarget_13 : decode cX5_entryTarget 13 = .ok (.iconst 1, 1) := by decide +kernel
theorem dX5_entryTarget_14 : decode cX5_entryTarget 14 = .ok (.isub, 1) := by decide +kernel
theorem dX5_entryTarget_15 : decode cX5_entryTarget 15 = .ok (.iload_n 1, 1) := by decide +kernel
theorem dX5_entryTarget_16 : decode cX5_entryTarget 16 = .ok (.isub, 1) := by decide +kernel
theorem dX5_entryTarget_17 : decode cX5_entryTarget 17 = .ok (.invokevirtual 119, 3) := by decide +kernel
theorem dX5_entryTarget_20 : decode cX5_entryTarget 20 = .ok (.goto 4, 3) := by decide +kernel
theorem dX5_entryTarget_23 : decode cX5_entryTarget 23 = .ok (.iconst 0, 1) := by decide +kernel
theorem dX5_entryTarget_24 : decode cX5_entryTarget 24 = .ok (.ireturn, 1) := by decide +kernel
set_option maxRecDepth 20000 in
theorem ggL_play_X4_play : GoodIn wsL_play wsX4_play := goodIn_ca (goodIn_ca (goodIn_r _ [7, 8, 9, 10, 11, 12, 13, 14, 15, 16, 17, 18, 19, 6, 20, 21, 22, 23, 24, 25, 26, 27, 28, 29, 30, 31, 32, 33, 34, 35, 36, 37, 38, 39, 40, 41, 42, 43, 44, 45, 46, 47, 48, 49, 50, 51, 52, 53, 54, 55, 56, 57, 58, 59, 60, 61, 62, 63, 64, 65, 66, 67, 68, 69, 70, 71, 72, 73, 74, 75, 76, 77, 78, 79, 80, 81, 82, 83, 84, 85, 86, 87, 88, 89, 90, 91, 92, 93, 94, 95, 96, 97, 98, 99, 100, 101, 102, 103, 104, 105, 106, 107, 108, 109, 110, 111, 112, 113, 114, 115, 116, 117] (by decide +kernel) (by decide +kernel)) (goodIn_sub (fun _ h => List.mem_cons_of_mem _ (List.mem_append_left _ (List.mem_append_right _ h))) (by decide +kernel))) (goodIn_sub (fun _ h => List.mem_cons_of_mem _ (List.mem_append_right _ h)) (by decide +kernel))
set_option maxRecDepth 20000 in
theorem gL_play_X4_play : GoodIn wsL_play (wsV RL 7 RX4 yX4_play wsX4_play) := goodIn_app (goodIn_of _ (by decide +kernel)) ggL_play_X4_play
theorem dL_play_0 : decode cL_play 0 = .ok (.aload_n 3, 1) := by decide +kernel
theorem dL_play_1 : decode cL_play 1 = .ok (.iconst 0, 1) := by decide +kernel
theorem dL_play_2 : decode cL_play 2 = .ok (.aload_n 0, 1) := by decide +kernel
theorem dL_play_3 : decode cL_play 3 = .ok (.iload_n 1, 1) := by decide +kernel
theorem dL_play_4 : decode cL_play 4 = .ok (.iload_n 2, 1) := by decide +kernel
theorem dL_play_5 : decode cL_play 5 = .ok (.invokevirtual 7, 3) := by decide +kernel
theorem dL_play_8 : decode cL_play 8 = .ok (.i2l, 1) := by decide +kernel
theorem dL_play_9 : decode cL_play 9 = .ok (.lastore, 1) := by decide +kernel
theorem dL_play_10 : decode cL_play 10 = .ok (.goto 11, 3) := by decide +kernel
theorem dL_play_13 : decode cL_play 13 = .ok (.astore 4, 2) := by decide +kernel
theorem dL_play_15 : decode cL_play 15 = .ok (.iconst 1, 1) := by decide +kernel
theorem dL_play_16 : decode cL_play 16 = .ok (.ireturn, 1) := by decide +kernel
theorem dL_play_17 : decode cL_play 17 = .ok (.astore 4, 2) := by decide +kernel
theorem dL_play_19 : decode cL_play 19 = .ok (.iconst 2, 1) := by decide +kernel
theorem dL_play_20 : decode cL_play 20 = .ok (.ireturn, 1) := by decide +kernel
theorem dL_play_21 : decode cL_play 21 = .ok (.iconst 0, 1) := by decide +kernel
theorem dL_play_22 : decode cL_play 22 = .ok (.ireturn, 1) := by decide +kernel
set_option maxRecDepth 20000 in
theorem ggL_obstacle_X4_obstacle : GoodIn wsL_obstacle wsX4_obstacle := goodIn_ca (goodIn_r _ [6, 7, 8, 9, 10, 11, 5, 12, 13, 14, 15, 16, 17, 18, 19, 20, 21, 22, 23, 24, 25, 26, 27, 28, 29, 30, 31, 32, 33, 34, 35, 36, 37, 38, 39, 40, 41, 42, 43, 44, 45, 46, 47, 48, 49, 50, 51, 52, 53, 54, 55, 56, 57, 58, 59, 60, 61, 62, 63, 64, 65, 66, 67, 68, 69, 70, 71, 72, 73] (by decide +kernel) (by decide +kernel)) (goodIn_sub (fun _ h => List.mem_cons_of_mem _ (List.mem_append_right _ h)) (by decide +kernel))
set_option maxRecDepth 20000 in
theorem gL_obstacle_X4_obstacle : GoodIn wsL_obstacle (wsV RL 17 RX4 yX4_obstacle wsX4_obstacle) := goodIn_app (goodIn_of _ (by decide +kernel)) ggL_obstacle_X4_obstacle
theorem dL_obstacle_0 : decode cL_obstacle 0 = .ok (.aload_n 3, 1) := by decide +kernel
theorem dL_obstacle_1 : decode cL_obstacle 1 = .ok (.iconst 0, 1) := by decide +kernel
theorem dL_obstacle_2 : decode cL_obstacle 2 = .ok (.aload_n 0, 1) := by decide +kernel
theorem dL_obstacle_3 : decode cL_obstacle 3 = .ok (.iload_n 1, 1) := by decide +kernel
theorem dL_obstacle_4 : decode cL_obstacle 4 = .ok (.iload_n 2, 1) := by decide +kernel
theorem dL_obstacle_5 : decode cL_obstacle 5 = .ok (.invokevirtual 17, 3) := by decide +kernel
theorem dL_obstacle_8 : decode cL_obstacle 8 = .ok (.i2l, 1) := by decide +kernel
theorem dL_obstacle_9 : decode cL_obstacle 9 = .ok (.lastore, 1) := by decide +kernel
theorem dL_obstacle_10 : decode cL_obstacle 10 = .ok (.goto 7, 3) := by decide +kernel
theorem dL_obstacle_13 : decode cL_obstacle 13 = .ok (.astore 4, 2) := by decide +kernel
theorem dL_obstacle_15 : decode cL_obstacle 15 = .ok (.iconst 1, 1) := by decide +kernel
theorem dL_obstacle_16 : decode cL_obstacle 16 = .ok (.ireturn, 1) := by decide +kernel
theorem dL_obstacle_17 : decode cL_obstacle 17 = .ok (.iconst 0, 1) := by decide +kernel
theorem dL_obstacle_18 : decode cL_obstacle 18 = .ok (.ireturn, 1) := by decide +kernel
set_option maxRecDepth 20000 in
theorem ggL_settle_X4_settle : GoodIn wsL_settle wsX4_settle := goodIn_ca (goodIn_r _ [6, 7, 8, 9, 10, 11, 12, 13, 5, 14, 15, 16, 17, 18, 19, 20, 21, 22, 23, 24, 25, 26, 27, 28, 29, 30, 31, 32, 33, 34, 35, 36, 37, 38, 39, 40, 41, 42, 43, 44, 45, 46, 47, 48, 49, 50, 51, 52, 53, 54, 55, 56, 57, 58, 59, 60, 61, 62, 63, 64, 65, 66, 67, 68, 69, 70, 71, 72, 73, 74, 75, 76, 77, 78, 79, 80, 81, 82, 83, 84, 85, 86, 87, 88, 89, 90, 91, 92, 93, 94, 95, 96, 97, 98, 99, 100, 101, 102, 103, 104, 105, 106, 107, 108, 109, 110, 111, 112, 113, 114, 115, 116, 117, 118, 119, 120, 121, 122, 123, 124, 125, 126, 127, 128, 129, 130, 131, 132, 133, 134, 135, 136, 137, 138, 139, 140, 141, 142, 143, 144, 145, 146, 147, 148, 149, 150, 151, 152, 153, 154, 155, 156, 157, 158, 159, 160, 161, 162, 163, 164, 165, 166, 167, 168, 169, 170, 171, 172, 173, 174, 175, 176, 177, 178, 179, 180, 181, 182, 183, 184, 185, 186, 187, 188, 189, 190, 191, 192, 193, 194, 195, 196, 197, 198, 199, 200, 201, 202, 203, 204, 205, 206, 207, 208, 209, 210, 211, 212, 213, 214, 215, 216, 217, 218, 219, 220, 221, 222, 223, 224, 225, 226, 227, 228, 229, 230, 231, 232, 233] (by decide +kernel) (by decide +kernel)) (goodIn_sub (fun _ h => List.mem_cons_of_mem _ (List.mem_append_right _ h)) (by decide +kernel))
set_option maxRecDepth 20000 in
theorem gL_settle_X4_settle : GoodIn wsL_settle (wsV RL 20 RX4 yX4_settle wsX4_settle) := goodIn_app (goodIn_of _ (by decide +kernel)) ggL_settle_X4_settle
theorem dL_settle_0 : decode cL_settle 0 = .ok (.aload_n 2, 1) := by decide +kernel
theorem dL_settle_1 : decode cL_settle 1 = .ok (.iconst 0, 1) := by decide +kernel
theorem dL_settle_2 : decode cL_settle 2 = .ok (.aload_n 0, 1) := by decide +kernel
theorem dL_settle_3 : decode cL_settle 3 = .ok (.iload_n 1, 1) := by decide +kernel
theorem dL_settle_4 : decode cL_settle 4 = .ok (.invokevirtual 20, 3) := by decide +kernel
theorem dL_settle_7 : decode cL_settle 7 = .ok (.i2l, 1) := by decide +kernel
theorem dL_settle_8 : decode cL_settle 8 = .ok (.lastore, 1) := by decide +kernel
theorem dL_settle_9 : decode cL_settle 9 = .ok (.goto 6, 3) := by decide +kernel
theorem dL_settle_12 : decode cL_settle 12 = .ok (.astore_n 3, 1) := by decide +kernel
theorem dL_settle_13 : decode cL_settle 13 = .ok (.iconst 1, 1) := by decide +kernel
theorem dL_settle_14 : decode cL_settle 14 = .ok (.ireturn, 1) := by decide +kernel
theorem dL_settle_15 : decode cL_settle 15 = .ok (.iconst 0, 1) := by decide +kernel
theorem dL_settle_16 : decode cL_settle 16 = .ok (.ireturn, 1) := by decide +kernel
set_option maxRecDepth 20000 in
theorem ggL_coins_X4_coins : GoodIn wsL_coins wsX4_coins := goodIn_ca (goodIn_r _ [6, 7, 8, 9, 10, 11, 12, 13, 14, 15, 16, 17, 18, 19, 20] (by decide +kernel) (by decide +kernel)) (goodIn_sub (fun _ h => List.mem_cons_of_mem _ (List.mem_append_right _ h)) (by decide +kernel))
set_option maxRecDepth 20000 in
theorem gL_coins_X4_coins : GoodIn wsL_coins (wsV RL 26 RX4 yX4_coins wsX4_coins) := goodIn_app (goodIn_of _ (by decide +kernel)) ggL_coins_X4_coins
theorem dL_coins_0 : decode cL_coins 0 = .ok (.aload_n 2, 1) := by decide +kernel
theorem dL_coins_1 : decode cL_coins 1 = .ok (.iconst 0, 1) := by decide +kernel
theorem dL_coins_2 : decode cL_coins 2 = .ok (.aload_n 0, 1) := by decide +kernel
theorem dL_coins_3 : decode cL_coins 3 = .ok (.iload_n 1, 1) := by decide +kernel
theorem dL_coins_4 : decode cL_coins 4 = .ok (.invokevirtual 26, 3) := by decide +kernel
theorem dL_coins_7 : decode cL_coins 7 = .ok (.i2l, 1) := by decide +kernel
theorem dL_coins_8 : decode cL_coins 8 = .ok (.lastore, 1) := by decide +kernel
theorem dL_coins_9 : decode cL_coins 9 = .ok (.goto 6, 3) := by decide +kernel
theorem dL_coins_12 : decode cL_coins 12 = .ok (.astore_n 3, 1) := by decide +kernel
theorem dL_coins_13 : decode cL_coins 13 = .ok (.iconst 1, 1) := by decide +kernel
theorem dL_coins_14 : decode cL_coins 14 = .ok (.ireturn, 1) := by decide +kernel
theorem dL_coins_15 : decode cL_coins 15 = .ok (.iconst 0, 1) := by decide +kernel
theorem dL_coins_16 : decode cL_coins 16 = .ok (.ireturn, 1) := by decide +kernel
set_option maxRecDepth 20000 in
theorem ggL_cardOf_X4_cardOf : GoodIn wsL_cardOf wsX4_cardOf := goodIn_ca (goodIn_r _ [6, 7, 8, 9, 10, 11, 12, 13, 14, 15, 16, 17, 18, 19, 20, 21, 22, 23, 24, 25, 26, 27, 28, 29, 30, 31, 32] (by decide +kernel) (by decide +kernel)) (goodIn_sub (fun _ h => List.mem_cons_of_mem _ (List.mem_append_right _ h)) (by decide +kernel))
set_option maxRecDepth 20000 in
theorem gL_cardOf_X4_cardOf : GoodIn wsL_cardOf (wsV RL 29 RX4 yX4_cardOf wsX4_cardOf) := goodIn_app (goodIn_of _ (by decide +kernel)) ggL_cardOf_X4_cardOf
theorem dL_cardOf_0 : decode cL_cardOf 0 = .ok (.aload_n 2, 1) := by decide +kernel
theorem dL_cardOf_1 : decode cL_cardOf 1 = .ok (.iconst 0, 1) := by decide +kernel
theorem dL_cardOf_2 : decode cL_cardOf 2 = .ok (.aload_n 0, 1) := by decide +kernel
theorem dL_cardOf_3 : decode cL_cardOf 3 = .ok (.iload_n 1, 1) := by decide +kernel
theorem dL_cardOf_4 : decode cL_cardOf 4 = .ok (.invokevirtual 29, 3) := by decide +kernel
theorem dL_cardOf_7 : decode cL_cardOf 7 = .ok (.i2l, 1) := by decide +kernel
theorem dL_cardOf_8 : decode cL_cardOf 8 = .ok (.lastore, 1) := by decide +kernel
theorem dL_cardOf_9 : decode cL_cardOf 9 = .ok (.goto 6, 3) := by decide +kernel
theorem dL_cardOf_12 : decode cL_cardOf 12 = .ok (.astore_n 3, 1) := by decide +kernel
theorem dL_cardOf_13 : decode cL_cardOf 13 = .ok (.iconst 1, 1) := by decide +kernel
theorem dL_cardOf_14 : decode cL_cardOf 14 = .ok (.ireturn, 1) := by decide +kernel
theorem dL_cardOf_15 : decode cL_cardOf 15 = .ok (.iconst 0, 1) := by decide +kernel
theorem dL_cardOf_16 : decode cL_cardOf 16 = .ok (.ireturn, 1) := by decide +kernel
set_option maxRecDepth 20000 in
theorem ggL_controllerOf_X4_controllerOf : GoodIn wsL_controllerOf wsX4_controllerOf := goodIn_ca (goodIn_ca (goodIn_r _ [7, 8, 9, 10, 11, 12, 13, 6, 14, 15, 16, 17, 18, 19, 20, 21, 22, 23, 24, 25, 26, 27, 28, 29, 30, 31, 32, 33, 34, 35, 36, 37, 38, 39, 40, 41, 42, 43, 44, 45, 46, 47, 48, 49, 50, 51, 52, 53, 54, 55, 56, 57, 58, 59, 60, 61, 62, 63, 64, 65, 66, 67, 68, 69, 70, 71, 72, 73, 74, 75] (by decide +kernel) (by decide +kernel)) (goodIn_sub (fun _ h => List.mem_cons_of_mem _ (List.mem_append_left _ (List.mem_append_right _ h))) (by decide +kernel))) (goodIn_sub (fun _ h => List.mem_cons_of_mem _ (List.mem_append_right _ h)) (by decide +kernel))
set_option maxRecDepth 20000 in
theorem gL_controllerOf_X4_controllerOf : GoodIn wsL_controllerOf (wsV RL 32 RX4 yX4_controllerOf wsX4_controllerOf) := goodIn_app (goodIn_of _ (by decide +kernel)) ggL_controllerOf_X4_controllerOf
theorem dL_controllerOf_0 : decode cL_controllerOf 0 = .ok (.aload_n 3, 1) := by decide +kernel
theorem dL_controllerOf_1 : decode cL_controllerOf 1 = .ok (.iconst 0, 1) := by decide +kernel
theorem dL_controllerOf_2 : decode cL_controllerOf 2 = .ok (.aload_n 0, 1) := by decide +kernel
theorem dL_controllerOf_3 : decode cL_controllerOf 3 = .ok (.iload_n 1, 1) := by decide +kernel
theorem dL_controllerOf_4 : decode cL_controllerOf 4 = .ok (.iload_n 2, 1) := by decide +kernel
theorem dL_controllerOf_5 : decode cL_controllerOf 5 = .ok (.invokevirtual 32, 3) := by decide +kernel
theorem dL_controllerOf_8 : decode cL_controllerOf 8 = .ok (.i2l, 1) := by decide +kernel
theorem dL_controllerOf_9 : decode cL_controllerOf 9 = .ok (.lastore, 1) := by decide +kernel
theorem dL_controllerOf_10 : decode cL_controllerOf 10 = .ok (.goto 11, 3) := by decide +kernel
theorem dL_controllerOf_13 : decode cL_controllerOf 13 = .ok (.astore 4, 2) := by decide +kernel
theorem dL_controllerOf_15 : decode cL_controllerOf 15 = .ok (.iconst 1, 1) := by decide +kernel
theorem dL_controllerOf_16 : decode cL_controllerOf 16 = .ok (.ireturn, 1) := by decide +kernel
theorem dL_controllerOf_17 : decode cL_controllerOf 17 = .ok (.astore 4, 2) := by decide +kernel
theorem dL_controllerOf_19 : decode cL_controllerOf 19 = .ok (.iconst 2, 1) := by decide +kernel
theorem dL_controllerOf_20 : decode cL_controllerOf 20 = .ok (.ireturn, 1) := by decide +kernel
theorem dL_controllerOf_21 : decode cL_controllerOf 21 = .ok (.iconst 0, 1) := by decide +kernel
theorem dL_controllerOf_22 : decode cL_controllerOf 22 = .ok (.ireturn, 1) := by decide +kernel
set_option maxRecDepth 20000 in
theorem ggL_kindsOf_X4_kindsOf : GoodIn wsL_kindsOf wsX4_kindsOf := goodIn_ca (goodIn_ca (goodIn_r _ [7, 8, 9, 10, 11, 12, 13, 6, 14, 15, 16, 17, 18, 19, 20, 21, 22, 23, 24, 25, 26, 27, 28, 29, 30, 31, 32, 33, 34, 35, 36, 37, 38, 39, 40, 41, 42, 43, 44, 45, 46, 47, 48, 49, 50, 51, 52, 53, 54, 55, 56, 57, 58, 59, 60, 61, 62, 63, 64, 65, 66, 67, 68, 69, 70, 71, 72, 73, 74, 75] (by decide +kernel) (by decide +kernel)) (goodIn_sub (fun _ h => List.mem_cons_of_mem _ (List.mem_append_left _ (List.mem_append_right _ h))) (by decide +kernel))) (goodIn_sub (fun _ h => List.mem_cons_of_mem _ (List.mem_append_right _ h)) (by decide +kernel))
set_option maxRecDepth 20000 in
theorem gL_kindsOf_X4_kindsOf : GoodIn wsL_kindsOf (wsV RL 35 RX4 yX4_kindsOf wsX4_kindsOf) := goodIn_app (goodIn_of _ (by decide +kernel)) ggL_kindsOf_X4_kindsOf
theorem dL_kindsOf_0 : decode cL_kindsOf 0 = .ok (.aload_n 3, 1) := by decide +kernel
theorem dL_kindsOf_1 : decode cL_kindsOf 1 = .ok (.iconst 0, 1) := by decide +kernel
theorem dL_kindsOf_2 : decode cL_kindsOf 2 = .ok (.aload_n 0, 1) := by decide +kernel
theorem dL_kindsOf_3 : decode cL_kindsOf 3 = .ok (.iload_n 1, 1) := by decide +kernel
theorem dL_kindsOf_4 : decode cL_kindsOf 4 = .ok (.iload_n 2, 1) := by decide +kernel
theorem dL_kindsOf_5 : decode cL_kindsOf 5 = .ok (.invokevirtual 35, 3) := by decide +kernel
theorem dL_kindsOf_8 : decode cL_kindsOf 8 = .ok (.i2l, 1) := by decide +kernel
theorem dL_kindsOf_9 : decode cL_kindsOf 9 = .ok (.lastore, 1) := by decide +kernel
theorem dL_kindsOf_10 : decode cL_kindsOf 10 = .ok (.goto 11, 3) := by decide +kernel
theorem dL_kindsOf_13 : decode cL_kindsOf 13 = .ok (.astore 4, 2) := by decide +kernel
theorem dL_kindsOf_15 : decode cL_kindsOf 15 = .ok (.iconst 1, 1) := by decide +kernel
theorem dL_kindsOf_16 : decode cL_kindsOf 16 = .ok (.ireturn, 1) := by decide +kernel
theorem dL_kindsOf_17 : decode cL_kindsOf 17 = .ok (.astore 4, 2) := by decide +kernel
theorem dL_kindsOf_19 : decode cL_kindsOf 19 = .ok (.iconst 2, 1) := by decide +kernel
theorem dL_kindsOf_20 : decode cL_kindsOf 20 = .ok (.ireturn, 1) := by decide +kernel
theorem dL_kindsOf_21 : decode cL_kindsOf 21 = .ok (.iconst 0, 1) := by decide +kernel
theorem dL_kindsOf_22 : decode cL_kindsOf 22 = .ok (.ireturn, 1) := by decide +kernel
set_option maxRecDepth 20000 in
theorem ggL_strengthOf_X4_strengthOf : GoodIn wsL_strengthOf wsX4_strengthOf := goodIn_ca (goodIn_ca (goodIn_r _ [7, 8, 9, 10, 11, 12, 13, 6, 14, 15, 16, 17, 18, 19, 20, 21, 22, 23, 24, 25, 26, 27, 28, 29, 30, 31, 32, 33, 34, 35, 36, 37, 38, 39, 40, 41, 42, 43, 44, 45, 46, 47, 48, 49, 50, 51, 52, 53, 54, 55, 56, 57, 58, 59, 60, 61, 62, 63, 64, 65, 66, 67, 68, 69, 70, 71, 72, 73, 74, 75] (by decide +kernel) (by decide +kernel)) (goodIn_sub (fun _ h => List.mem_cons_of_mem _ (List.mem_append_left _ (List.mem_append_right _ h))) (by decide +kernel))) (goodIn_sub (fun _ h => List.mem_cons_of_mem _ (List.mem_append_right _ h)) (by decide +kernel))
set_option maxRecDepth 20000 in
theorem gL_strengthOf_X4_strengthOf : GoodIn wsL_strengthOf (wsV RL 38 RX4 yX4_strengthOf wsX4_strengthOf) := goodIn_app (goodIn_of _ (by decide +kernel)) ggL_strengthOf_X4_strengthOf
theorem dL_strengthOf_0 : decode cL_strengthOf 0 = .ok (.aload_n 3, 1) := by decide +kernel
theorem dL_strengthOf_1 : decode cL_strengthOf 1 = .ok (.iconst 0, 1) := by decide +kernel
theorem dL_strengthOf_2 : decode cL_strengthOf 2 = .ok (.aload_n 0, 1) := by decide +kernel
theorem dL_strengthOf_3 : decode cL_strengthOf 3 = .ok (.iload_n 1, 1) := by decide +kernel
theorem dL_strengthOf_4 : decode cL_strengthOf 4 = .ok (.iload_n 2, 1) := by decide +kernel
theorem dL_strengthOf_5 : decode cL_strengthOf 5 = .ok (.invokevirtual 38, 3) := by decide +kernel
theorem dL_strengthOf_8 : decode cL_strengthOf 8 = .ok (.i2l, 1) := by decide +kernel
theorem dL_strengthOf_9 : decode cL_strengthOf 9 = .ok (.lastore, 1) := by decide +kernel
theorem dL_strengthOf_10 : decode cL_strengthOf 10 = .ok (.goto 11, 3) := by decide +kernel
theorem dL_strengthOf_13 : decode cL_strengthOf 13 = .ok (.astore 4, 2) := by decide +kernel
theorem dL_strengthOf_15 : decode cL_strengthOf 15 = .ok (.iconst 1, 1) := by decide +kernel
theorem dL_strengthOf_16 : decode cL_strengthOf 16 = .ok (.ireturn, 1) := by decide +kernel
theorem dL_strengthOf_17 : decode cL_strengthOf 17 = .ok (.astore 4, 2) := by decide +kernel
theorem dL_strengthOf_19 : decode cL_strengthOf 19 = .ok (.iconst 2, 1) := by decide +kernel
theorem dL_strengthOf_20 : decode cL_strengthOf 20 = .ok (.ireturn, 1) := by decide +kernel
theorem dL_strengthOf_21 : decode cL_strengthOf 21 = .ok (.iconst 0, 1) := by decide +kernel
theorem dL_strengthOf_22 : decode cL_strengthOf 22 = .ok (.ireturn, 1) := by decide +kernel
set_option maxRecDepth 20000 in
theorem ggL_power_X4_power : GoodIn wsL_power wsX4_power := goodIn_ca (goodIn_r _ [6, 7, 8, 9, 10, 11, 12, 13, 14, 15, 16, 17, 18, 19, 20, 21, 22, 23, 24, 25, 26, 27, 28, 29, 30, 31, 32, 5, 33, 34, 35, 36, 37, 38, 39, 40, 41, 42, 43, 44, 45, 46, 47, 48, 49, 50, 51, 52, 53, 54, 55, 56, 57, 58, 59, 60, 61, 62, 63, 64, 65] (by decide +kernel) (by decide +kernel)) (goodIn_sub (fun _ h => List.mem_cons_of_mem _ (List.mem_append_right _ h)) (by decide +kernel))
set_option maxRecDepth 20000 in
theorem gL_power_X4_power : GoodIn wsL_power (wsV RL 41 RX4 yX4_power wsX4_power) := goodIn_app (goodIn_of _ (by decide +kernel)) ggL_power_X4_power
theorem dL_power_0 : decode cL_power 0 = .ok (.aload_n 2, 1) := by decide +kernel
theorem dL_power_1 : decode cL_power 1 = .ok (.iconst 0, 1) := by decide +kernel
theorem dL_power_2 : decode cL_power 2 = .ok (.aload_n 0, 1) := by decide +kernel
theorem dL_power_3 : decode cL_power 3 = .ok (.iload_n 1, 1) := by decide +kernel
theorem dL_power_4 : decode cL_power 4 = .ok (.invokevirtual 41, 3) := by decide +kernel
theorem dL_power_7 : decode cL_power 7 = .ok (.i2l, 1) := by decide +kernel
theorem dL_power_8 : decode cL_power 8 = .ok (.lastore, 1) := by decide +kernel
theorem dL_power_9 : decode cL_power 9 = .ok (.goto 6, 3) := by decide +kernel
theorem dL_power_12 : decode cL_power 12 = .ok (.astore_n 3, 1) := by decide +kernel
theorem dL_power_13 : decode cL_power 13 = .ok (.iconst 1, 1) := by decide +kernel
theorem dL_power_14 : decode cL_power 14 = .ok (.ireturn, 1) := by decide +kernel
theorem dL_power_15 : decode cL_power 15 = .ok (.iconst 0, 1) := by decide +kernel
theorem dL_power_16 : decode cL_power 16 = .ok (.ireturn, 1) := by decide +kernel
set_option maxRecDepth 20000 in
theorem ggL_entryCard_X4_entryCard : GoodIn wsL_entryCard wsX4_entryCard := goodIn_ca (goodIn_r _ [6, 7, 8, 9, 10, 11, 12, 13, 14, 15, 16, 17, 18, 19, 20, 21, 22, 23, 24, 25, 26, 27, 28, 29, 30, 31, 32, 33, 34, 35, 36, 37, 38] (by decide +kernel) (by decide +kernel)) (goodIn_sub (fun _ h => List.mem_cons_of_mem _ (List.mem_append_right _ h)) (by decide +kernel))
set_option maxRecDepth 20000 in
theorem gL_entryCard_X4_entryCard : GoodIn wsL_entryCard (wsV RL 44 RX4 yX4_entryCard wsX4_entryCard) := goodIn_app (goodIn_of _ (by decide +kernel)) ggL_entryCard_X4_entryCard
theorem dL_entryCard_0 : decode cL_entryCard 0 = .ok (.aload_n 2, 1) := by decide +kernel
theorem dL_entryCard_1 : decode cL_entryCard 1 = .ok (.iconst 0, 1) := by decide +kernel
theorem dL_entryCard_2 : decode cL_entryCard 2 = .ok (.aload_n 0, 1) := by decide +kernel
theorem dL_entryCard_3 : decode cL_entryCard 3 = .ok (.iload_n 1, 1) := by decide +kernel
theorem dL_entryCard_4 : decode cL_entryCard 4 = .ok (.invokevirtual 44, 3) := by decide +kernel
theorem dL_entryCard_7 : decode cL_entryCard 7 = .ok (.i2l, 1) := by decide +kernel
theorem dL_entryCard_8 : decode cL_entryCard 8 = .ok (.lastore, 1) := by decide +kernel
theorem dL_entryCard_9 : decode cL_entryCard 9 = .ok (.goto 6, 3) := by decide +kernel
theorem dL_entryCard_12 : decode cL_entryCard 12 = .ok (.astore_n 3, 1) := by decide +kernel
theorem dL_entryCard_13 : decode cL_entryCard 13 = .ok (.iconst 1, 1) := by decide +kernel
theorem dL_entryCard_14 : decode cL_entryCard 14 = .ok (.ireturn, 1) := by decide +kernel
theorem dL_entryCard_15 : decode cL_entryCard 15 = .ok (.iconst 0, 1) := by decide +kernel
theorem dL_entryCard_16 : decode cL_entryCard 16 = .ok (.ireturn, 1) := by decide +kernel
set_option maxRecDepth 20000 in
theorem ggL_isTrigger_X4_isTrigger : GoodIn wsL_isTrigger wsX4_isTrigger := goodIn_ca (goodIn_r _ [6, 7, 8, 9, 10, 11, 12, 13, 14, 15, 16, 17, 18, 19, 20, 21, 22, 23, 24, 25, 26, 27, 28, 29, 30, 31, 32, 33, 34, 35, 36, 37, 38] (by decide +kernel) (by decide +kernel)) (goodIn_sub (fun _ h => List.mem_cons_of_mem _ (List.mem_append_right _ h)) (by decide +kernel))
set_option maxRecDepth 20000 in
theorem gL_isTrigger_X4_isTrigger : GoodIn wsL_isTrigger (wsV RL 47 RX4 yX4_isTrigger wsX4_isTrigger) := goodIn_app (goodIn_of _ (by decide +kernel)) ggL_isTrigger_X4_isTrigger
theorem dL_isTrigger_0 : decode cL_isTrigger 0 = .ok (.aload_n 2, 1) := by decide +kernel
theorem dL_isTrigger_1 : decode cL_isTrigger 1 = .ok (.iconst 0, 1) := by decide +kernel
theorem dL_isTrigger_2 : decode cL_isTrigger 2 = .ok (.aload_n 0, 1) := by decide +kernel
theorem dL_isTrigger_3 : decode cL_isTrigger 3 = .ok (.iload_n 1, 1) := by decide +kernel
theorem dL_isTrigger_4 : decode cL_isTrigger 4 = .ok (.invokevirtual 47, 3) := by decide +kernel
theorem dL_isTrigger_7 : decode cL_isTrigger 7 = .ok (.ifCond .eq 7, 3) := by decide +kernel
theorem dL_isTrigger_10 : decode cL_isTrigger 10 = .ok (.lconst 1, 1) := by decide +kernel
theorem dL_isTrigger_11 : decode cL_isTrigger 11 = .ok (.goto 4, 3) := by decide +kernel
theorem dL_isTrigger_14 : decode cL_isTrigger 14 = .ok (.lconst 0, 1) := by decide +kernel
theorem dL_isTrigger_15 : decode cL_isTrigger 15 = .ok (.lastore, 1) := by decide +kernel
theorem dL_isTrigger_16 : decode cL_isTrigger 16 = .ok (.goto 6, 3) := by decide +kernel
theorem dL_isTrigger_19 : decode cL_isTrigger 19 = .ok (.astore_n 3, 1) := by decide +kernel
theorem dL_isTrigger_20 : decode cL_isTrigger 20 = .ok (.iconst 1, 1) := by decide +kernel
theorem dL_isTrigger_21 : decode cL_isTrigger 21 = .ok (.ireturn, 1) := by decide +kernel
theorem dL_isTrigger_22 : decode cL_isTrigger 22 = .ok (.iconst 0, 1) := by decide +kernel
theorem dL_isTrigger_23 : decode cL_isTrigger 23 = .ok (.ireturn, 1) := by decide +kernel
set_option maxRecDepth 20000 in
theorem ggL_entryPlayer_X4_entryPlayer : GoodIn wsL_entryPlayer wsX4_entryPlayer := goodIn_ca (goodIn_r _ [6, 7, 8, 9, 10, 11, 12, 13, 14, 15, 16, 17, 18, 19, 20, 21, 22, 23, 24, 25, 26, 27, 28, 29, 30, 31, 32, 33, 34, 35, 36, 37, 38] (by decide +kernel) (by decide +kernel)) (goodIn_sub (fun _ h => List.mem_cons_of_mem _ (List.mem_append_right _ h)) (by decide +kernel))
set_option maxRecDepth 20000 in
theorem gL_entryPlayer_X4_entryPlayer : GoodIn wsL_entryPlayer (wsV RL 51 RX4 yX4_entryPlayer wsX4_entryPlayer) := goodIn_app (goodIn_of _ (by decide +kernel)) ggL_entryPlayer_X4_entryPlayer
theorem dL_entryPlayer_0 : decode cL_entryPlayer 0 = .ok (.aload_n 2, 1) := by decide +kernel
theorem dL_entryPlayer_1 : decode cL_entryPlayer 1 = .ok (.iconst 0, 1) := by decide +kernel
theorem dL_entryPlayer_2 : decode cL_entryPlayer 2 = .ok (.aload_n 0, 1) := by decide +kernel
theorem dL_entryPlayer_3 : decode cL_entryPlayer 3 = .ok (.iload_n 1, 1) := by decide +kernel
theorem dL_entryPlayer_4 : decode cL_entryPlayer 4 = .ok (.invokevirtual 51, 3) := by decide +kernel
theorem dL_entryPlayer_7 : decode cL_entryPlayer 7 = .ok (.i2l, 1) := by decide +kernel
theorem dL_entryPlayer_8 : decode cL_entryPlayer 8 = .ok (.lastore, 1) := by decide +kernel
theorem dL_entryPlayer_9 : decode cL_entryPlayer 9 = .ok (.goto 6, 3) := by decide +kernel
theorem dL_entryPlayer_12 : decode cL_entryPlayer 12 = .ok (.astore_n 3, 1) := by decide +kernel
theorem dL_entryPlayer_13 : decode cL_entryPlayer 13 = .ok (.iconst 1, 1) := by decide +kernel
theorem dL_entryPlayer_14 : decode cL_entryPlayer 14 = .ok (.ireturn, 1) := by decide +kernel
theorem dL_entryPlayer_15 : decode cL_entryPlayer 15 = .ok (.iconst 0, 1) := by decide +kernel
theorem dL_entryPlayer_16 : decode cL_entryPlayer 16 = .ok (.ireturn, 1) := by decide +kernel
set_option maxRecDepth 20000 in
theorem ggL_entryTarget_X4_entryTarget : GoodIn wsL_entryTarget wsX4_entryTarget := goodIn_ca (goodIn_r _ [6, 7, 8, 9, 10, 11, 12, 13, 14, 15, 16, 17, 18, 19, 20, 21, 22, 23, 5, 24, 25, 26, 27, 28, 29, 30, 31, 32, 33, 34, 35, 36, 37, 38, 39, 40, 41, 42, 43, 44, 45, 46, 47, 48, 49, 50, 51, 52, 53, 54, 55, 56, 57, 58, 59, 60, 61, 62] (by decide +kernel) (by decide +kernel)) (goodIn_sub (fun _ h => List.mem_cons_of_mem _ (List.mem_append_right _ h)) (by decide +kernel))
set_option maxRecDepth 20000 in
theorem gL_entryTarget_X4_entryTarget : GoodIn wsL_entryTarget (wsV RL 54 RX4 yX4_entryTarget wsX4_entryTarget) := goodIn_app (goodIn_of _ (by decide +kernel)) ggL_entryTarget_X4_entryTarget
theorem dL_entryTarget_0 : decode cL_entryTarget 0 = .ok (.aload_n 2, 1) := by decide +kernel
theorem dL_entryTarget_1 : decode cL_entryTarget 1 = .ok (.iconst 0, 1) := by decide +kernel
theorem dL_entryTarget_2 : decode cL_entryTarget 2 = .ok (.aload_n 0, 1) := by decide +kernel
theorem dL_entryTarget_3 : decode cL_entryTarget 3 = .ok (.iload_n 1, 1) := by decide +kernel
theorem dL_entryTarget_4 : decode cL_entryTarget 4 = .ok (.invokevirtual 54, 3) := by decide +kernel
theorem dL_entryTarget_7 : decode cL_entryTarget 7 = .ok (.i2l, 1) := by decide +kernel
theorem dL_entryTarget_8 : decode cL_entryTarget 8 = .ok (.lastore, 1) := by decide +kernel
theorem dL_entryTarget_9 : decode cL_entryTarget 9 = .ok (.goto 6, 3) := by decide +kernel
theorem dL_entryTarget_12 : decode cL_entryTarget 12 = .ok (.astore_n 3, 1) := by decide +kernel
theorem dL_entryTarget_13 : decode cL_entryTarget 13 = .ok (.iconst 1, 1) := by decide +kernel
theorem dL_entryTarget_14 : decode cL_entryTarget 14 = .ok (.ireturn, 1) := by decide +kernel
theorem dL_entryTarget_15 : decode cL_entryTarget 15 = .ok (.iconst 0, 1) := by decide +kernel
theorem dL_entryTarget_16 : decode cL_entryTarget 16 = .ok (.ireturn, 1) := by decide +kernel
end
section
/-! The kit's rows, told of a world, a list of locals, a place and an operand stack at once; a call is the world of the callee cut out of the caller's. -/
abbrev zS_t : Type := Nat → Nat → Int32
/-- field (or array) k of a state is g from now on -/
def zsF (S : zS_t) (k : Nat) (g : Nat → Int32) : zS_t := fun f => bif Nat.beq f k then g else S f
def zsI (S : zS_t) (k : Nat) (v : Int32) : zS_t := zsF S k (fun _ => v)
/-- a computed value is named -/
def zbnd {α : Type} {β : Type} (e : α) (f : α → β) : β := f e
theorem zbnd_cut {α : Type} {β : Type} {e : α} {f : α → β} {X : β} (h : zbnd e f = X) {r : α} (hr : e = r) : f r = X := by subst hr; exact h
theorem zite_t {α : Type} {c : Prop} {i : Decidable c} {a b X : α} (h : (@ite α c i a b) = X) (hc : c) : a = X := by rw [if_pos hc] at h; exact h
theorem zite_f {α : Type} {c : Prop} {i : Decidable c} {a b X : α} (h : (@ite α c i a b) = X) (hc : ¬ c) : b = X := by rw [if_neg hc] at h; exact h
theorem zpair {α : Type} {β : Type} {a a2 : α} {b b2 : β} (h : (a, b) = (a2, b2)) : a = a2 ∧ b = b2 := Prod.mk.inj h
/-- locals: slot i holds v from now on -/
def zput : List (Nat × Value) → Nat → Value → List (Nat × Value)
  | [], i, v => [(i, v)]
  | q :: t, i, v => bif Nat.beq q.1 i then (i, v) :: t.filter (fun q => !(q.1 == i) && !(q.1 + 1 == i && q.2.category == 2)) else bif (Nat.beq (q.1 + 1) i && q.2.category == 2) then zput t i v else q :: zput t i v
theorem zput_mem : ∀ (l : List (Nat × Value)) (i : Nat) (v : Value) (q : Nat × Value), q ∈ zput l i v → q ∈ (i, v) :: l.filter (fun q => !(q.1 == i) && !(q.1 + 1 == i && q.2.category == 2))
  | [], i, v, q, h => by simpa [zput] using h
  | a :: t, i, v, q, h => by
    unfold zput at h
    cases h1 : Nat.beq a.1 i with
    | true =>
      rw [h1] at h
      have h : q ∈ (i, v) :: t.filter (fun q => !(q.1 == i) && !(q.1 + 1 == i && q.2.category == 2)) := h
      rcases List.mem_cons.mp h with h | h
      · rw [h]; exact List.mem_cons_self
      · refine List.mem_cons_of_mem _ ?_
        obtain ⟨h3, h4⟩ := List.mem_filter.mp h
        exact List.mem_filter.mpr ⟨List.mem_cons_of_mem _ h3, h4⟩
    | false =>
      rw [h1] at h
      have e1 : (a.1 == i) = false := by
        have := Nat.ne_of_beq_eq_false h1
        simpa using this
      have h : q ∈ (bif (Nat.beq (a.1 + 1) i && a.2.category == 2) then zput t i v else a :: zput t i v) := h
      have up : ∀ q, q ∈ (i, v) :: t.filter (fun q => !(q.1 == i) && !(q.1 + 1 == i && q.2.category == 2)) → q ∈ (i, v) :: (a :: t).filter (fun q => !(q.1 == i) && !(q.1 + 1 == i && q.2.category == 2)) := by
        intro q hq
        rcases List.mem_cons.mp hq with hq | hq
        · rw [hq]; exact List.mem_cons_self
        · refine List.mem_cons_of_mem _ ?_
          obtain ⟨h3, h4⟩ := List.mem_filter.mp hq
          exact List.mem_filter.mpr ⟨List.mem_cons_of_mem _ h3, h4⟩
      cases h2 : (Nat.beq (a.1 + 1) i && a.2.category == 2) with
      | true =>
        rw [h2] at h
        exact up q (zput_mem t i v q h)
      | false =>
        rw [h2] at h
        have h : q ∈ a :: zput t i v := h
        rcases List.mem_cons.mp h with h | h
        · subst h
          refine List.mem_cons_of_mem _ (List.mem_filter.mpr ⟨List.mem_cons_self, ?_⟩)
          have e3 : (q.1 + 1 == i) = Nat.beq (q.1 + 1) i := by
            cases hb : Nat.beq (q.1 + 1) i with
            | true => exact beq_iff_eq.mpr (Nat.eq_of_beq_eq_true hb)
            | false => exact beq_eq_false_iff_ne.mpr (Nat.ne_of_beq_eq_false hb)
          have e2 : (q.1 + 1 == i && q.2.category == 2) = false := by rw [e3]; exact h2
          rw [e1, e2]
          rfl
        · exact up q (zput_mem t i v q h)
theorem zhas_mem {ls : Array Slot} {nL : Nat} {l l' : List (Nat × Value)} (h : lv_has ls nL l) (hm : ∀ q ∈ l', q ∈ l) : lv_has ls nL l' := ⟨h.1, h.2.1, fun q hq => h.2.2 q (hm q hq)⟩
theorem zP_mem {D : va_G} {cl : List vw_C} {ws : va_W} {H : Heap} : va_P D cl ws H ↔ ∀ q ∈ ws, va_at D cl q H :=
  ⟨fun h q hq => by obtain ⟨k, hk⟩ := List.getElem?_of_mem hq; exact h k q hk, fun h k q hk => h q (List.mem_of_getElem? hk)⟩
theorem zD_iff {A : Nat → Prop} {ws : va_W} : va_D A ws ↔ List.Pairwise (fun (p q : Nat × va_E) => p.1 ≠ q.1) ws ∧ ∀ q ∈ ws, A q.1 := by
  constructor
  · intro h
    refine ⟨List.pairwise_iff_getElem.mpr (fun i j hi hj hij e => ?_), fun q hq => ?_⟩
    · have := h.1 i j _ _ (List.getElem?_eq_getElem hi) (List.getElem?_eq_getElem hj) e
      omega
    · obtain ⟨k, hk⟩ := List.getElem?_of_mem hq
      exact h.2 k q hk
  · rintro ⟨h1, h2⟩
    refine ⟨fun i j p q hi hj e => ?_, fun k q hk => h2 q (List.mem_of_getElem? hk)⟩
    obtain ⟨hi', rfl⟩ := List.getElem?_eq_some_iff.mp hi
    obtain ⟨hj', rfl⟩ := List.getElem?_eq_some_iff.mp hj
    rcases Nat.lt_trichotomy i j with hl | hl | hl
    · exact absurd e (List.pairwise_iff_getElem.mp h1 i j hi' hj' hl)
    · exact hl
    · exact absurd e.symm (List.pairwise_iff_getElem.mp h1 j i hj' hi' hl)
theorem zfree {A : Nat → Prop} {w1 wc w2 : va_W} {H0 H : Heap} {locs : List Loc} (hD : va_D A (w1 ++ (wc ++ w2))) (hS : va_S A H0 H locs) (hA : ∀ q, H0.size ≤ q → A q) : ∀ q, va_A wc H.size q → A q := by
  intro q h
  rcases h with ⟨k, e, h⟩ | h
  · exact (zD_iff.mp hD).2 (q, e) (List.mem_append_right _ (List.mem_append_left _ (List.mem_of_getElem? h)))
  · exact hA q (Nat.le_trans hS.1 h)
theorem zcutP {D : va_G} {cl : List vw_C} {w1 wc w2 : va_W} {H : Heap} (h : va_P D cl (w1 ++ (wc ++ w2)) H) : va_P D cl wc H := zP_mem.mpr fun q hq => zP_mem.mp h q (List.mem_append_right _ (List.mem_append_left _ hq))
theorem zcutD {A : Nat → Prop} {w1 wc w2 : va_W} (h : va_D A (w1 ++ (wc ++ w2))) : va_D A wc := by
  obtain ⟨h1, h2⟩ := zD_iff.mp h
  exact zD_iff.mpr ⟨(List.pairwise_append.mp (List.pairwise_append.mp h1).2.1).1, fun q hq => h2 q (List.mem_append_right _ (List.mem_append_left _ hq))⟩
theorem zjoin {A : Nat → Prop} {D : va_G} {cl : List vw_C} {w1 wc w2 wn : va_W} {H H1 : Heap} (hP : va_P D cl (w1 ++ (wc ++ w2)) H) (hD : va_D A (w1 ++ (wc ++ w2))) (hk : ∀ q : Nat, q < H.size → ¬ va_A wc H.size q → H1[q]? = H[q]?) (hF : ∀ q, va_A wc H.size q → A q) (hP1 : va_P D cl wn H1) (hD1 : va_D (va_A wc H.size) wn) :
    va_P D cl (w1 ++ (wn ++ w2)) H1 ∧ va_D A (w1 ++ (wn ++ w2)) := by
  obtain ⟨d1, d2⟩ := zD_iff.mp hD
  obtain ⟨e1, e2⟩ := zD_iff.mp hD1
  obtain ⟨p1, p2, p3⟩ := List.pairwise_append.mp d1
  obtain ⟨p4, p5, p6⟩ := List.pairwise_append.mp p2
  have hPm := zP_mem.mp hP
  have out : ∀ q, q ∈ w1 ∨ q ∈ w2 → q.1 < H.size ∧ ¬ va_A wc H.size q.1 := by
    intro q hq
    have hm : q ∈ w1 ++ (wc ++ w2) := by
      rcases hq with h | h
      · exact List.mem_append_left _ h
      · exact List.mem_append_right _ (List.mem_append_right _ h)
    have hlt := (hPm q hm).lt
    refine ⟨hlt, fun h => ?_⟩
    rcases h with ⟨k, e, h⟩ | h
    · have hc := List.mem_of_getElem? h
      rcases hq with h9 | h9
      · exact p3 q h9 (q.1, e) (List.mem_append_left _ hc) rfl
      · exact p6 (q.1, e) hc q h9 rfl
    · omega
  refine ⟨zP_mem.mpr fun q hq => ?_, zD_iff.mpr ⟨?_, fun q hq => ?_⟩⟩
  · rcases List.mem_append.mp hq with h | h
    · exact (hPm q (List.mem_append_left _ h)).kept (hk q.1 (out q (Or.inl h)).1 (out q (Or.inl h)).2)
    · rcases List.mem_append.mp h with h | h
      · exact zP_mem.mp hP1 q h
      · exact (hPm q (List.mem_append_right _ (List.mem_append_right _ h))).kept (hk q.1 (out q (Or.inr h)).1 (out q (Or.inr h)).2)
  · refine List.pairwise_append.mpr ⟨p1, List.pairwise_append.mpr ⟨e1, p5, fun a ha b hb e => ?_⟩, fun a ha b hb e => ?_⟩
    · exact (out b (Or.inr hb)).2 (by rw [← e]; exact e2 a ha)
    · rcases List.mem_append.mp hb with h | h
      · exact (out a (Or.inl ha)).2 (by rw [e]; exact e2 b h)
      · exact p3 a ha b (List.mem_append_right _ h) e
  · rcases List.mem_append.mp hq with h | h
    · exact d2 q (List.mem_append_left _ h)
    · rcases List.mem_append.mp h with h | h
      · exact hF _ (e2 q h)
      · exact d2 q (List.mem_append_right _ (List.mem_append_right _ h))
/-! what the two static tables hold, what a throw needs of the JDK's statics, the texts, the nest mates' links -/
def zCost : List Int32 := [2, 3, 3, 3, 3, 2, 2, 4, 3, 2, 3, 3, 1, 1]
def zLayer : List Int32 := [0, 0, 4, 3, 3, 2, 2, 1, 5, 0, 0, 0, 0, 0]
def zTexts : List (Nat × String) := [(43, "no such card"), (54, "the card cannot be played"), (100, "entries is out of range"), (112, "no such player"), (119, "no such thing"), (141, "no such entry"), (157, "layer is out of range")]
def zNests : List (String × Nat × MethodName × String) := [(RX4, 15, yX2_init, RX2), (RX4, 22, yX0_init, RX0), (RX4, 29, yX3_init, RX3), (RX4, 36, yX1_init, RX1), (RX3, 43, yX4_layerOf, RX4)]
def zSw (U : State) : Prop := (∀ q ∈ zTexts, ∃ a : Nat, vk_R RX4 q.1 q.2 a U) ∧ ∀ q ∈ zNests, va_Nw (.methodLinkNest q.1 q.2.1 q.2.2.1 q.2.2.2) U
def zTb (n : String) (xs : List Int32) (A : Nat → Prop) (U : State) (H : Heap) : Prop := ∃ t : Nat, va_Z "LayeredTable" n "[I" (.ref t) A U H ∧ va_T .int t 14 (fun j => .int (xs.getD j 0)) A U H
def zSt (A : Nat → Prop) (U : State) (H : Heap) : Prop := zTb "COST_OF" zCost A U H ∧ zTb "LAYER_OF" zLayer A U H ∧ vx_Zq Bundle.tN "UNASSIGNED_STACK" Bundle.steD A U H ∧ vx_Zq Bundle.tN "SUPPRESSED_SENTINEL" Bundle.listD A U H ∧ zSw U
theorem zTb.to {n : String} {xs : List Int32} {A B : Nat → Prop} {u U : State} {H H1 : Heap} (h : zTb n xs A u H) (hW : u.WarmedH U.vm) (hq : ∀ a : Nat, a < H.size → ¬ A a → H1[a]? = H[a]?) (hAB : ∀ q, B q → A q) : zTb n xs B U H1 := by
  obtain ⟨t, h1, h2⟩ := h
  exact ⟨t, ((va_Z.moved hW.alike h1).kept hq).narrow hAB, ((va_T.moved hW.alike h2).kept hq).narrow hAB⟩
theorem zSt.to {A B : Nat → Prop} {u U : State} {H H1 : Heap} (h : zSt A u H) (hW : u.WarmedH U.vm) (hq : ∀ a : Nat, a < H.size → ¬ A a → H1[a]? = H[a]?) (hAB : ∀ q, B q → A q) : zSt B U H1 := by
  obtain ⟨h1, h2, h3, h4, h5, h6⟩ := h
  refine ⟨h1.to hW hq hAB, h2.to hW hq hAB, ((vx_Zq.moved hW.alike h3).kept hq).narrow hAB, ((vx_Zq.moved hW.alike h4).kept hq).narrow hAB, fun q hq => ?_, fun q hq => va_Nw.warmM hW (h6 q hq)⟩
  obtain ⟨a, ha⟩ := h5 q hq
  exact ⟨a, vk_R.warm hW ha⟩
/-- what a method asks of its start: its world, the tables, the statics -/
def zB (D : va_G) (tys : List (ClassId × FieldType)) (W0 : va_W) (sz : Nat) (U : State) : Prop := U.heap.size = sz ∧ va_P D vwCl W0 U.heap ∧ va_K D vwCl tys U ∧ va_D (fun _ => True) W0 ∧ zSt (va_A W0 sz) U U.heap
theorem zB_blind {D : va_G} {tys : List (ClassId × FieldType)} {W0 : va_W} {sz : Nat} {av : List Value} : FrameBlind (va_Pc av (zB D tys W0 sz)) := by
  intro a U g mk q
  obtain ⟨q0, q1, qP, qK, qD, qS⟩ := q
  exact ⟨q0, q1, qP, va_K.moved (u := U) (U := U.calling g mk a) (Vm.Alike.refl U.vm) qK, qD, zSt.to (u := U) (U := U.calling g mk a) qS (State.WarmedH.refl U) (fun _ _ _ => rfl) (fun _ h => h)⟩
def zEnd (D : va_G) (W1 : va_W) (A : Nat → Prop) (t : State) : Prop := va_P D vwCl W1 t.heap ∧ va_D A W1
/-- method y, called with av in the world W0, answers r; the world is W1 then -/
def zCI (l : Launch) (D : va_G) (tys : List (ClassId × FieldType)) (y : MethodName) (wy : List Cond) (rm : Room) (av : List Value) (W0 : va_W) (r : Int32) (W1 : va_W) : Prop :=
  ∀ sz : Nat, Met l y wy rm (va_Pc av (zB D tys W0 sz)) (va_Qi (fun (x : Int32) (_ : Unit) => x = r) (fun _ t => zEnd D W1 (va_A W0 sz) t) (va_A W0 sz)) 0 0 (va_A W0 sz)
/-- the same, without an answer -/
def zCV (l : Launch) (D : va_G) (tys : List (ClassId × FieldType)) (y : MethodName) (wy : List Cond) (rm : Room) (av : List Value) (W0 : va_W) (W1 : va_W) : Prop :=
  ∀ sz : Nat, Met l y wy rm (va_Pc av (zB D tys W0 sz)) (va_Qv (fun (_ : Unit) => True) (fun _ t => zEnd D W1 (va_A W0 sz) t) (va_A W0 sz)) 0 0 (va_A W0 sz)
def zbnd2 {α1 α2 β : Type} (e : α1 × α2) (f : α1 → α2 → β) : β := f (e.1) (e.2)
theorem zbnd2_cut {α1 α2 β : Type} {e : α1 × α2} {f : α1 → α2 → β} {X : β} (h : zbnd2 e f = X) {a1 : α1} {a2 : α2} (hr : e = (a1, a2)) : f a1 a2 = X := by subst hr; exact h
def zbnd3 {α1 α2 α3 β : Type} (e : α1 × α2 × α3) (f : α1 → α2 → α3 → β) : β := f (e.1) (e.2.1) (e.2.2)
theorem zbnd3_cut {α1 α2 α3 β : Type} {e : α1 × α2 × α3} {f : α1 → α2 → α3 → β} {X : β} (h : zbnd3 e f = X) {a1 : α1} {a2 : α2} {a3 : α3} (hr : e = (a1, a2, a3)) : f a1 a2 a3 = X := by subst hr; exact h
def zbnd4 {α1 α2 α3 α4 β : Type} (e : α1 × α2 × α3 × α4) (f : α1 → α2 → α3 → α4 → β) : β := f (e.1) (e.2.1) (e.2.2.1) (e.2.2.2)
theorem zbnd4_cut {α1 α2 α3 α4 β : Type} {e : α1 × α2 × α3 × α4} {f : α1 → α2 → α3 → α4 → β} {X : β} (h : zbnd4 e f = X) {a1 : α1} {a2 : α2} {a3 : α3} {a4 : α4} (hr : e = (a1, a2, a3, a4)) : f a1 a2 a3 a4 = X := by subst hr; exact h
def zbnd5 {α1 α2 α3 α4 α5 β : Type} (e : α1 × α2 × α3 × α4 × α5) (f : α1 → α2 → α3 → α4 → α5 → β) : β := f (e.1) (e.2.1) (e.2.2.1) (e.2.2.2.1) (e.2.2.2.2)
theorem zbnd5_cut {α1 α2 α3 α4 α5 β : Type} {e : α1 × α2 × α3 × α4 × α5} {f : α1 → α2 → α3 → α4 → α5 → β} {X : β} (h : zbnd5 e f = X) {a1 : α1} {a2 : α2} {a3 : α3} {a4 : α4} {a5 : α5} (hr : e = (a1, a2, a3, a4, a5)) : f a1 a2 a3 a4 a5 = X := by subst hr; exact h
def zbnd6 {α1 α2 α3 α4 α5 α6 β : Type} (e : α1 × α2 × α3 × α4 × α5 × α6) (f : α1 → α2 → α3 → α4 → α5 → α6 → β) : β := f (e.1) (e.2.1) (e.2.2.1) (e.2.2.2.1) (e.2.2.2.2.1) (e.2.2.2.2.2)
theorem zbnd6_cut {α1 α2 α3 α4 α5 α6 β : Type} {e : α1 × α2 × α3 × α4 × α5 × α6} {f : α1 → α2 → α3 → α4 → α5 → α6 → β} {X : β} (h : zbnd6 e f = X) {a1 : α1} {a2 : α2} {a3 : α3} {a4 : α4} {a5 : α5} {a6 : α6} (hr : e = (a1, a2, a3, a4, a5, a6)) : f a1 a2 a3 a4 a5 a6 = X := by subst hr; exact h
/-! numbers -/
theorem zin {a : Int32} {n : Nat} (h0 : 0 ≤ a.toInt) (h1 : a.toInt < n) : vp_in a n := vp_in_iff.mpr ⟨h0, h1⟩
theorem zt_lt {a b : Int32} (h : a < b) : a.toInt < b.toInt := Int32.lt_iff_toInt_lt.mp h
theorem zt_le {a b : Int32} (h : a ≤ b) : a.toInt ≤ b.toInt := Int32.le_iff_toInt_le.mp h
theorem zt_nlt {a b : Int32} (h : ¬ a < b) : b.toInt ≤ a.toInt := Int.not_lt.mp fun q => h (Int32.lt_iff_toInt_lt.mpr q)
theorem zt_nle {a b : Int32} (h : ¬ a ≤ b) : b.toInt < a.toInt := Int.not_le.mp fun q => h (Int32.le_iff_toInt_le.mpr q)
theorem zt_ne {a b : Int32} (h : ¬ a = b) : ¬ a.toInt = b.toInt := fun q => h (Int32.toInt_inj.mp q)
theorem zbm {x : Int} (h0 : -2147483648 ≤ x) (h1 : x < 2147483648) : x.bmod (2 ^ 32) = x := by
  rw [Int.bmod_def]
  have e : ((2 ^ 32 : Nat) : Int) = 4294967296 := rfl
  rw [e]
  by_cases h : 0 ≤ x
  · rw [Int.emod_eq_of_lt h (by omega), if_pos (by omega)]
  · have e2 : x % 4294967296 = x + 4294967296 := by omega
    rw [e2, if_neg (by omega)]
    omega
theorem zt_add {a b : Int32} (h0 : -2147483648 ≤ a.toInt + b.toInt) (h1 : a.toInt + b.toInt < 2147483648) : (a + b).toInt = a.toInt + b.toInt := by rw [Int32.toInt_add]; exact zbm h0 h1
theorem zt_sub {a b : Int32} (h0 : -2147483648 ≤ a.toInt - b.toInt) (h1 : a.toInt - b.toInt < 2147483648) : (a - b).toInt = a.toInt - b.toInt := by rw [Int32.toInt_sub]; exact zbm h0 h1
theorem zt_mulc {a b : Int32} {c : Int} (hc : a.toInt = c) (h0 : -2147483648 ≤ c * b.toInt) (h1 : c * b.toInt < 2147483648) : (a * b).toInt = c * b.toInt := by rw [Int32.toInt_mul, hc]; exact zbm h0 h1
theorem zt_rem {a b : Int32} {c : Int} (hc : b.toInt = c) (h0 : 0 < c) (h1 : 0 ≤ a.toInt) : (a - a / b * b).toInt = a.toInt % c := by
  have hb : b.toInt ≠ 0 := by omega
  have e1 : (a / b).toInt = a.toInt.tdiv b.toInt := by
    rw [Int32.toInt_div]
    have h2 := Int32.toInt_lt a
    have h3 : (0 : Int) ≤ a.toInt.tdiv b.toInt := Int.tdiv_nonneg h1 (by omega)
    have h4 : a.toInt.tdiv b.toInt ≤ a.toInt := Int.tdiv_le_self _ h1
    exact zbm (by omega) (by omega)
  have h2 := Int32.toInt_lt a
  have h5 : a.toInt.tdiv b.toInt * b.toInt = a.toInt - a.toInt % c := by
    rw [hc, Int.tdiv_eq_ediv_of_nonneg h1]
    have := Int.mul_ediv_add_emod a.toInt c
    rw [Int.mul_comm]; omega
  have h6 := Int.emod_nonneg a.toInt (by omega : c ≠ 0)
  have h7 : a.toInt % c ≤ a.toInt := by
    have h8 := Int.mul_ediv_add_emod a.toInt c
    have h9 : 0 ≤ c * (a.toInt / c) := Int.mul_nonneg (by omega) (Int.ediv_nonneg h1 (by omega))
    omega
  have e2 : (a / b * b).toInt = a.toInt - a.toInt % c := by
    rw [Int32.toInt_mul, e1, h5]
    exact zbm (by omega) (by omega)
  rw [Int32.toInt_sub, e2, zbm (by omega) (by omega)]
  omega
/-! booleans as ints -/
theorem znar_n (x : Int32) : narrow .boolean (.int x) = .int (vp_nar .boolean x) := rfl
theorem znz {x : Int32} (h : vp_nar .boolean x = x) : narrow .boolean (.int x) = .int x := by rw [znar_n, h]
theorem znb {x : Int32} (h : x = 0 ∨ x = 1) : narrow .boolean (.int x) = .int x := by rcases h with rfl | rfl <;> rfl
theorem znar_01 (x : Int32) : vp_nar .boolean x = 0 ∨ vp_nar .boolean x = 1 := by
  have e : vp_nar .boolean x = x &&& 1 := rfl
  obtain ⟨j, hj, e2⟩ := pk_andE x (m := 1) 1 rfl
  rw [e, e2]
  match j, hj with
  | 0, _ => exact Or.inl rfl
  | 1, _ => exact Or.inr rfl
theorem znar_idem (x : Int32) : vp_nar .boolean (vp_nar .boolean x) = vp_nar .boolean x := by rcases znar_01 x with h | h <;> rw [h] <;> rfl
theorem zbz {x : Int32} (h : vp_nar .boolean x = x) : x = 0 ∨ x = 1 := by rw [← h]; exact znar_01 x
theorem zib_upd {f : Nat → Int32} {k : Nat} {x : Int32} (h : ∀ j, vp_nar .boolean (f j) = f j) (hx : vp_nar .boolean x = x) : ∀ j, vp_nar .boolean (upd f k x j) = upd f k x j := by
  intro j
  unfold upd
  split
  · exact hx
  · exact h j
theorem zip_upd {f : Nat → Int32} {k : Nat} {x : Int32} (h : ∀ j, 0 ≤ (f j).toInt ∧ (f j).toInt ≤ 2) (hx : 0 ≤ x.toInt ∧ x.toInt ≤ 2) : ∀ j, 0 ≤ (upd f k x j).toInt ∧ (upd f k x j).toInt ≤ 2 := by
  intro j
  unfold upd
  split
  · exact hx
  · exact h j
theorem zw_nil (w : va_W) : w = [] ++ (w ++ []) := by simp
/-- at a point of a method: the world, the locals, the place, the operand stack -/
def zW (p : Program) (l : Launch) (e : Env) (R : Room) (s : State) (m : MethodId) (args : Array Value) (below : List Frame) (meth : Method) (c : Code) (cells slots : Nat) (Q : State → Prop) (D : va_G) (A : Nat → Prop) (nL : Nat) (ws : va_W) (lv : List (Nat × Value)) (pc : Nat) (st : List Value) : Prop :=
  ∀ (H : Heap) (locs : List Loc) (ls : Array Slot), va_P D vwCl ws H → va_D A ws → va_S A s.heap H locs → lv_has ls nL lv → W p l e R s m args below meth c H locs cells slots Q (F0 m pc ls st)
/-- what stays so from a method's start to its end -/
def zF (p : Program) (m : MethodId) (c : Code) (cc : ByteArray) (nL : Nat) (s : State) (args : Array Value) (Ts : List Cond) (own : String) (D : va_G) (tys : List (ClassId × FieldType)) (A : Nat → Prop) : Prop :=
  CallFix p m c cc nL s args Ts own ∧ va_K D vwCl tys s ∧ (∀ q, s.heap.size ≤ q → A q) ∧ zSt A s s.heap
section ZI
variable {p : Program} {l : Launch} {e : Env} {R : Room} {s : State} {m : MethodId} {args : Array Value} {below : List Frame} {meth : Method} {c : Code} {cells slots : Nat} {Q : State → Prop}
variable {cc : ByteArray} {nL : Nat} {Ts : List Cond} {own : String} {D : va_G} {tys : List (ClassId × FieldType)} {A : Nat → Prop} {ws ws' : va_W} {lv lv' : List (Nat × Value)} {st : List Value} {pc : Nat}
theorem zi_iconst (F : zF p m c cc nL s args Ts own D tys A) {n : Int} {v : Int32} (hdg : decode cc pc = .ok (.iconst n, 1)) (hv : Int32.ofInt n = v) (k : zW p l e R s m args below meth c cells slots Q D A nL ws lv (pc + 1) (.int v :: st)) : zW p l e R s m args below meth c cells slots Q D A nL ws lv pc st := fun H locs ls hP hD hS hl => lv_iconst F.1.1 F.1.2.1 hdg hv (k H locs ls hP hD hS hl)
theorem zi_bipush (F : zF p m c cc nL s args Ts own D tys A) {n : Int} {v : Int32} (hdg : decode cc pc = .ok (.bipush n, 2)) (hv : (Int8.ofInt n).toInt32 = v) (k : zW p l e R s m args below meth c cells slots Q D A nL ws lv (pc + 2) (.int v :: st)) : zW p l e R s m args below meth c cells slots Q D A nL ws lv pc st := fun H locs ls hP hD hS hl => lv_bipush F.1.1 F.1.2.1 hdg hv (k H locs ls hP hD hS hl)
theorem zi_sipush (F : zF p m c cc nL s args Ts own D tys A) {n : Int} {v : Int32} (hdg : decode cc pc = .ok (.sipush n, 3)) (hv : (Int16.ofInt n).toInt32 = v) (k : zW p l e R s m args below meth c cells slots Q D A nL ws lv (pc + 3) (.int v :: st)) : zW p l e R s m args below meth c cells slots Q D A nL ws lv pc st := fun H locs ls hP hD hS hl => lv_sipush F.1.1 F.1.2.1 hdg hv (k H locs ls hP hD hS hl)
theorem zi_lconst (F : zF p m c cc nL s args Ts own D tys A) {n : Fin 2} {v : Int64} (hdg : decode cc pc = .ok (.lconst n, 1)) (hv : Int64.ofNat (n : Nat) = v) (k : zW p l e R s m args below meth c cells slots Q D A nL ws lv (pc + 1) (.long v :: st)) : zW p l e R s m args below meth c cells slots Q D A nL ws lv pc st := fun H locs ls hP hD hS hl => lv_lconst F.1.1 F.1.2.1 hdg hv (k H locs ls hP hD hS hl)
theorem zi_iload_n (F : zF p m c cc nL s args Ts own D tys A) {k9 : Fin 4} {x : Int32} (hdg : decode cc pc = .ok (.iload_n k9, 1)) (j : Nat) (hj : lv[j]? = some ((k9 : Nat), .int x)) (k : zW p l e R s m args below meth c cells slots Q D A nL ws lv (pc + 1) (.int x :: st)) : zW p l e R s m args below meth c cells slots Q D A nL ws lv pc st := fun H locs ls hP hD hS hl => lv_iload_n F.1.1 F.1.2.1 hdg rfl (lv_at hl j hj) (k H locs ls hP hD hS hl)
theorem zi_iload (F : zF p m c cc nL s args Ts own D tys A) {i : Nat} {x : Int32} (hdg : decode cc pc = .ok (.iload i, 2)) (j : Nat) (hj : lv[j]? = some (i, .int x)) (k : zW p l e R s m args below meth c cells slots Q D A nL ws lv (pc + 2) (.int x :: st)) : zW p l e R s m args below meth c cells slots Q D A nL ws lv pc st := fun H locs ls hP hD hS hl => lv_iload F.1.1 F.1.2.1 hdg (lv_at hl j hj) (k H locs ls hP hD hS hl)
theorem zi_istore_n (F : zF p m c cc nL s args Ts own D tys A) {k9 : Fin 4} {x : Int32} (hdg : decode cc pc = .ok (.istore_n k9, 1)) (hn : (k9 : Nat) < nL) (hlv : zput lv k9 (.int x) = lv') (k : zW p l e R s m args below meth c cells slots Q D A nL ws lv' (pc + 1) st) : zW p l e R s m args below meth c cells slots Q D A nL ws lv pc (.int x :: st) := fun H locs ls hP hD hS hl => lv_istore_n F.1.1 F.1.2.1 hdg rfl hl hn rfl (fun ls1 h1 => k H locs ls1 hP hD hS (zhas_mem h1 (fun q hq => zput_mem lv k9 _ q (by rw [hlv]; exact hq))))
theorem zi_istore (F : zF p m c cc nL s args Ts own D tys A) {i : Nat} {x : Int32} (hdg : decode cc pc = .ok (.istore i, 2)) (hn : i < nL) (hlv : zput lv i (.int x) = lv') (k : zW p l e R s m args below meth c cells slots Q D A nL ws lv' (pc + 2) st) : zW p l e R s m args below meth c cells slots Q D A nL ws lv pc (.int x :: st) := fun H locs ls hP hD hS hl => lv_istore F.1.1 F.1.2.1 hdg hl hn rfl (fun ls1 h1 => k H locs ls1 hP hD hS (zhas_mem h1 (fun q hq => zput_mem lv i _ q (by rw [hlv]; exact hq))))
theorem zi_aload_n (F : zF p m c cc nL s args Ts own D tys A) {k9 : Fin 4} {x : Nat} (hdg : decode cc pc = .ok (.aload_n k9, 1)) (j : Nat) (hj : lv[j]? = some ((k9 : Nat), .ref x)) (k : zW p l e R s m args below meth c cells slots Q D A nL ws lv (pc + 1) (.ref x :: st)) : zW p l e R s m args below meth c cells slots Q D A nL ws lv pc st := fun H locs ls hP hD hS hl => lv_aload_n F.1.1 F.1.2.1 hdg rfl (lv_at hl j hj) (k H locs ls hP hD hS hl)
theorem zi_aload (F : zF p m c cc nL s args Ts own D tys A) {i : Nat} {x : Nat} (hdg : decode cc pc = .ok (.aload i, 2)) (j : Nat) (hj : lv[j]? = some (i, .ref x)) (k : zW p l e R s m args below meth c cells slots Q D A nL ws lv (pc + 2) (.ref x :: st)) : zW p l e R s m args below meth c cells slots Q D A nL ws lv pc st := fun H locs ls hP hD hS hl => lv_aload F.1.1 F.1.2.1 hdg (lv_at hl j hj) (k H locs ls hP hD hS hl)
theorem zi_astore_n (F : zF p m c cc nL s args Ts own D tys A) {k9 : Fin 4} {x : Nat} (hdg : decode cc pc = .ok (.astore_n k9, 1)) (hn : (k9 : Nat) < nL) (hlv : zput lv k9 (.ref x) = lv') (k : zW p l e R s m args below meth c cells slots Q D A nL ws lv' (pc + 1) st) : zW p l e R s m args below meth c cells slots Q D A nL ws lv pc (.ref x :: st) := fun H locs ls hP hD hS hl => lv_astore_n F.1.1 F.1.2.1 hdg rfl hl hn rfl (fun ls1 h1 => k H locs ls1 hP hD hS (zhas_mem h1 (fun q hq => zput_mem lv k9 _ q (by rw [hlv]; exact hq))))
theorem zi_astore (F : zF p m c cc nL s args Ts own D tys A) {i : Nat} {x : Nat} (hdg : decode cc pc = .ok (.astore i, 2)) (hn : i < nL) (hlv : zput lv i (.ref x) = lv') (k : zW p l e R s m args below meth c cells slots Q D A nL ws lv' (pc + 2) st) : zW p l e R s m args below meth c cells slots Q D A nL ws lv pc (.ref x :: st) := fun H locs ls hP hD hS hl => lv_astore F.1.1 F.1.2.1 hdg hl hn rfl (fun ls1 h1 => k H locs ls1 hP hD hS (zhas_mem h1 (fun q hq => zput_mem lv i _ q (by rw [hlv]; exact hq))))
theorem zi_iinc (F : zF p m c cc nL s args Ts own D tys A) {i : Nat} {n : Int} {x v : Int32} (hdg : decode cc pc = .ok (.iinc i n, 3)) (j : Nat) (hj : lv[j]? = some (i, .int x)) (hv : x + Int32.ofInt n = v) (hn : i < nL) (hlv : zput lv i (.int v) = lv') (k : zW p l e R s m args below meth c cells slots Q D A nL ws lv' (pc + 3) st) : zW p l e R s m args below meth c cells slots Q D A nL ws lv pc st := fun H locs ls hP hD hS hl => lv_iinc F.1.1 F.1.2.1 hdg hl hj hv hn rfl (fun ls1 h1 => k H locs ls1 hP hD hS (zhas_mem h1 (fun q hq => zput_mem lv i _ q (by rw [hlv]; exact hq))))
theorem zi_iadd (F : zF p m c cc nL s args Ts own D tys A) {x y : Int32} (hdg : decode cc pc = .ok (.iadd, 1)) (k : zW p l e R s m args below meth c cells slots Q D A nL ws lv (pc + 1) (.int (x + y) :: st)) : zW p l e R s m args below meth c cells slots Q D A nL ws lv pc (.int y :: .int x :: st) := fun H locs ls hP hD hS hl => lv_iadd F.1.1 F.1.2.1 hdg (k H locs ls hP hD hS hl)
theorem zi_isub (F : zF p m c cc nL s args Ts own D tys A) {x y : Int32} (hdg : decode cc pc = .ok (.isub, 1)) (k : zW p l e R s m args below meth c cells slots Q D A nL ws lv (pc + 1) (.int (x - y) :: st)) : zW p l e R s m args below meth c cells slots Q D A nL ws lv pc (.int y :: .int x :: st) := fun H locs ls hP hD hS hl => lv_isub F.1.1 F.1.2.1 hdg (k H locs ls hP hD hS hl)
theorem zi_imul (F : zF p m c cc nL s args Ts own D tys A) {x y : Int32} (hdg : decode cc pc = .ok (.imul, 1)) (k : zW p l e R s m args below meth c cells slots Q D A nL ws lv (pc + 1) (.int (x * y) :: st)) : zW p l e R s m args below meth c cells slots Q D A nL ws lv pc (.int y :: .int x :: st) := fun H locs ls hP hD hS hl => lv_imul F.1.1 F.1.2.1 hdg (k H locs ls hP hD hS hl)
theorem zi_iand (F : zF p m c cc nL s args Ts own D tys A) {x y : Int32} (hdg : decode cc pc = .ok (.iand, 1)) (k : zW p l e R s m args below meth c cells slots Q D A nL ws lv (pc + 1) (.int (x &&& y) :: st)) : zW p l e R s m args below meth c cells slots Q D A nL ws lv pc (.int y :: .int x :: st) := fun H locs ls hP hD hS hl => lv_iand F.1.1 F.1.2.1 hdg (k H locs ls hP hD hS hl)
theorem zi_ior (F : zF p m c cc nL s args Ts own D tys A) {x y : Int32} (hdg : decode cc pc = .ok (.ior, 1)) (k : zW p l e R s m args below meth c cells slots Q D A nL ws lv (pc + 1) (.int (x ||| y) :: st)) : zW p l e R s m args below meth c cells slots Q D A nL ws lv pc (.int y :: .int x :: st) := fun H locs ls hP hD hS hl => lv_ior F.1.1 F.1.2.1 hdg (k H locs ls hP hD hS hl)
theorem zi_ishl (F : zF p m c cc nL s args Ts own D tys A) {x y : Int32} (hdg : decode cc pc = .ok (.ishl, 1)) (k : zW p l e R s m args below meth c cells slots Q D A nL ws lv (pc + 1) (.int (x <<< (y &&& 31)) :: st)) : zW p l e R s m args below meth c cells slots Q D A nL ws lv pc (.int y :: .int x :: st) := fun H locs ls hP hD hS hl => lv_ishl F.1.1 F.1.2.1 hdg (k H locs ls hP hD hS hl)
theorem zi_irem (F : zF p m c cc nL s args Ts own D tys A) {x y : Int32} (hdg : decode cc pc = .ok (.irem, 1)) (hne : ¬ y = 0) (k : zW p l e R s m args below meth c cells slots Q D A nL ws lv (pc + 1) (.int (x - x / y * y) :: st)) : zW p l e R s m args below meth c cells slots Q D A nL ws lv pc (.int y :: .int x :: st) := fun H locs ls hP hD hS hl => lv_irem F.1.1 F.1.2.1 hdg hne (k H locs ls hP hD hS hl)
theorem zi_ineg (F : zF p m c cc nL s args Ts own D tys A) {x : Int32} (hdg : decode cc pc = .ok (.ineg, 1)) (k : zW p l e R s m args below meth c cells slots Q D A nL ws lv (pc + 1) (.int (-x) :: st)) : zW p l e R s m args below meth c cells slots Q D A nL ws lv pc (.int x :: st) := fun H locs ls hP hD hS hl => lv_ineg F.1.1 F.1.2.1 hdg (k H locs ls hP hD hS hl)
theorem zi_i2l (F : zF p m c cc nL s args Ts own D tys A) {x : Int32} (hdg : decode cc pc = .ok (.i2l, 1)) (k : zW p l e R s m args below meth c cells slots Q D A nL ws lv (pc + 1) (.long x.toInt64 :: st)) : zW p l e R s m args below meth c cells slots Q D A nL ws lv pc (.int x :: st) := fun H locs ls hP hD hS hl => lv_i2l F.1.1 F.1.2.1 hdg rfl (k H locs ls hP hD hS hl)
theorem zi_dup (F : zF p m c cc nL s args Ts own D tys A) {v : Value} (hdg : decode cc pc = .ok (.dup, 1)) (hv : v.category = 1) (k : zW p l e R s m args below meth c cells slots Q D A nL ws lv (pc + 1) (v :: v :: st)) : zW p l e R s m args below meth c cells slots Q D A nL ws lv pc (v :: st) := fun H locs ls hP hD hS hl => lv_dup F.1.1 F.1.2.1 hdg hv (k H locs ls hP hD hS hl)
theorem zi_dup2 (F : zF p m c cc nL s args Ts own D tys A) {v w : Value} (hdg : decode cc pc = .ok (.dup2, 1)) (hv : v.category = 1) (hw : w.category = 1) (k : zW p l e R s m args below meth c cells slots Q D A nL ws lv (pc + 1) (v :: w :: v :: w :: st)) : zW p l e R s m args below meth c cells slots Q D A nL ws lv pc (v :: w :: st) := fun H locs ls hP hD hS hl => lv_dup2_11 F.1.1 F.1.2.1 hdg hv hw (k H locs ls hP hD hS hl)
theorem zi_dup_x1 (F : zF p m c cc nL s args Ts own D tys A) {v w : Value} (hdg : decode cc pc = .ok (.dup_x1, 1)) (hv : v.category = 1) (hw : w.category = 1) (k : zW p l e R s m args below meth c cells slots Q D A nL ws lv (pc + 1) (v :: w :: v :: st)) : zW p l e R s m args below meth c cells slots Q D A nL ws lv pc (v :: w :: st) := fun H locs ls hP hD hS hl => lv_dup_x1 F.1.1 F.1.2.1 hdg hv hw (k H locs ls hP hD hS hl)
theorem zi_pop (F : zF p m c cc nL s args Ts own D tys A) {v : Value} (hdg : decode cc pc = .ok (.pop, 1)) (hv : v.category = 1) (k : zW p l e R s m args below meth c cells slots Q D A nL ws lv (pc + 1) st) : zW p l e R s m args below meth c cells slots Q D A nL ws lv pc (v :: st) := fun H locs ls hP hD hS hl => lv_pop F.1.1 F.1.2.1 hdg hv (k H locs ls hP hD hS hl)
theorem zi_goto (F : zF p m c cc nL s args Ts own D tys A) {off : Int} {tgt : Nat} (hdg : decode cc pc = .ok (.goto off, 3)) (ht : (pc : Int) + off = (tgt : Int)) (k : zW p l e R s m args below meth c cells slots Q D A nL ws lv tgt st) : zW p l e R s m args below meth c cells slots Q D A nL ws lv pc st := fun H locs ls hP hD hS hl => lv_goto F.1.1 F.1.2.1 hdg ht (k H locs ls hP hD hS hl)
theorem zi_if_eq (F : zF p m c cc nL s args Ts own D tys A) {x : Int32} {off : Int} {tgt : Nat} (hdg : decode cc pc = .ok (.ifCond .eq off, 3)) (ht : (pc : Int) + off = (tgt : Int)) (kt : x = 0 → zW p l e R s m args below meth c cells slots Q D A nL ws lv tgt st) (kf : ¬ x = 0 → zW p l e R s m args below meth c cells slots Q D A nL ws lv (pc + 3) st) : zW p l e R s m args below meth c cells slots Q D A nL ws lv pc (.int x :: st) := fun H locs ls hP hD hS hl => lv_if_eq F.1.1 F.1.2.1 hdg ht (fun h => kt h H locs ls hP hD hS hl) (fun h => kf h H locs ls hP hD hS hl)
theorem zi_icmp_eq (F : zF p m c cc nL s args Ts own D tys A) {x y : Int32} {off : Int} {tgt : Nat} (hdg : decode cc pc = .ok (.if_icmp .eq off, 3)) (ht : (pc : Int) + off = (tgt : Int)) (kt : x = y → zW p l e R s m args below meth c cells slots Q D A nL ws lv tgt st) (kf : ¬ x = y → zW p l e R s m args below meth c cells slots Q D A nL ws lv (pc + 3) st) : zW p l e R s m args below meth c cells slots Q D A nL ws lv pc (.int y :: .int x :: st) := fun H locs ls hP hD hS hl => lv_icmp_eq F.1.1 F.1.2.1 hdg ht (fun h => kt h H locs ls hP hD hS hl) (fun h => kf h H locs ls hP hD hS hl)
theorem zi_if_ne (F : zF p m c cc nL s args Ts own D tys A) {x : Int32} {off : Int} {tgt : Nat} (hdg : decode cc pc = .ok (.ifCond .ne off, 3)) (ht : (pc : Int) + off = (tgt : Int)) (kt : ¬ x = 0 → zW p l e R s m args below meth c cells slots Q D A nL ws lv tgt st) (kf : x = 0 → zW p l e R s m args below meth c cells slots Q D A nL ws lv (pc + 3) st) : zW p l e R s m args below meth c cells slots Q D A nL ws lv pc (.int x :: st) := fun H locs ls hP hD hS hl => lv_if_ne F.1.1 F.1.2.1 hdg ht (fun h => kt h H locs ls hP hD hS hl) (fun h => kf h H locs ls hP hD hS hl)
theorem zi_icmp_ne (F : zF p m c cc nL s args Ts own D tys A) {x y : Int32} {off : Int} {tgt : Nat} (hdg : decode cc pc = .ok (.if_icmp .ne off, 3)) (ht : (pc : Int) + off = (tgt : Int)) (kt : ¬ x = y → zW p l e R s m args below meth c cells slots Q D A nL ws lv tgt st) (kf : x = y → zW p l e R s m args below meth c cells slots Q D A nL ws lv (pc + 3) st) : zW p l e R s m args below meth c cells slots Q D A nL ws lv pc (.int y :: .int x :: st) := fun H locs ls hP hD hS hl => lv_icmp_ne F.1.1 F.1.2.1 hdg ht (fun h => kt h H locs ls hP hD hS hl) (fun h => kf h H locs ls hP hD hS hl)
theorem zi_if_lt (F : zF p m c cc nL s args Ts own D tys A) {x : Int32} {off : Int} {tgt : Nat} (hdg : decode cc pc = .ok (.ifCond .lt off, 3)) (ht : (pc : Int) + off = (tgt : Int)) (kt : x < 0 → zW p l e R s m args below meth c cells slots Q D A nL ws lv tgt st) (kf : ¬ x < 0 → zW p l e R s m args below meth c cells slots Q D A nL ws lv (pc + 3) st) : zW p l e R s m args below meth c cells slots Q D A nL ws lv pc (.int x :: st) := fun H locs ls hP hD hS hl => lv_if_lt F.1.1 F.1.2.1 hdg ht (fun h => kt h H locs ls hP hD hS hl) (fun h => kf h H locs ls hP hD hS hl)
theorem zi_icmp_lt (F : zF p m c cc nL s args Ts own D tys A) {x y : Int32} {off : Int} {tgt : Nat} (hdg : decode cc pc = .ok (.if_icmp .lt off, 3)) (ht : (pc : Int) + off = (tgt : Int)) (kt : x < y → zW p l e R s m args below meth c cells slots Q D A nL ws lv tgt st) (kf : ¬ x < y → zW p l e R s m args below meth c cells slots Q D A nL ws lv (pc + 3) st) : zW p l e R s m args below meth c cells slots Q D A nL ws lv pc (.int y :: .int x :: st) := fun H locs ls hP hD hS hl => lv_icmp_lt F.1.1 F.1.2.1 hdg ht (fun h => kt h H locs ls hP hD hS hl) (fun h => kf h H locs ls hP hD hS hl)
theorem zi_if_ge (F : zF p m c cc nL s args Ts own D tys A) {x : Int32} {off : Int} {tgt : Nat} (hdg : decode cc pc = .ok (.ifCond .ge off, 3)) (ht : (pc : Int) + off = (tgt : Int)) (kt : 0 ≤ x → zW p l e R s m args below meth c cells slots Q D A nL ws lv tgt st) (kf : ¬ 0 ≤ x → zW p l e R s m args below meth c cells slots Q D A nL ws lv (pc + 3) st) : zW p l e R s m args below meth c cells slots Q D A nL ws lv pc (.int x :: st) := fun H locs ls hP hD hS hl => lv_if_ge F.1.1 F.1.2.1 hdg ht (fun h => kt h H locs ls hP hD hS hl) (fun h => kf h H locs ls hP hD hS hl)
theorem zi_icmp_ge (F : zF p m c cc nL s args Ts own D tys A) {x y : Int32} {off : Int} {tgt : Nat} (hdg : decode cc pc = .ok (.if_icmp .ge off, 3)) (ht : (pc : Int) + off = (tgt : Int)) (kt : y ≤ x → zW p l e R s m args below meth c cells slots Q D A nL ws lv tgt st) (kf : ¬ y ≤ x → zW p l e R s m args below meth c cells slots Q D A nL ws lv (pc + 3) st) : zW p l e R s m args below meth c cells slots Q D A nL ws lv pc (.int y :: .int x :: st) := fun H locs ls hP hD hS hl => lv_icmp_ge F.1.1 F.1.2.1 hdg ht (fun h => kt h H locs ls hP hD hS hl) (fun h => kf h H locs ls hP hD hS hl)
theorem zi_if_gt (F : zF p m c cc nL s args Ts own D tys A) {x : Int32} {off : Int} {tgt : Nat} (hdg : decode cc pc = .ok (.ifCond .gt off, 3)) (ht : (pc : Int) + off = (tgt : Int)) (kt : 0 < x → zW p l e R s m args below meth c cells slots Q D A nL ws lv tgt st) (kf : ¬ 0 < x → zW p l e R s m args below meth c cells slots Q D A nL ws lv (pc + 3) st) : zW p l e R s m args below meth c cells slots Q D A nL ws lv pc (.int x :: st) := fun H locs ls hP hD hS hl => lv_if_gt F.1.1 F.1.2.1 hdg ht (fun h => kt h H locs ls hP hD hS hl) (fun h => kf h H locs ls hP hD hS hl)
theorem zi_icmp_gt (F : zF p m c cc nL s args Ts own D tys A) {x y : Int32} {off : Int} {tgt : Nat} (hdg : decode cc pc = .ok (.if_icmp .gt off, 3)) (ht : (pc : Int) + off = (tgt : Int)) (kt : y < x → zW p l e R s m args below meth c cells slots Q D A nL ws lv tgt st) (kf : ¬ y < x → zW p l e R s m args below meth c cells slots Q D A nL ws lv (pc + 3) st) : zW p l e R s m args below meth c cells slots Q D A nL ws lv pc (.int y :: .int x :: st) := fun H locs ls hP hD hS hl => lv_icmp_gt F.1.1 F.1.2.1 hdg ht (fun h => kt h H locs ls hP hD hS hl) (fun h => kf h H locs ls hP hD hS hl)
theorem zi_if_le (F : zF p m c cc nL s args Ts own D tys A) {x : Int32} {off : Int} {tgt : Nat} (hdg : decode cc pc = .ok (.ifCond .le off, 3)) (ht : (pc : Int) + off = (tgt : Int)) (kt : x ≤ 0 → zW p l e R s m args below meth c cells slots Q D A nL ws lv tgt st) (kf : ¬ x ≤ 0 → zW p l e R s m args below meth c cells slots Q D A nL ws lv (pc + 3) st) : zW p l e R s m args below meth c cells slots Q D A nL ws lv pc (.int x :: st) := fun H locs ls hP hD hS hl => lv_if_le F.1.1 F.1.2.1 hdg ht (fun h => kt h H locs ls hP hD hS hl) (fun h => kf h H locs ls hP hD hS hl)
theorem zi_icmp_le (F : zF p m c cc nL s args Ts own D tys A) {x y : Int32} {off : Int} {tgt : Nat} (hdg : decode cc pc = .ok (.if_icmp .le off, 3)) (ht : (pc : Int) + off = (tgt : Int)) (kt : x ≤ y → zW p l e R s m args below meth c cells slots Q D A nL ws lv tgt st) (kf : ¬ x ≤ y → zW p l e R s m args below meth c cells slots Q D A nL ws lv (pc + 3) st) : zW p l e R s m args below meth c cells slots Q D A nL ws lv pc (.int y :: .int x :: st) := fun H locs ls hP hD hS hl => lv_icmp_le F.1.1 F.1.2.1 hdg ht (fun h => kt h H locs ls hP hD hS hl) (fun h => kf h H locs ls hP hD hS hl)
theorem zi_tableOut (F : zF p m c cc nL s args Ts own D tys A) {dflt lo hi : Int} {offs : Array Int} {len : Nat} {x : Int32} {tgt : Nat} (hdg : decode cc pc = .ok (.tableswitch dflt lo hi offs, len)) (h : x.toInt < lo ∨ hi < x.toInt) (ht : (pc : Int) + dflt = (tgt : Int)) (k : zW p l e R s m args below meth c cells slots Q D A nL ws lv tgt st) : zW p l e R s m args below meth c cells slots Q D A nL ws lv pc (.int x :: st) := fun H locs ls hP hD hS hl => lv_tableOut F.1.1 F.1.2.1 hdg h ht (k H locs ls hP hD hS hl)
theorem zi_tableIn (F : zF p m c cc nL s args Ts own D tys A) {dflt lo hi : Int} {offs : Array Int} {len : Nat} {x : Int32} {off : Int} {tgt : Nat} (hdg : decode cc pc = .ok (.tableswitch dflt lo hi offs, len)) (h1 : ¬ x.toInt < lo) (h2 : ¬ hi < x.toInt) (ho : offs[(x.toInt - lo).toNat]? = some off) (ht : (pc : Int) + off = (tgt : Int)) (k : zW p l e R s m args below meth c cells slots Q D A nL ws lv tgt st) : zW p l e R s m args below meth c cells slots Q D A nL ws lv pc (.int x :: st) := fun H locs ls hP hD hS hl => lv_tableIn F.1.1 F.1.2.1 hdg h1 h2 ho ht (k H locs ls hP hD hS hl)
theorem zi_lookup (F : zF p m c cc nL s args Ts own D tys A) {dflt : Int} {ps : Array (Int × Int)} {len : Nat} {x : Int32} {off : Int} {tgt : Nat} (hdg : decode cc pc = .ok (.lookupswitch dflt ps, len)) (hp : (ps.toList.zip (ps.toList.drop 1)).all (fun (a, next) => a.1 < next.1) = true) (ho : Op.lookupswitch.offset ps.toList dflt x.toInt = off) (ht : (pc : Int) + off = (tgt : Int)) (k : zW p l e R s m args below meth c cells slots Q D A nL ws lv tgt st) : zW p l e R s m args below meth c cells slots Q D A nL ws lv pc (.int x :: st) := fun H locs ls hP hD hS hl => lv_lookup F.1.1 F.1.2.1 hdg hp ho ht (k H locs ls hP hD hS hl)
theorem zi_topi {x : Int32} (k : ∀ y : Int32, x = y → zW p l e R s m args below meth c cells slots Q D A nL ws lv pc (.int y :: st)) : zW p l e R s m args below meth c cells slots Q D A nL ws lv pc (.int x :: st) := k x rfl
theorem zi_nameW {w : zS_t → va_W} {S : zS_t} (k : ∀ S1 : zS_t, S = S1 → zW p l e R s m args below meth c cells slots Q D A nL (w S1) lv pc st) : zW p l e R s m args below meth c cells slots Q D A nL (w S) lv pc st := k S rfl
theorem zi_sub {lw : List (Nat × Value)} (ks : List Nat) (hlw : lv_pick lv ks = lw) (k : zW p l e R s m args below meth c cells slots Q D A nL ws lw pc st) : zW p l e R s m args below meth c cells slots Q D A nL ws lv pc st := fun H locs ls hP hD hS hl => k H locs ls hP hD hS (lv_sub hl ks hlw)
theorem zi_get (F : zF p m c cc nL s args Ts own D tys A) {a index ci N : Nat} {ref C : String} {T : u_T} {fs : List Value} {v : Value} (hin : ∀ w ∈ u_ws C T N, w ∈ Ts) (q0 : Nat) (he : ws[q0]? = some (a, .inr (ci, fs))) (hc : vwCl[ci]? = some (C, T, N)) (k9 : Nat) (hk : k9 < N) (hlink : Cond.fieldLink own index ref (T k9).2.1 (T k9).2.2.1 ∈ Ts) (href : ref = (T k9).1) (hv : fs[k9]? = some v) (hdg : decode cc pc = .ok (.getfield index, 3)) (k : zW p l e R s m args below meth c cells slots Q D A nL ws lv (pc + 3) (v :: st)) : zW p l e R s m args below meth c cells slots Q D A nL ws lv pc (.ref a :: st) := fun H locs ls hP hD hS hl =>
  va_get F.1.1 F.1.2.1 F.1.2.2.2.2 hin F.1.2.2.2.1 F.2.1 hP q0 he hc k9 hk (F.1.2.2.2.2 _ hlink) (fun x h => by rw [href]; exact h) hv hdg (k H locs ls hP hD hS hl)
theorem zi_put (F : zF p m c cc nL s args Ts own D tys A) {a index ci N : Nat} {ref C : String} {T : u_T} {fs : List Value} {v : Value} {ty : FieldType} (hin : ∀ w ∈ u_ws C T N, w ∈ Ts) (ty0 : Nat → FieldType) (hty : ∀ k, k < N → parseFieldDescriptor (T k).2.2.1 = some (ty0 k)) (hnm : ∀ a, a < N → ∀ b, b < N → a ≠ b → (T a).2.1 ≠ (T b).2.1) (q0 : Nat) (he : ws[q0]? = some (a, .inr (ci, fs))) (hc : vwCl[ci]? = some (C, T, N)) (k9 : Nat) (hk : k9 < N) (hlink : Cond.fieldLink own index ref (T k9).2.1 (T k9).2.2.1 ∈ Ts) (href : ref = (T k9).1) (hfin : (T k9).2.2.2 = false) (ht0 : ty0 k9 = ty) (hn : narrow ty v = v) (hfit : fits ty v = true) (hlen : k9 < fs.length) (hws : ws.set q0 (a, .inr (ci, fs.set k9 v)) = ws') (hdg : decode cc pc = .ok (.putfield index, 3)) (k : zW p l e R s m args below meth c cells slots Q D A nL ws' lv (pc + 3) st) : zW p l e R s m args below meth c cells slots Q D A nL ws lv pc (v :: .ref a :: st) := fun H locs ls hP hD hS hl =>
  va_put F.1.1 F.1.2.1 F.1.2.2.2.2 hin ty0 hty hnm F.1.2.2.2.1 F.2.1 hP hD hS q0 he hc k9 hk (F.1.2.2.2.2 _ hlink) (fun x h => by rw [href]; exact h) hfin (by rw [← ht0]; exact hty k9 hk) hn hfit hlen hdg (fun H1 locs1 hP1 hD1 hS1 => k H1 locs1 ls (hws ▸ hP1) (hws ▸ hD1) hS1 hl)
theorem zi_putF (F : zF p m c cc nL s args Ts own D tys A) (hmn : meth.name = "<init>") {a index ci N : Nat} {ref C : String} {T : u_T} {fs : List Value} {v : Value} {ty : FieldType} (hin : ∀ w ∈ u_ws C T N, w ∈ Ts) (ty0 : Nat → FieldType) (hty : ∀ k, k < N → parseFieldDescriptor (T k).2.2.1 = some (ty0 k)) (hnm : ∀ a, a < N → ∀ b, b < N → a ≠ b → (T a).2.1 ≠ (T b).2.1) (q0 : Nat) (he : ws[q0]? = some (a, .inr (ci, fs))) (hc : vwCl[ci]? = some (C, T, N)) (k9 : Nat) (hk : k9 < N) (hlink : Cond.fieldLink own index ref (T k9).2.1 (T k9).2.2.1 ∈ Ts) (href : ref = (T k9).1) (hfin : (T k9).2.2.2 = true) (hdecl : (T k9).1 = own) (ht0 : ty0 k9 = ty) (hn : narrow ty v = v) (hfit : fits ty v = true) (hlen : k9 < fs.length) (hws : ws.set q0 (a, .inr (ci, fs.set k9 v)) = ws') (hdg : decode cc pc = .ok (.putfield index, 3)) (k : zW p l e R s m args below meth c cells slots Q D A nL ws' lv (pc + 3) st) : zW p l e R s m args below meth c cells slots Q D A nL ws lv pc (v :: .ref a :: st) := fun H locs ls hP hD hS hl =>
  va_putF F.1.1 F.1.2.1 F.1.2.2.2.2 hin ty0 hty hnm F.1.2.2.2.1 F.2.1 hP hD hS q0 he hc k9 hk (F.1.2.2.2.2 _ hlink) (fun x h => by rw [href]; exact h) hfin hmn hdecl (by rw [← ht0]; exact hty k9 hk) hn hfit hlen hdg (fun H1 locs1 hP1 hD1 hS1 => k H1 locs1 ls (hws ▸ hP1) (hws ▸ hD1) hS1 hl)
theorem zi_iald (F : zF p m c cc nL s args Ts own D tys A) {a n : Nat} {cA : ClassId} {f : Nat → Int32} {i v : Int32} (q0 t0 : Nat) (ha : ws[q0]? = some (a, .inl (cA, n, .inl f))) (ht : tys[t0]? = some (cA, .int)) (hin : vp_in i n) (hv : f i.toNatClampNeg = v) (hdg : decode cc pc = .ok (.iaload, 1)) (k : zW p l e R s m args below meth c cells slots Q D A nL ws lv (pc + 1) (.int v :: st)) : zW p l e R s m args below meth c cells slots Q D A nL ws lv pc (.int i :: .ref a :: st) := fun H locs ls hP hD hS hl =>
  va_iald F.1.1 F.1.2.1 F.2.1 hP q0 t0 ha ht hin hdg (by rw [hv]; exact k H locs ls hP hD hS hl)
theorem zi_zald (F : zF p m c cc nL s args Ts own D tys A) {a n : Nat} {cA : ClassId} {f : Nat → Int32} {i v : Int32} (q0 t0 : Nat) (ha : ws[q0]? = some (a, .inl (cA, n, .inl f))) (ht : tys[t0]? = some (cA, .boolean)) (hin : vp_in i n) (hv : f i.toNatClampNeg = v) (hdg : decode cc pc = .ok (.baload, 1)) (k : zW p l e R s m args below meth c cells slots Q D A nL ws lv (pc + 1) (.int v :: st)) : zW p l e R s m args below meth c cells slots Q D A nL ws lv pc (.int i :: .ref a :: st) := fun H locs ls hP hD hS hl =>
  va_zald F.1.1 F.1.2.1 F.2.1 hP q0 t0 ha ht hin hdg (by rw [hv]; exact k H locs ls hP hD hS hl)
theorem zi_iast (F : zF p m c cc nL s args Ts own D tys A) {a n : Nat} {cA : ClassId} {f : Nat → Int32} {i x : Int32} (q0 t0 : Nat) (ha : ws[q0]? = some (a, .inl (cA, n, .inl f))) (ht : tys[t0]? = some (cA, .int)) (hin : vp_in i n) (hws : ws.set q0 (a, .inl (cA, n, .inl (upd f i.toNatClampNeg x))) = ws') (hdg : decode cc pc = .ok (.iastore, 1)) (k : zW p l e R s m args below meth c cells slots Q D A nL ws' lv (pc + 1) st) : zW p l e R s m args below meth c cells slots Q D A nL ws lv pc (.int x :: .int i :: .ref a :: st) := fun H locs ls hP hD hS hl =>
  va_iast F.1.1 F.1.2.1 F.2.1 hP hD hS q0 t0 ha ht hin hdg (fun H1 locs1 hP1 hD1 hS1 => k H1 locs1 ls (hws ▸ hP1) (hws ▸ hD1) hS1 hl)
theorem zi_zast (F : zF p m c cc nL s args Ts own D tys A) {a n : Nat} {cA : ClassId} {f : Nat → Int32} {i x : Int32} (q0 t0 : Nat) (ha : ws[q0]? = some (a, .inl (cA, n, .inl f))) (ht : tys[t0]? = some (cA, .boolean)) (hin : vp_in i n) (hws : ws.set q0 (a, .inl (cA, n, .inl (upd f i.toNatClampNeg (vp_nar .boolean x)))) = ws') (hdg : decode cc pc = .ok (.bastore, 1)) (k : zW p l e R s m args below meth c cells slots Q D A nL ws' lv (pc + 1) st) : zW p l e R s m args below meth c cells slots Q D A nL ws lv pc (.int x :: .int i :: .ref a :: st) := fun H locs ls hP hD hS hl =>
  va_zast F.1.1 F.1.2.1 F.2.1 hP hD hS q0 t0 ha ht hin hdg (fun H1 locs1 hP1 hD1 hS1 => k H1 locs1 ls (hws ▸ hP1) (hws ▸ hD1) hS1 hl)
/-- a place of one of the two static tables -/
theorem zi_tab (F : zF p m c cc nL s args Ts own D tys A) {n : String} {xs : List Int32} {index : Nat} {i : Int32} (hT : zTb n xs A s s.heap) (hlink : Cond.fieldLink own index "LayeredTable" n "[I" ∈ Ts) (j : Nat) {k9 : Fin 4} (hj : lv[j]? = some ((k9 : Nat), .int i)) (hin : vp_in i 14) (hdg : decode cc pc = .ok (.getstatic index, 3)) (hd2 : decode cc (pc + 3) = .ok (.iload_n k9, 1)) (hd3 : decode cc (pc + 4) = .ok (.iaload, 1)) (k : zW p l e R s m args below meth c cells slots Q D A nL ws lv (pc + 5) (.int (xs.getD i.toNatClampNeg 0) :: st)) : zW p l e R s m args below meth c cells slots Q D A nL ws lv pc st := fun H locs ls hP hD hS hl => by
  obtain ⟨t, h1, h2⟩ := hT
  refine va_gets F.1.1 F.1.2.1 h1 hS F.1.2.2.2.1 (F.1.2.2.2.2 _ hlink) (fun _ h => h) hdg ?_
  refine lv_iload_n F.1.1 F.1.2.1 hd2 rfl (lv_at hl j hj) ?_
  exact va_ti F.1.1 F.1.2.1 h2 hS hin rfl hd3 (k H locs ls hP hD hS hl)
theorem zi_callVI (F : zF p m c cc nL s args Ts own D tys A) {y : MethodName} {bytes : ByteArray} {maxL index n b : Nat} {ret : Option FieldType} {wy : List Cond} {rm : Room} {C : String} {As rest : List Value} {Wc Wn : va_W} {r : Int32} (hM : zCI l D tys y wy rm (.ref b :: As) Wc r Wn) (cw : CallW R s args own C index y bytes maxL ret wy rm 0 0 n) (q0 : Nat) {ci : Nat} {fs : List Value} {vc : u_T × Nat} (hq : Wc[q0]? = some (b, .inr (ci, fs))) (hc : vwCl[ci]? = some (C, vc)) (w1 w2 : va_W) (hws : ws = w1 ++ (Wc ++ w2)) (hwn : w1 ++ (Wn ++ w2) = ws') (hn : As.length = n) (hst : st = As.reverse ++ .ref b :: rest) (hrm : (rest.map fun v => v.category).sum ≤ 8) (hdg : decode cc pc = .ok (.invokevirtual index, 3)) (hR : cells ≤ R.cells ∧ slots ≤ R.slots) (k : zW p l e R s m args below meth c cells slots Q D A nL ws' lv (pc + 3) (.int r :: rest)) : zW p l e R s m args below meth c cells slots Q D A nL ws lv pc st := fun H locs ls hP hD hS hl => by
  subst hws
  subst hst
  have hPc := zcutP hP
  have hDc := zcutD hD
  have hFc := zfree hD hS F.2.2.1
  refine va_calli (va_runV (As := As) (rest := rest) F.1 (hM H.size) cw ⟨zB_blind, va_recv F.2.1 hPc hc hq, fun U hU hW => ⟨rfl, by rw [hU], by rw [hU]; exact hPc, va_K.moved hW.alike F.2.1, hDc.weaken (fun _ _ _ _ => trivial), by rw [hU]; exact zSt.to F.2.2.2 hW hS.2.1 hFc⟩⟩ rfl hn hl.1 rfl (lv_room hrm) hdg hR) hS (fun q _ h => hFc q h) hFc (fun r1 u t H1 locs1 ht hvm hw9 hB hz1 hk1 hS1 => ?_)
  subst hw9
  obtain ⟨hP1, hD1⟩ := hB
  rw [ht] at hP1
  obtain ⟨hP2, hD2⟩ := zjoin hP hD hk1 hFc hP1 hD1
  exact k H1 locs1 ls (hwn ▸ hP2) (hwn ▸ hD2) hS1 hl
theorem zi_callVV (F : zF p m c cc nL s args Ts own D tys A) {y : MethodName} {bytes : ByteArray} {maxL index n b : Nat} {ret : Option FieldType} {wy : List Cond} {rm : Room} {C : String} {As rest : List Value} {Wc Wn : va_W}  (hM : zCV l D tys y wy rm (.ref b :: As) Wc Wn) (cw : CallW R s args own C index y bytes maxL ret wy rm 0 0 n) (q0 : Nat) {ci : Nat} {fs : List Value} {vc : u_T × Nat} (hq : Wc[q0]? = some (b, .inr (ci, fs))) (hc : vwCl[ci]? = some (C, vc)) (w1 w2 : va_W) (hws : ws = w1 ++ (Wc ++ w2)) (hwn : w1 ++ (Wn ++ w2) = ws') (hn : As.length = n) (hst : st = As.reverse ++ .ref b :: rest) (hrm : (rest.map fun v => v.category).sum ≤ 8) (hdg : decode cc pc = .ok (.invokevirtual index, 3)) (hR : cells ≤ R.cells ∧ slots ≤ R.slots) (k : zW p l e R s m args below meth c cells slots Q D A nL ws' lv (pc + 3) rest) : zW p l e R s m args below meth c cells slots Q D A nL ws lv pc st := fun H locs ls hP hD hS hl => by
  subst hws
  subst hst
  have hPc := zcutP hP
  have hDc := zcutD hD
  have hFc := zfree hD hS F.2.2.1
  refine va_callv (va_runV (As := As) (rest := rest) F.1 (hM H.size) cw ⟨zB_blind, va_recv F.2.1 hPc hc hq, fun U hU hW => ⟨rfl, by rw [hU], by rw [hU]; exact hPc, va_K.moved hW.alike F.2.1, hDc.weaken (fun _ _ _ _ => trivial), by rw [hU]; exact zSt.to F.2.2.2 hW hS.2.1 hFc⟩⟩ rfl hn hl.1 rfl (lv_room hrm) hdg hR) hS (fun q _ h => hFc q h) hFc (fun u t H1 locs1 ht hvm hw9 hB hz1 hk1 hS1 => ?_)
  obtain ⟨hP1, hD1⟩ := hB
  rw [ht] at hP1
  obtain ⟨hP2, hD2⟩ := zjoin hP hD hk1 hFc hP1 hD1
  exact k H1 locs1 ls (hwn ▸ hP2) (hwn ▸ hD2) hS1 hl
theorem zi_callSI (F : zF p m c cc nL s args Ts own D tys A) {y : MethodName} {bytes : ByteArray} {maxL index n : Nat} {ret : Option FieldType} {wy : List Cond} {rm : Room}  {As rest : List Value} {Wc Wn : va_W} {r : Int32} (hM : zCI l D tys y wy rm As Wc r Wn) (cw : CallB R s args own index y bytes maxL ret wy rm 0 0 n ∧ (Cond.static y).before args s = true) (w1 w2 : va_W) (hws : ws = w1 ++ (Wc ++ w2)) (hwn : w1 ++ (Wn ++ w2) = ws') (hn : As.length = n) (hst : st = As.reverse ++ rest) (hrm : (rest.map fun v => v.category).sum ≤ 8) (hdg : decode cc pc = .ok (.invokestatic index, 3)) (hR : cells ≤ R.cells ∧ slots ≤ R.slots) (k : zW p l e R s m args below meth c cells slots Q D A nL ws' lv (pc + 3) (.int r :: rest)) : zW p l e R s m args below meth c cells slots Q D A nL ws lv pc st := fun H locs ls hP hD hS hl => by
  subst hws
  subst hst
  have hPc := zcutP hP
  have hDc := zcutD hD
  have hFc := zfree hD hS F.2.2.1
  refine va_calli (va_runS (As := As) (rest := rest) F.1 (hM H.size) cw ⟨zB_blind, fun U hU hW => ⟨rfl, by rw [hU], by rw [hU]; exact hPc, va_K.moved hW.alike F.2.1, hDc.weaken (fun _ _ _ _ => trivial), by rw [hU]; exact zSt.to F.2.2.2 hW hS.2.1 hFc⟩⟩ rfl hn hl.1 rfl (lv_room hrm) hdg hR) hS (fun q _ h => hFc q h) hFc (fun r1 u t H1 locs1 ht hvm hw9 hB hz1 hk1 hS1 => ?_)
  subst hw9
  obtain ⟨hP1, hD1⟩ := hB
  rw [ht] at hP1
  obtain ⟨hP2, hD2⟩ := zjoin hP hD hk1 hFc hP1 hD1
  exact k H1 locs1 ls (hwn ▸ hP2) (hwn ▸ hD2) hS1 hl
theorem zi_callSV (F : zF p m c cc nL s args Ts own D tys A) {y : MethodName} {bytes : ByteArray} {maxL index n : Nat} {ret : Option FieldType} {wy : List Cond} {rm : Room}  {As rest : List Value} {Wc Wn : va_W}  (hM : zCV l D tys y wy rm As Wc Wn) (cw : CallB R s args own index y bytes maxL ret wy rm 0 0 n ∧ (Cond.static y).before args s = true) (w1 w2 : va_W) (hws : ws = w1 ++ (Wc ++ w2)) (hwn : w1 ++ (Wn ++ w2) = ws') (hn : As.length = n) (hst : st = As.reverse ++ rest) (hrm : (rest.map fun v => v.category).sum ≤ 8) (hdg : decode cc pc = .ok (.invokestatic index, 3)) (hR : cells ≤ R.cells ∧ slots ≤ R.slots) (k : zW p l e R s m args below meth c cells slots Q D A nL ws' lv (pc + 3) rest) : zW p l e R s m args below meth c cells slots Q D A nL ws lv pc st := fun H locs ls hP hD hS hl => by
  subst hws
  subst hst
  have hPc := zcutP hP
  have hDc := zcutD hD
  have hFc := zfree hD hS F.2.2.1
  refine va_callv (va_runS (As := As) (rest := rest) F.1 (hM H.size) cw ⟨zB_blind, fun U hU hW => ⟨rfl, by rw [hU], by rw [hU]; exact hPc, va_K.moved hW.alike F.2.1, hDc.weaken (fun _ _ _ _ => trivial), by rw [hU]; exact zSt.to F.2.2.2 hW hS.2.1 hFc⟩⟩ rfl hn hl.1 rfl (lv_room hrm) hdg hR) hS (fun q _ h => hFc q h) hFc (fun u t H1 locs1 ht hvm hw9 hB hz1 hk1 hS1 => ?_)
  obtain ⟨hP1, hD1⟩ := hB
  rw [ht] at hP1
  obtain ⟨hP2, hD2⟩ := zjoin hP hD hk1 hFc hP1 hD1
  exact k H1 locs1 ls (hwn ▸ hP2) (hwn ▸ hD2) hS1 hl
theorem zi_callNI (F : zF p m c cc nL s args Ts own D tys A) {y : MethodName} {bytes : ByteArray} {maxL index n : Nat} {ret : Option FieldType} {wy : List Cond} {rm : Room} {host : String} {As rest : List Value} {Wc Wn : va_W} {r : Int32} (hM : zCI l D tys y wy rm As Wc r Wn) (cw : va_CN R s args own index y host bytes maxL ret wy rm 0 0 n ∧ (Cond.static y).before args s = true ∧ True) (w1 w2 : va_W) (hws : ws = w1 ++ (Wc ++ w2)) (hwn : w1 ++ (Wn ++ w2) = ws') (hn : As.length = n) (hst : st = As.reverse ++ rest) (hrm : (rest.map fun v => v.category).sum ≤ 8) (hdg : decode cc pc = .ok (.invokestatic index, 3)) (hR : cells ≤ R.cells ∧ slots ≤ R.slots) (k : zW p l e R s m args below meth c cells slots Q D A nL ws' lv (pc + 3) (.int r :: rest)) : zW p l e R s m args below meth c cells slots Q D A nL ws lv pc st := fun H locs ls hP hD hS hl => by
  subst hws
  subst hst
  have hPc := zcutP hP
  have hDc := zcutD hD
  have hFc := zfree hD hS F.2.2.1
  refine va_calli (va_runSN (As := As) (rest := rest) F.1 (hM H.size) cw ⟨zB_blind, fun U hU hW => ⟨rfl, by rw [hU], by rw [hU]; exact hPc, va_K.moved hW.alike F.2.1, hDc.weaken (fun _ _ _ _ => trivial), by rw [hU]; exact zSt.to F.2.2.2 hW hS.2.1 hFc⟩⟩ rfl hn hl.1 rfl (lv_room hrm) hdg hR) hS (fun q _ h => hFc q h) hFc (fun r1 u t H1 locs1 ht hvm hw9 hB hz1 hk1 hS1 => ?_)
  subst hw9
  obtain ⟨hP1, hD1⟩ := hB
  rw [ht] at hP1
  obtain ⟨hP2, hD2⟩ := zjoin hP hD hk1 hFc hP1 hD1
  exact k H1 locs1 ls (hwn ▸ hP2) (hwn ▸ hD2) hS1 hl
theorem zi_callNV (F : zF p m c cc nL s args Ts own D tys A) {y : MethodName} {bytes : ByteArray} {maxL index n : Nat} {ret : Option FieldType} {wy : List Cond} {rm : Room} {host : String} {As rest : List Value} {Wc Wn : va_W}  (hM : zCV l D tys y wy rm As Wc Wn) (cw : va_CN R s args own index y host bytes maxL ret wy rm 0 0 n ∧ (Cond.static y).before args s = true ∧ True) (w1 w2 : va_W) (hws : ws = w1 ++ (Wc ++ w2)) (hwn : w1 ++ (Wn ++ w2) = ws') (hn : As.length = n) (hst : st = As.reverse ++ rest) (hrm : (rest.map fun v => v.category).sum ≤ 8) (hdg : decode cc pc = .ok (.invokestatic index, 3)) (hR : cells ≤ R.cells ∧ slots ≤ R.slots) (k : zW p l e R s m args below meth c cells slots Q D A nL ws' lv (pc + 3) rest) : zW p l e R s m args below meth c cells slots Q D A nL ws lv pc st := fun H locs ls hP hD hS hl => by
  subst hws
  subst hst
  have hPc := zcutP hP
  have hDc := zcutD hD
  have hFc := zfree hD hS F.2.2.1
  refine va_callv (va_runSN (As := As) (rest := rest) F.1 (hM H.size) cw ⟨zB_blind, fun U hU hW => ⟨rfl, by rw [hU], by rw [hU]; exact hPc, va_K.moved hW.alike F.2.1, hDc.weaken (fun _ _ _ _ => trivial), by rw [hU]; exact zSt.to F.2.2.2 hW hS.2.1 hFc⟩⟩ rfl hn hl.1 rfl (lv_room hrm) hdg hR) hS (fun q _ h => hFc q h) hFc (fun u t H1 locs1 ht hvm hw9 hB hz1 hk1 hS1 => ?_)
  obtain ⟨hP1, hD1⟩ := hB
  rw [ht] at hP1
  obtain ⟨hP2, hD2⟩ := zjoin hP hD hk1 hFc hP1 hD1
  exact k H1 locs1 ls (hwn ▸ hP2) (hwn ▸ hD2) hS1 hl
end ZI
theorem zb_I {l : Launch} {D : va_G} {tys : List (ClassId × FieldType)} {y : MethodName} {wy wr : List Cond} {rm : Room} {av : List Value} {W0 W1 : va_W} {r : Int32} {cc : ByteArray} {maxL : Nat} (hy : plainName y.cls = true) (hw : wy = Cond.code y cc maxL (some .int) :: wr) (hav : (lg_sl av).length ≤ maxL)
    (body : ∀ (p : Program) (e : Env) (s : State) (m : MethodId) (args : Array Value) (below : List Frame) (meth : Method) (c : Code) (Q : State → Prop) (A : Nat → Prop), zF p m c cc maxL s args wy y.cls D tys A → (∀ (pc : Nat) (lv : List (Nat × Value)), decode cc pc = .ok (.ireturn, 1) → zW p l e rm s m args below meth c 0 0 Q D A maxL W1 lv pc [.int r]) → zW p l e rm s m args below meth c 0 0 Q D A maxL W0 (lv_args 0 av) 0 []) : zCI l D tys y wy rm av W0 r W1 := by
  intro sz
  refine Met.ofW (cc := cc) (maxL := maxL) (ret := (some .int)) hy hw ?_
  intro p e s m args below meth c s₁ B hml hv
  obtain ⟨rfl, hsz, hP, hK, hD0, hst⟩ := hv
  subst hsz
  have hD := hD0.self (sz := s.heap.size)
  have hl := lv_entry av (n := maxL) hav
  rw [lg_entry_eq]
  refine body p e s m _ below meth c _ _ ⟨⟨B.exec, B.bytes, hml, findClass_of_methodNamed B.named, atoms_spec (ws := wy) B.pre⟩, hK, fun q h => Or.inr h, hst⟩ ?_ s.heap [] _ hP hD va_S.rf hl
  intro pc lv hdg H locs ls hP1 hD1 hS1 hl1
  exact W.iret (v := r) B.exec B.bytes B.returns (fun t ht hW => ⟨⟨r, (), rfl, rfl, by rw [ht]; exact hP1, hD1⟩, hS1.F ht⟩) hS1.2.2 hdg
theorem zb_Z {l : Launch} {D : va_G} {tys : List (ClassId × FieldType)} {y : MethodName} {wy wr : List Cond} {rm : Room} {av : List Value} {W0 W1 : va_W} {r : Int32} {cc : ByteArray} {maxL : Nat} (hy : plainName y.cls = true) (hw : wy = Cond.code y cc maxL (some .boolean) :: wr) (hav : (lg_sl av).length ≤ maxL)
    (body : ∀ (p : Program) (e : Env) (s : State) (m : MethodId) (args : Array Value) (below : List Frame) (meth : Method) (c : Code) (Q : State → Prop) (A : Nat → Prop), zF p m c cc maxL s args wy y.cls D tys A → (∀ (pc : Nat) (lv : List (Nat × Value)), decode cc pc = .ok (.ireturn, 1) → narrow .boolean (.int r) = .int r → zW p l e rm s m args below meth c 0 0 Q D A maxL W1 lv pc [.int r]) → zW p l e rm s m args below meth c 0 0 Q D A maxL W0 (lv_args 0 av) 0 []) : zCI l D tys y wy rm av W0 r W1 := by
  intro sz
  refine Met.ofW (cc := cc) (maxL := maxL) (ret := (some .boolean)) hy hw ?_
  intro p e s m args below meth c s₁ B hml hv
  obtain ⟨rfl, hsz, hP, hK, hD0, hst⟩ := hv
  subst hsz
  have hD := hD0.self (sz := s.heap.size)
  have hl := lv_entry av (n := maxL) hav
  rw [lg_entry_eq]
  refine body p e s m _ below meth c _ _ ⟨⟨B.exec, B.bytes, hml, findClass_of_methodNamed B.named, atoms_spec (ws := wy) B.pre⟩, hK, fun q h => Or.inr h, hst⟩ ?_ s.heap [] _ hP hD va_S.rf hl
  intro pc lv hdg hn9 H locs ls hP1 hD1 hS1 hl1
  exact W.zret (v := r) (ty := .boolean) B.exec B.bytes B.returns hn9 (fun t ht hW => ⟨⟨r, (), rfl, rfl, by rw [ht]; exact hP1, hD1⟩, hS1.F ht⟩) hS1.2.2 hdg
theorem zb_V {l : Launch} {D : va_G} {tys : List (ClassId × FieldType)} {y : MethodName} {wy wr : List Cond} {rm : Room} {av : List Value} {W0 W1 : va_W} {cc : ByteArray} {maxL : Nat} (hy : plainName y.cls = true) (hw : wy = Cond.code y cc maxL none :: wr) (hav : (lg_sl av).length ≤ maxL)
    (body : ∀ (p : Program) (e : Env) (s : State) (m : MethodId) (args : Array Value) (below : List Frame) (meth : Method) (c : Code) (Q : State → Prop) (A : Nat → Prop), zF p m c cc maxL s args wy y.cls D tys A → (∀ (pc : Nat) (lv : List (Nat × Value)), decode cc pc = .ok (.return_, 1) → zW p l e rm s m args below meth c 0 0 Q D A maxL W1 lv pc []) → zW p l e rm s m args below meth c 0 0 Q D A maxL W0 (lv_args 0 av) 0 []) : zCV l D tys y wy rm av W0 W1 := by
  intro sz
  refine Met.ofW (cc := cc) (maxL := maxL) (ret := none) hy hw ?_
  intro p e s m args below meth c s₁ B hml hv
  obtain ⟨rfl, hsz, hP, hK, hD0, hst⟩ := hv
  subst hsz
  have hD := hD0.self (sz := s.heap.size)
  have hl := lv_entry av (n := maxL) hav
  rw [lg_entry_eq]
  refine body p e s m _ below meth c _ _ ⟨⟨B.exec, B.bytes, hml, findClass_of_methodNamed B.named, atoms_spec (ws := wy) B.pre⟩, hK, fun q h => Or.inr h, hst⟩ ?_ s.heap [] _ hP hD va_S.rf hl
  intro pc lv hdg H locs ls hP1 hD1 hS1 hl1
  exact W.vret B.exec B.bytes B.returns (fun t ht hW => ⟨⟨(), rfl, trivial, by rw [ht]; exact hP1, hD1⟩, hS1.F ht⟩) hS1.2.2 hdg
/-! the worlds of the game's objects and of the reference: G: kinds, kinds of arrays (int, boolean, int[], long), addresses by object (0 the table game, 1 its things, 2 its entries, 3 its view, 4 its memory, 5 the memory's rows, 6 the reference) -/
abbrev zG_t : Type := va_G × (Nat → ClassId) × (Nat → Nat → Nat)
abbrev zty (G : zG_t) : List (ClassId × FieldType) := [(G.2.1 0, .int), (G.2.1 1, .boolean), (G.2.1 2, .array .int), (G.2.1 3, .long)]
def zWT (G : zG_t) (T : zS_t) : va_W := [(G.2.2 1 0, .inr (2, [.ref (G.2.2 1 1), .ref (G.2.2 1 2), .ref (G.2.2 1 3), .ref (G.2.2 1 4), .int (T 4 0)])), (G.2.2 1 1, .inl (G.2.1 0, 10, .inl (T 0))), (G.2.2 1 2, .inl (G.2.1 0, 10, .inl (T 1))), (G.2.2 1 3, .inl (G.2.1 0, 10, .inl (T 2))), (G.2.2 1 4, .inl (G.2.1 0, 10, .inl (T 3)))]
def zWE (G : zG_t) (E : zS_t) : va_W := [(G.2.2 2 0, .inr (0, [.ref (G.2.2 2 1), .ref (G.2.2 2 2), .ref (G.2.2 2 3), .ref (G.2.2 2 4), .ref (G.2.2 2 5), .int (E 5 0)])), (G.2.2 2 1, .inl (G.2.1 0, 12, .inl (E 0))), (G.2.2 2 2, .inl (G.2.1 1, 12, .inl (E 1))), (G.2.2 2 3, .inl (G.2.1 0, 12, .inl (E 2))), (G.2.2 2 4, .inl (G.2.1 0, 12, .inl (E 3))), (G.2.2 2 5, .inl (G.2.1 0, 12, .inl (E 4)))]
def zWV (G : zG_t) (V : zS_t) : va_W := [(G.2.2 3 0, .inr (3, [.ref (G.2.2 3 1), .ref (G.2.2 3 2), .ref (G.2.2 3 3), .ref (G.2.2 3 4), .ref (G.2.2 3 5)])), (G.2.2 3 1, .inl (G.2.1 0, 10, .inl (V 0))), (G.2.2 3 2, .inl (G.2.1 0, 10, .inl (V 1))), (G.2.2 3 3, .inl (G.2.1 0, 10, .inl (V 2))), (G.2.2 3 4, .inl (G.2.1 0, 10, .inl (V 3))), (G.2.2 3 5, .inl (G.2.1 0, 10, .inl (V 4)))]
def zWM0 (G : zG_t) (M : zS_t) : va_W := [(G.2.2 4 0, .inr (1, [.ref (G.2.2 4 1), .ref (G.2.2 4 2), .int (M 2 0), .int (M 3 0), .int (M 4 0)])), (G.2.2 4 1, .inl (G.2.1 0, 24, .inl (M 0))), (G.2.2 4 2, .inl (G.2.1 2, 40, .inr (.inr (.inr (.inr (fun i => if i < 40 then some (G.2.2 5 i) else none))))))]
def zWO (G : zG_t) (L : zS_t) : va_W := [(G.2.2 0 0, .inr (4, [.ref (G.2.2 0 1), .ref (G.2.2 1 0), .ref (G.2.2 2 0), .ref (G.2.2 3 0), .ref (G.2.2 4 0), .int (L 5 0), .int (L 6 0), .int (L 7 0), .int (L 8 0), .int (L 9 0), .int (L 10 0)])), (G.2.2 0 1, .inl (G.2.1 0, 3, .inl (L 0)))]
def zWR (G : zG_t) (R : zS_t) : va_W := [(G.2.2 6 0, .inr (5, [.int (R 0 0), .int (R 1 0), .int (R 2 0), .int (R 3 0), .int (R 4 0), .ref (G.2.2 6 1), .int (R 6 0), .ref (G.2.2 6 2), .ref (G.2.2 6 3), .ref (G.2.2 6 4), .ref (G.2.2 6 5), .int (R 11 0), .int (R 12 0), .ref (G.2.2 6 6), .ref (G.2.2 6 7), .ref (G.2.2 6 8), .ref (G.2.2 6 9), .ref (G.2.2 6 10), .ref (G.2.2 6 11), .ref (G.2.2 6 12), .ref (G.2.2 6 13), .ref (G.2.2 6 14), .ref (G.2.2 6 15), .int (R 23 0), .ref (G.2.2 6 16), .ref (G.2.2 6 17), .int (R 26 0)])), (G.2.2 6 1, .inl (G.2.1 0, 3, .inl (R 5))), (G.2.2 6 2, .inl (G.2.1 0, 10, .inl (R 7))), (G.2.2 6 3, .inl (G.2.1 0, 10, .inl (R 8))), (G.2.2 6 4, .inl (G.2.1 0, 10, .inl (R 9))), (G.2.2 6 5, .inl (G.2.1 0, 10, .inl (R 10))), (G.2.2 6 6, .inl (G.2.1 0, 12, .inl (R 13))), (G.2.2 6 7, .inl (G.2.1 1, 12, .inl (R 14))), (G.2.2 6 8, .inl (G.2.1 0, 12, .inl (R 15))), (G.2.2 6 9, .inl (G.2.1 0, 12, .inl (R 16))), (G.2.2 6 10, .inl (G.2.1 0, 12, .inl (R 17))), (G.2.2 6 11, .inl (G.2.1 0, 10, .inl (R 18))), (G.2.2 6 12, .inl (G.2.1 0, 10, .inl (R 19))), (G.2.2 6 13, .inl (G.2.1 0, 10, .inl (R 20))), (G.2.2 6 14, .inl (G.2.1 0, 10, .inl (R 21))), (G.2.2 6 15, .inl (G.2.1 0, 10, .inl (R 22))), (G.2.2 6 16, .inl (G.2.1 0, 960, .inl (R 24))), (G.2.2 6 17, .inl (G.2.1 0, 24, .inl (R 25)))]
def zWM (G : zG_t) (M K : zS_t) : va_W := zWM0 G M ++ (List.range 40).map (fun i => (G.2.2 5 i, .inl (G.2.1 0, 24, .inl (K i))))
def zWL (G : zG_t) (L T E V M K : zS_t) : va_W := zWO G L ++ (zWE G E ++ ((zWT G T ++ zWV G V) ++ zWM G M K))
theorem zwL_E (G : zG_t) (L T E V M K : zS_t) : zWL G L T E V M K = zWO G L ++ (zWE G E ++ ((zWT G T ++ zWV G V) ++ zWM G M K)) := rfl
theorem zwL_T (G : zG_t) (L T E V M K : zS_t) : zWL G L T E V M K = (zWO G L ++ zWE G E) ++ (zWT G T ++ (zWV G V ++ zWM G M K)) := by simp only [zWL, List.append_assoc]
theorem zwL_V (G : zG_t) (L T E V M K : zS_t) : zWL G L T E V M K = (zWO G L ++ zWE G E) ++ ((zWT G T ++ zWV G V) ++ zWM G M K) := by simp only [zWL, List.append_assoc]
theorem zwL_M (G : zG_t) (L T E V M K : zS_t) : zWL G L T E V M K = (zWO G L ++ (zWE G E ++ (zWT G T ++ zWV G V))) ++ (zWM G M K ++ []) := by simp only [zWL, List.append_assoc, List.append_nil]
def zIT (T : zS_t) : Prop := 0 ≤ (T 4 0).toInt ∧ (T 4 0).toInt ≤ 10
def zIE (E : zS_t) : Prop := (0 ≤ (E 5 0).toInt ∧ (E 5 0).toInt ≤ 12) ∧ (∀ j, vp_nar .boolean (E 1 j) = E 1 j)
def zIM (M : zS_t) : Prop := (0 ≤ (M 2 0).toInt ∧ (M 2 0).toInt ≤ 24) ∧ (0 ≤ (M 3 0).toInt ∧ (M 3 0).toInt ≤ 40) ∧ (0 ≤ (M 4 0).toInt ∧ (M 4 0).toInt ≤ 39)
def zIR (R : zS_t) : Prop := (0 ≤ (R 6 0).toInt ∧ (R 6 0).toInt ≤ 10) ∧ (0 ≤ (R 12 0).toInt ∧ (R 12 0).toInt ≤ 12) ∧ (0 ≤ (R 23 0).toInt ∧ (R 23 0).toInt ≤ 40) ∧ (0 ≤ (R 0 0).toInt ∧ (R 0 0).toInt ≤ 2) ∧ (0 ≤ (R 1 0).toInt ∧ (R 1 0).toInt ≤ 2) ∧ (∀ j, vp_nar .boolean (R 14 j) = R 14 j) ∧ (∀ j, 0 ≤ (R 15 j).toInt ∧ (R 15 j).toInt ≤ 2)
end
section
/-! X2_has -/
def mX2_has (place : Int32) (T : zS_t) : Int32 := if place < 0 then 0 else (if (T 4 0) ≤ place then 0 else 1)
set_option maxHeartbeats 4000000 in
set_option maxRecDepth 100000 in
theorem pp_X2_has (place : Int32) (T : zS_t)  : ((mX2_has place T) = 0 ∨ (mX2_has place T) = 1) ∧ (Int32.toInt (mX2_has place T) = 0 ∨ (0 ≤ Int32.toInt place ∧ Int32.toInt place < Int32.toInt (T 4 0))) := by
  obtain ⟨X, hE⟩ : ∃ z, mX2_has place T = z := ⟨_, rfl⟩
  rw [hE]
  have k_0 : Int32.toInt 0 = 0 := by decide
  have k_1 : Int32.toInt 1 = 1 := by decide
  unfold mX2_has at hE
  by_cases c1 : place < 0
  · have hE := zite_t hE c1
    have t2 := zt_lt c1
    subst hE
    exact ⟨Or.inl rfl, (by first | omega | (show Int32.toInt 0 = 0 ∨ (0 ≤ Int32.toInt place ∧ Int32.toInt place < Int32.toInt (T 4 0)); omega) | (show Int32.toInt 0 = 0 ∨ (0 ≤ Int32.toInt place ∧ Int32.toInt place < Int32.toInt (T 4 0)); simp))⟩
  · have hE := zite_f hE c1
    have t3 := zt_nlt c1
    by_cases c4 : (T 4 0) ≤ place
    · have hE := zite_t hE c4
      have t5 := zt_le c4
      subst hE
      exact ⟨Or.inl rfl, (by first | omega | (show Int32.toInt 0 = 0 ∨ (0 ≤ Int32.toInt place ∧ Int32.toInt place < Int32.toInt (T 4 0)); omega) | (show Int32.toInt 0 = 0 ∨ (0 ≤ Int32.toInt place ∧ Int32.toInt place < Int32.toInt (T 4 0)); simp))⟩
    · have hE := zite_f hE c4
      have t6 := zt_nle c4
      subst hE
      exact ⟨Or.inr rfl, (by first | omega | (show Int32.toInt 1 = 0 ∨ (0 ≤ Int32.toInt place ∧ Int32.toInt place < Int32.toInt (T 4 0)); omega) | (show Int32.toInt 1 = 0 ∨ (0 ≤ Int32.toInt place ∧ Int32.toInt place < Int32.toInt (T 4 0)); simp))⟩
theorem hw_X2_has_X2 : ∀ w ∈ wsX20, w ∈ wsX2_has := fun w h => List.mem_cons_of_mem _ (List.mem_append_right _ (h))
abbrev rmX2_has : Room := { frames := 0, cells := 0, slots := 0, locals := 0 }
theorem hd_X2_has : yX2_has.cls = RX2 ∧ yX2_has.cls ≠ "java/lang/invoke/MethodHandle" ∧ yX2_has.cls ≠ "java/lang/invoke/VarHandle" ∧ (parseMethodDescriptor yX2_has.desc).map (fun d => d.parameters.length) = some 1 := by decide +kernel
set_option maxHeartbeats 4000000 in
set_option maxRecDepth 100000 in
theorem c_X2_has (l : Launch) (G : zG_t) (place : Int32) (T : zS_t)  : zCI l G.1 (zty G) yX2_has wsX2_has rmX2_has [.ref (G.2.2 1 0), .int place] (zWT G T) ((mX2_has place T)) (zWT G T) := by
  obtain ⟨X, hE⟩ : ∃ z, mX2_has place T = z := ⟨_, rfl⟩
  rw [hE]
  refine zb_Z (cc := cX2_has) (maxL := 2) (by decide) rfl (Nat.le_of_ble_eq_true rfl) ?_
  intro p e s m args below meth c Q A F hret
  show zW p l e rmX2_has s m args below meth c 0 0 Q G.1 A 2 (zWT G T) [(0, .ref (G.2.2 1 0)), (1, .int place)] 0 []
  have k_0 : Int32.toInt 0 = 0 := by decide
  have k_1 : Int32.toInt 1 = 1 := by decide
  unfold mX2_has at hE
  refine zi_iload_n (pc := 0) F dX2_has_0 1 rfl ?_
  refine zi_if_lt (pc := 1) (tgt := 16) F dX2_has_1 (by decide) (fun c1 => ?_) (fun c1 => ?_)
  · have hE := zite_t hE c1
    have t2 := zt_lt c1
    refine zi_iconst (pc := 16) (v := 0) F dX2_has_16 rfl ?_
    subst hE
    exact hret _ _ dX2_has_17 (znb (Or.inl rfl))
  · have hE := zite_f hE c1
    have t3 := zt_nlt c1
    refine zi_iload_n (pc := 4) F dX2_has_4 1 rfl ?_
    refine zi_aload_n (pc := 5) F dX2_has_5 0 rfl ?_
    refine zi_get (pc := 6) (C := RX2) (T := TX2) (N := 5) (v := .int (T 4 0)) F (hw_X2_has_X2) 0 rfl rfl 4 (by decide) (List.mem_of_getElem? (i := 1) rfl) rfl rfl dX2_has_6 ?_
    refine zi_icmp_ge (pc := 9) (tgt := 16) F dX2_has_9 (by decide) (fun c4 => ?_) (fun c4 => ?_)
    · have hE := zite_t hE c4
      have t5 := zt_le c4
      refine zi_iconst (pc := 16) (v := 0) F dX2_has_16 rfl ?_
      subst hE
      exact hret _ _ dX2_has_17 (znb (Or.inl rfl))
    · have hE := zite_f hE c4
      have t6 := zt_nle c4
      refine zi_iconst (pc := 12) (v := 1) F dX2_has_12 rfl ?_
      refine zi_goto (pc := 13) (tgt := 17) F dX2_has_13 (by decide) ?_
      subst hE
      exact hret _ _ dX2_has_17 (znb (Or.inr rfl))
/-! X2_add -/
def mX2_add (card : Int32) (player : Int32) (target : Int32) (idn : Int32) (T : zS_t) : Int32 × zS_t := if (T 4 0) < 10 then (1, (zsI (zsF (zsF (zsF (zsF T 0 (upd (T 0) (T 4 0).toNatClampNeg card)) 1 (upd (T 1) (T 4 0).toNatClampNeg player)) 2 (upd (T 2) (T 4 0).toNatClampNeg target)) 3 (upd (T 3) (T 4 0).toNatClampNeg idn)) 4 ((T 4 0) + 1))) else (0, T)
set_option maxHeartbeats 4000000 in
set_option maxRecDepth 100000 in
theorem pp_X2_add (card : Int32) (player : Int32) (target : Int32) (idn : Int32) (T : zS_t) (hIT : zIT T) : ((mX2_add card player target idn T).1 = 0 ∨ (mX2_add card player target idn T).1 = 1) ∧ (zIT ((mX2_add card player target idn T).2)) := by
  obtain ⟨X, hE⟩ : ∃ z, mX2_add card player target idn T = z := ⟨_, rfl⟩
  rw [hE]
  have k_0 : Int32.toInt 0 = 0 := by decide
  have k_1 : Int32.toInt 1 = 1 := by decide
  have k_10 : Int32.toInt 10 = 10 := by decide
  obtain ⟨i5, i6⟩ := id hIT
  unfold mX2_add at hE
  by_cases c1 : (T 4 0) < 10
  · have hE := zite_t hE c1
    have t2 := zt_lt c1
    subst hE
    try have t3 := zt_add (a := (T 4 0)) (b := 1) (by omega) (by omega)
    exact ⟨Or.inr rfl, ⟨by (show (0:Int) ≤ Int32.toInt ((T 4 0) + 1)); omega, by (show Int32.toInt ((T 4 0) + 1) ≤ (10:Int)); omega⟩⟩
  · have hE := zite_f hE c1
    have t4 := zt_nlt c1
    subst hE
    exact ⟨Or.inl rfl, hIT⟩
theorem hw_X2_add_X2 : ∀ w ∈ wsX20, w ∈ wsX2_add := fun w h => List.mem_cons_of_mem _ (List.mem_append_right _ (h))
abbrev rmX2_add : Room := { frames := 0, cells := 0, slots := 0, locals := 0 }
theorem hd_X2_add : yX2_add.cls = RX2 ∧ yX2_add.cls ≠ "java/lang/invoke/MethodHandle" ∧ yX2_add.cls ≠ "java/lang/invoke/VarHandle" ∧ (parseMethodDescriptor yX2_add.desc).map (fun d => d.parameters.length) = some 4 := by decide +kernel
set_option maxHeartbeats 4000000 in
set_option maxRecDepth 100000 in
theorem c_X2_add (l : Launch) (G : zG_t) (card : Int32) (player : Int32) (target : Int32) (idn : Int32) (T : zS_t) (hIT : zIT T) : zCI l G.1 (zty G) yX2_add wsX2_add rmX2_add [.ref (G.2.2 1 0), .int card, .int player, .int target, .int idn] (zWT G T) ((mX2_add card player target idn T).1) (zWT G ((mX2_add card player target idn T).2)) := by
  obtain ⟨X, hE⟩ : ∃ z, mX2_add card player target idn T = z := ⟨_, rfl⟩
  rw [hE]
  refine zb_Z (cc := cX2_add) (maxL := 5) (by decide) rfl (Nat.le_of_ble_eq_true rfl) ?_
  intro p e s m args below meth c Q A F hret
  show zW p l e rmX2_add s m args below meth c 0 0 Q G.1 A 5 (zWT G T) [(0, .ref (G.2.2 1 0)), (1, .int card), (2, .int player), (3, .int target), (4, .int idn)] 0 []
  have k_0 : Int32.toInt 0 = 0 := by decide
  have k_1 : Int32.toInt 1 = 1 := by decide
  have k_10 : Int32.toInt 10 = 10 := by decide
  obtain ⟨i7, i8⟩ := id hIT
  unfold mX2_add at hE
  refine zi_aload_n (pc := 0) F dX2_add_0 0 rfl ?_
  refine zi_get (pc := 1) (C := RX2) (T := TX2) (N := 5) (v := .int (T 4 0)) F (hw_X2_add_X2) 0 rfl rfl 4 (by decide) (List.mem_of_getElem? (i := 1) rfl) rfl rfl dX2_add_1 ?_
  refine zi_bipush (pc := 4) (v := 10) F dX2_add_4 rfl ?_
  refine zi_icmp_lt (pc := 6) (tgt := 11) F dX2_add_6 (by decide) (fun c1 => ?_) (fun c1 => ?_)
  · have hE := zite_t hE c1
    have t2 := zt_lt c1
    refine zi_aload_n (pc := 11) F dX2_add_11 0 rfl ?_
    refine zi_get (pc := 12) (C := RX2) (T := TX2) (N := 5) (v := .ref (G.2.2 1 1)) F (hw_X2_add_X2) 0 rfl rfl 0 (by decide) (List.mem_of_getElem? (i := 2) rfl) rfl rfl dX2_add_12 ?_
    refine zi_aload_n (pc := 15) F dX2_add_15 0 rfl ?_
    refine zi_get (pc := 16) (C := RX2) (T := TX2) (N := 5) (v := .int (T 4 0)) F (hw_X2_add_X2) 0 rfl rfl 4 (by decide) (List.mem_of_getElem? (i := 1) rfl) rfl rfl dX2_add_16 ?_
    refine zi_iload_n (pc := 19) F dX2_add_19 1 rfl ?_
    refine zi_iast (pc := 20) (ws' := zWT G (zsF T 0 (upd (T 0) (T 4 0).toNatClampNeg card))) F 1 0 rfl rfl (zin (a := (T 4 0)) (by omega) (by omega)) rfl dX2_add_20 ?_
    refine zi_aload_n (pc := 21) F dX2_add_21 0 rfl ?_
    refine zi_get (pc := 22) (C := RX2) (T := TX2) (N := 5) (v := .ref (G.2.2 1 2)) F (hw_X2_add_X2) 0 rfl rfl 1 (by decide) (List.mem_of_getElem? (i := 3) rfl) rfl rfl dX2_add_22 ?_
    refine zi_aload_n (pc := 25) F dX2_add_25 0 rfl ?_
    refine zi_get (pc := 26) (C := RX2) (T := TX2) (N := 5) (v := .int (T 4 0)) F (hw_X2_add_X2) 0 rfl rfl 4 (by decide) (List.mem_of_getElem? (i := 1) rfl) rfl rfl dX2_add_26 ?_
    refine zi_iload_n (pc := 29) F dX2_add_29 2 rfl ?_
    refine zi_iast (pc := 30) (ws' := zWT G (zsF (zsF T 0 (upd (T 0) (T 4 0).toNatClampNeg card)) 1 (upd (T 1) (T 4 0).toNatClampNeg player))) F 2 0 rfl rfl (zin (a := (T 4 0)) (by omega) (by omega)) rfl dX2_add_30 ?_
    refine zi_aload_n (pc := 31) F dX2_add_31 0 rfl ?_
    refine zi_get (pc := 32) (C := RX2) (T := TX2) (N := 5) (v := .ref (G.2.2 1 3)) F (hw_X2_add_X2) 0 rfl rfl 2 (by decide) (List.mem_of_getElem? (i := 4) rfl) rfl rfl dX2_add_32 ?_
    refine zi_aload_n (pc := 35) F dX2_add_35 0 rfl ?_
    refine zi_get (pc := 36) (C := RX2) (T := TX2) (N := 5) (v := .int (T 4 0)) F (hw_X2_add_X2) 0 rfl rfl 4 (by decide) (List.mem_of_getElem? (i := 1) rfl) rfl rfl dX2_add_36 ?_
    refine zi_iload_n (pc := 39) F dX2_add_39 3 rfl ?_
    refine zi_iast (pc := 40) (ws' := zWT G (zsF (zsF (zsF T 0 (upd (T 0) (T 4 0).toNatClampNeg card)) 1 (upd (T 1) (T 4 0).toNatClampNeg player)) 2 (upd (T 2) (T 4 0).toNatClampNeg target))) F 3 0 rfl rfl (zin (a := (T 4 0)) (by omega) (by omega)) rfl dX2_add_40 ?_
    refine zi_aload_n (pc := 41) F dX2_add_41 0 rfl ?_
    refine zi_get (pc := 42) (C := RX2) (T := TX2) (N := 5) (v := .ref (G.2.2 1 4)) F (hw_X2_add_X2) 0 rfl rfl 3 (by decide) (List.mem_of_getElem? (i := 5) rfl) rfl rfl dX2_add_42 ?_
    refine zi_aload_n (pc := 45) F dX2_add_45 0 rfl ?_
    refine zi_get (pc := 46) (C := RX2) (T := TX2) (N := 5) (v := .int (T 4 0)) F (hw_X2_add_X2) 0 rfl rfl 4 (by decide) (List.mem_of_getElem? (i := 1) rfl) rfl rfl dX2_add_46 ?_
    refine zi_iload (pc := 49) F dX2_add_49 4 rfl ?_
    refine zi_iast (pc := 51) (ws' := zWT G (zsF (zsF (zsF (zsF T 0 (upd (T 0) (T 4 0).toNatClampNeg card)) 1 (upd (T 1) (T 4 0).toNatClampNeg player)) 2 (upd (T 2) (T 4 0).toNatClampNeg target)) 3 (upd (T 3) (T 4 0).toNatClampNeg idn))) F 4 0 rfl rfl (zin (a := (T 4 0)) (by omega) (by omega)) rfl dX2_add_51 ?_
    refine zi_aload_n (pc := 52) F dX2_add_52 0 rfl ?_
    refine zi_dup (pc := 53) F dX2_add_53 rfl ?_
    refine zi_get (pc := 54) (C := RX2) (T := TX2) (N := 5) (v := .int (T 4 0)) F (hw_X2_add_X2) 0 rfl rfl 4 (by decide) (List.mem_of_getElem? (i := 1) rfl) rfl rfl dX2_add_54 ?_
    refine zi_iconst (pc := 57) (v := 1) F dX2_add_57 rfl ?_
    refine zi_iadd (pc := 58) F dX2_add_58 ?_
    refine zi_put (pc := 59) (C := RX2) (T := TX2) (N := 5) (ty := .int) (ws' := zWT G (zsI (zsF (zsF (zsF (zsF T 0 (upd (T 0) (T 4 0).toNatClampNeg card)) 1 (upd (T 1) (T 4 0).toNatClampNeg player)) 2 (upd (T 2) (T 4 0).toNatClampNeg target)) 3 (upd (T 3) (T 4 0).toNatClampNeg idn)) 4 ((T 4 0) + 1))) F (hw_X2_add_X2) tyX2 tyX2_ok nmX2 0 rfl rfl 4 (by decide) (List.mem_of_getElem? (i := 1) rfl) rfl rfl rfl rfl rfl (Nat.le_of_ble_eq_true rfl) rfl dX2_add_59 ?_
    refine zi_iconst (pc := 62) (v := 1) F dX2_add_62 rfl ?_
    subst hE
    exact hret _ _ dX2_add_63 (znb (Or.inr rfl))
  · have hE := zite_f hE c1
    have t3 := zt_nlt c1
    refine zi_iconst (pc := 9) (v := 0) F dX2_add_9 rfl ?_
    subst hE
    exact hret _ _ dX2_add_10 (znb (Or.inl rfl))
/-! X2_remove -/
def mX2_remove_L22  : Nat → Int32 → zS_t → Int32 × zS_t
  | 0, k2_25, T26 => (k2_25, T26)
  | n27 + 1, k2_25, T26 => if (T26 4 0) ≤ k2_25 then (k2_25, T26) else (zbnd ((k2_25 + 1)) (fun y46 => mX2_remove_L22  n27 y46 (zsF (zsF (zsF (zsF T26 0 (upd (T26 0) k2_25.toNatClampNeg (T26 0 (k2_25 + 1).toNatClampNeg))) 1 (upd (T26 1) k2_25.toNatClampNeg (T26 1 (k2_25 + 1).toNatClampNeg))) 2 (upd (T26 2) k2_25.toNatClampNeg (T26 2 (k2_25 + 1).toNatClampNeg))) 3 (upd (T26 3) k2_25.toNatClampNeg (T26 3 (k2_25 + 1).toNatClampNeg)))))
def mX2_remove (place : Int32) (T : zS_t) : Int32 × zS_t := zbnd (mX2_has place T) (fun r1 => if r1 = 0 then (0, T) else (zbnd ((zsI T 4 ((T 4 0) - 1))) (fun T8 => zbnd2 (mX2_remove_L22  11 place T8) (fun k2_50 T51 => (1, T51)))))
set_option maxHeartbeats 4000000 in
set_option maxRecDepth 100000 in
theorem pp_X2_remove (place : Int32) (T : zS_t) (hIT : zIT T) : ((mX2_remove place T).1 = 0 ∨ (mX2_remove place T).1 = 1) ∧ (zIT ((mX2_remove place T).2)) := by
  obtain ⟨X, hE⟩ : ∃ z, mX2_remove place T = z := ⟨_, rfl⟩
  rw [hE]
  have k_0 : Int32.toInt 0 = 0 := by decide
  have k_1 : Int32.toInt 1 = 1 := by decide
  obtain ⟨i60, i61⟩ := id hIT
  unfold mX2_remove at hE
  have pp4 := pp_X2_has place T 
  obtain ⟨r1, e2⟩ : ∃ z, mX2_has place T = z := ⟨_, rfl⟩
  have hE := zbnd_cut hE e2
  rw [e2] at pp4
  obtain ⟨hbr1, q5⟩ := pp4
  by_cases c6 : r1 = 0
  · have hE := zite_t hE c6
    have t7 := congrArg Int32.toInt c6
    subst hE
    exact ⟨Or.inl rfl, hIT⟩
  · have hE := zite_f hE c6
    have t8 := zt_ne c6
    try have t11 := zt_sub (a := (T 4 0)) (b := 1) (by omega) (by omega)
    have hIT9 : zIT (zsI T 4 ((T 4 0) - 1)) := ⟨by (show (0:Int) ≤ Int32.toInt ((T 4 0) - 1)); omega, by (show Int32.toInt ((T 4 0) - 1) ≤ (10:Int)); omega⟩
    obtain ⟨T9, e10⟩ : ∃ z, (zsI T 4 ((T 4 0) - 1)) = z := ⟨_, rfl⟩
    have hE := zbnd_cut hE e10
    have t12 : Int32.toInt (T9 4 0) = Int32.toInt ((T 4 0) - 1) := by rw [← e10]; rfl
    rw [e10] at hIT9
    obtain ⟨i13, i14⟩ := id hIT9
    have hL22 : ∀ (n28 : Nat) (k2_26 : Int32) (T27 : zS_t), (0 ≤ Int32.toInt k2_26) ∧ (Int32.toInt k2_26 ≤ 10) ∧ (Int32.toInt (T27 4 0) ≤ 9) ∧ (zIT T27) → 11 - Int32.toInt k2_26 ≤ (n28 : Int) → ∀ Y29, mX2_remove_L22  n28 k2_26 T27 = Y29 → (0 ≤ Int32.toInt Y29.1) ∧ (Int32.toInt Y29.1 ≤ 10) ∧ (Int32.toInt ((Y29.2) 4 0) ≤ 9) ∧ (zIT (Y29.2)) := by
      intro n28
      induction n28 with
      | zero =>
        intro k2_26 T27 hI hM9
        obtain ⟨i30, i31, i32, hIT27⟩ := id hI
        obtain ⟨i33, i34⟩ := id hIT27
        exact absurd hM9 (by omega)
      | succ n28 ih =>
        intro k2_26 T27 hI hM9 Y29 hE
        obtain ⟨i35, i36, i37, hIT27⟩ := id hI
        obtain ⟨i38, i39⟩ := id hIT27
        rw [mX2_remove_L22.eq_2] at hE
        by_cases c40 : (T27 4 0) ≤ k2_26
        · have hE := zite_t hE c40
          have t41 := zt_le c40
          subst hE
          exact ⟨by (show 0 ≤ Int32.toInt k2_26; omega), by (show Int32.toInt k2_26 ≤ 10; omega), by (show Int32.toInt (T27 4 0) ≤ 9; omega), hIT27⟩
        · have hE := zite_f hE c40
          have t42 := zt_nle c40
          try have t43 := zt_add (a := k2_26) (b := 1) (by omega) (by omega)
          try have t44 := zt_add (a := k2_26) (b := 1) (by omega) (by omega)
          try have t45 := zt_add (a := k2_26) (b := 1) (by omega) (by omega)
          try have t46 := zt_add (a := k2_26) (b := 1) (by omega) (by omega)
          try have t49 := zt_add (a := k2_26) (b := 1) (by omega) (by omega)
          obtain ⟨y47, e48⟩ : ∃ z : Int32, (k2_26 + 1) = z := ⟨_, rfl⟩
          have hE := zbnd_cut hE e48
          have t50 := congrArg Int32.toInt e48
          exact ih y47 (zsF (zsF (zsF (zsF T27 0 (upd (T27 0) k2_26.toNatClampNeg (T27 0 (k2_26 + 1).toNatClampNeg))) 1 (upd (T27 1) k2_26.toNatClampNeg (T27 1 (k2_26 + 1).toNatClampNeg))) 2 (upd (T27 2) k2_26.toNatClampNeg (T27 2 (k2_26 + 1).toNatClampNeg))) 3 (upd (T27 3) k2_26.toNatClampNeg (T27 3 (k2_26 + 1).toNatClampNeg))) (⟨by (show 0 ≤ Int32.toInt y47; omega), by (show Int32.toInt y47 ≤ 10; omega), by (show Int32.toInt (T27 4 0) ≤ 9; omega), hIT27⟩) (by omega) _ hE
    obtain ⟨⟨k2_51, T52⟩, e53⟩ : ∃ z, mX2_remove_L22  11 place T9 = z := ⟨_, rfl⟩
    have hE := zbnd2_cut hE e53
    have hI54 := hL22 11 place T9 (⟨by (show 0 ≤ Int32.toInt place; omega), by (show Int32.toInt place ≤ 10; omega), by (show Int32.toInt (T9 4 0) ≤ 9; omega), hIT9⟩) (by omega) _ e53
    have hI54 : (0 ≤ Int32.toInt k2_51) ∧ (Int32.toInt k2_51 ≤ 10) ∧ (Int32.toInt (T52 4 0) ≤ 9) ∧ (zIT T52) := hI54
    obtain ⟨i55, i56, i57, hIT52⟩ := id hI54
    obtain ⟨i58, i59⟩ := id hIT52
    subst hE
    exact ⟨Or.inr rfl, hIT52⟩
theorem hw_X2_remove_X2 : ∀ w ∈ wsX20, w ∈ wsX2_remove := fun w h => List.mem_cons_of_mem _ (List.mem_append_right _ (h))
abbrev rmX2_remove : Room := { frames := 1, cells := 0, slots := 0, locals := 21 }
theorem hd_X2_remove : yX2_remove.cls = RX2 ∧ yX2_remove.cls ≠ "java/lang/invoke/MethodHandle" ∧ yX2_remove.cls ≠ "java/lang/invoke/VarHandle" ∧ (parseMethodDescriptor yX2_remove.desc).map (fun d => d.parameters.length) = some 1 := by decide +kernel
set_option maxHeartbeats 4000000 in
set_option maxRecDepth 100000 in
theorem c_X2_remove (l : Launch) (G : zG_t) (place : Int32) (T : zS_t) (hIT : zIT T) : zCI l G.1 (zty G) yX2_remove wsX2_remove rmX2_remove [.ref (G.2.2 1 0), .int place] (zWT G T) ((mX2_remove place T).1) (zWT G ((mX2_remove place T).2)) := by
  obtain ⟨X, hE⟩ : ∃ z, mX2_remove place T = z := ⟨_, rfl⟩
  rw [hE]
  refine zb_Z (cc := cX2_remove) (maxL := 3) (by decide) rfl (Nat.le_of_ble_eq_true rfl) ?_
  intro p e s m args below meth c Q A F hret
  show zW p l e rmX2_remove s m args below meth c 0 0 Q G.1 A 3 (zWT G T) [(0, .ref (G.2.2 1 0)), (1, .int place)] 0 []
  have k_0 : Int32.toInt 0 = 0 := by decide
  have k_1 : Int32.toInt 1 = 1 := by decide
  obtain ⟨i62, i63⟩ := id hIT
  unfold mX2_remove at hE
  refine zi_aload_n (pc := 0) F dX2_remove_0 0 rfl ?_
  refine zi_iload_n (pc := 1) F dX2_remove_1 1 rfl ?_
  have hM3 := c_X2_has l G place T 
  have pp4 := pp_X2_has place T 
  obtain ⟨r1, e2⟩ : ∃ z, mX2_has place T = z := ⟨_, rfl⟩
  have hE := zbnd_cut hE e2
  rw [e2] at hM3
  rw [e2] at pp4
  obtain ⟨hbr1, q5⟩ := pp4
  refine zi_callVI (pc := 2) (rest := []) (ws' := zWT G T) F hM3 (cwV 1 F.1.2.2.2.2 gX2_remove_X2_has rfl rfl rfl hd_X2_has ⟨Nat.le_of_ble_eq_true rfl, Nat.le_of_ble_eq_true rfl⟩) 0 rfl rfl _ _ (zw_nil _) (zw_nil _).symm rfl rfl (Nat.le_of_ble_eq_true rfl) dX2_remove_2 ⟨Nat.zero_le _, Nat.zero_le _⟩ ?_
  refine zi_if_ne (pc := 5) (tgt := 10) F dX2_remove_5 (by decide) (fun c6 => ?_) (fun c6 => ?_)
  · have hE := zite_f hE c6
    have t7 := zt_ne c6
    refine zi_aload_n (pc := 10) F dX2_remove_10 0 rfl ?_
    refine zi_dup (pc := 11) F dX2_remove_11 rfl ?_
    refine zi_get (pc := 12) (C := RX2) (T := TX2) (N := 5) (v := .int (T 4 0)) F (hw_X2_remove_X2) 0 rfl rfl 4 (by decide) (List.mem_of_getElem? (i := 1) rfl) rfl rfl dX2_remove_12 ?_
    refine zi_iconst (pc := 15) (v := 1) F dX2_remove_15 rfl ?_
    refine zi_isub (pc := 16) F dX2_remove_16 ?_
    refine zi_put (pc := 17) (C := RX2) (T := TX2) (N := 5) (ty := .int) (ws' := zWT G (zsI T 4 ((T 4 0) - 1))) F (hw_X2_remove_X2) tyX2 tyX2_ok nmX2 0 rfl rfl 4 (by decide) (List.mem_of_getElem? (i := 1) rfl) rfl rfl rfl rfl rfl (Nat.le_of_ble_eq_true rfl) rfl dX2_remove_17 ?_
    refine zi_iload_n (pc := 20) F dX2_remove_20 1 rfl ?_
    refine zi_istore_n (pc := 21) (lv' := [(0, .ref (G.2.2 1 0)), (1, .int place), (2, .int place)]) F dX2_remove_21 (by decide) rfl ?_
    try have t10 := zt_sub (a := (T 4 0)) (b := 1) (by omega) (by omega)
    have hIT8 : zIT (zsI T 4 ((T 4 0) - 1)) := ⟨by (show (0:Int) ≤ Int32.toInt ((T 4 0) - 1)); omega, by (show Int32.toInt ((T 4 0) - 1) ≤ (10:Int)); omega⟩
    refine zi_nameW (w := fun Z9 => zWT G Z9) (S := (zsI T 4 ((T 4 0) - 1))) (fun T8 e9 => ?_)
    have hE := zbnd_cut hE e9
    have t11 : Int32.toInt (T8 4 0) = Int32.toInt ((T 4 0) - 1) := by rw [← e9]; rfl
    rw [e9] at hIT8
    obtain ⟨i12, i13⟩ := id hIT8
    have hL22 : ∀ (n27 : Nat) (k2_25 : Int32) (T26 : zS_t), (0 ≤ Int32.toInt k2_25) ∧ (Int32.toInt k2_25 ≤ 10) ∧ (Int32.toInt (T26 4 0) ≤ 9) ∧ (zIT T26) → 11 - Int32.toInt k2_25 ≤ (n27 : Int) → ∀ Y28, mX2_remove_L22  n27 k2_25 T26 = Y28 → (((0 ≤ Int32.toInt Y28.1) ∧ (Int32.toInt Y28.1 ≤ 10) ∧ (Int32.toInt ((Y28.2) 4 0) ≤ 9) ∧ (zIT (Y28.2))) → zW p l e rmX2_remove s m args below meth c 0 0 Q G.1 A 3 (zWT G (Y28.2)) [(0, .ref (G.2.2 1 0)), (1, .int place), (2, .int Y28.1)] 92 []) → zW p l e rmX2_remove s m args below meth c 0 0 Q G.1 A 3 (zWT G T26) [(0, .ref (G.2.2 1 0)), (1, .int place), (2, .int k2_25)] 22 [] := by
      intro n27
      induction n27 with
      | zero =>
        intro k2_25 T26 hI hM9
        obtain ⟨i29, i30, i31, hIT26⟩ := id hI
        obtain ⟨i32, i33⟩ := id hIT26
        exact absurd hM9 (by omega)
      | succ n27 ih =>
        intro k2_25 T26 hI hM9 Y28 hE hK
        obtain ⟨i34, i35, i36, hIT26⟩ := id hI
        obtain ⟨i37, i38⟩ := id hIT26
        rw [mX2_remove_L22.eq_2] at hE
        refine zi_iload_n (pc := 22) F dX2_remove_22 2 rfl ?_
        refine zi_aload_n (pc := 23) F dX2_remove_23 0 rfl ?_
        refine zi_get (pc := 24) (C := RX2) (T := TX2) (N := 5) (v := .int (T26 4 0)) F (hw_X2_remove_X2) 0 rfl rfl 4 (by decide) (List.mem_of_getElem? (i := 1) rfl) rfl rfl dX2_remove_24 ?_
        refine zi_icmp_ge (pc := 27) (tgt := 92) F dX2_remove_27 (by decide) (fun c39 => ?_) (fun c39 => ?_)
        · have hE := zite_t hE c39
          have t40 := zt_le c39
          subst hE
          refine zi_sub [0, 1, 2] rfl ?_
          exact hK (⟨by (show 0 ≤ Int32.toInt k2_25; omega), by (show Int32.toInt k2_25 ≤ 10; omega), by (show Int32.toInt (T26 4 0) ≤ 9; omega), hIT26⟩)
        · have hE := zite_f hE c39
          have t41 := zt_nle c39
          refine zi_aload_n (pc := 30) F dX2_remove_30 0 rfl ?_
          refine zi_get (pc := 31) (C := RX2) (T := TX2) (N := 5) (v := .ref (G.2.2 1 1)) F (hw_X2_remove_X2) 0 rfl rfl 0 (by decide) (List.mem_of_getElem? (i := 2) rfl) rfl rfl dX2_remove_31 ?_
          refine zi_iload_n (pc := 34) F dX2_remove_34 2 rfl ?_
          refine zi_aload_n (pc := 35) F dX2_remove_35 0 rfl ?_
          refine zi_get (pc := 36) (C := RX2) (T := TX2) (N := 5) (v := .ref (G.2.2 1 1)) F (hw_X2_remove_X2) 0 rfl rfl 0 (by decide) (List.mem_of_getElem? (i := 2) rfl) rfl rfl dX2_remove_36 ?_
          refine zi_iload_n (pc := 39) F dX2_remove_39 2 rfl ?_
          refine zi_iconst (pc := 40) (v := 1) F dX2_remove_40 rfl ?_
          refine zi_iadd (pc := 41) F dX2_remove_41 ?_
          try have t42 := zt_add (a := k2_25) (b := 1) (by omega) (by omega)
          refine zi_iald (pc := 42) (v := (T26 0 (k2_25 + 1).toNatClampNeg)) F 1 0 rfl rfl (zin (a := (k2_25 + 1)) (by omega) (by omega)) rfl dX2_remove_42 ?_
          refine zi_iast (pc := 43) (ws' := zWT G (zsF T26 0 (upd (T26 0) k2_25.toNatClampNeg (T26 0 (k2_25 + 1).toNatClampNeg)))) F 1 0 rfl rfl (zin (a := k2_25) (by omega) (by omega)) rfl dX2_remove_43 ?_
          refine zi_aload_n (pc := 44) F dX2_remove_44 0 rfl ?_
          refine zi_get (pc := 45) (C := RX2) (T := TX2) (N := 5) (v := .ref (G.2.2 1 2)) F (hw_X2_remove_X2) 0 rfl rfl 1 (by decide) (List.mem_of_getElem? (i := 3) rfl) rfl rfl dX2_remove_45 ?_
          refine zi_iload_n (pc := 48) F dX2_remove_48 2 rfl ?_
          refine zi_aload_n (pc := 49) F dX2_remove_49 0 rfl ?_
          refine zi_get (pc := 50) (C := RX2) (T := TX2) (N := 5) (v := .ref (G.2.2 1 2)) F (hw_X2_remove_X2) 0 rfl rfl 1 (by decide) (List.mem_of_getElem? (i := 3) rfl) rfl rfl dX2_remove_50 ?_
          refine zi_iload_n (pc := 53) F dX2_remove_53 2 rfl ?_
          refine zi_iconst (pc := 54) (v := 1) F dX2_remove_54 rfl ?_
          refine zi_iadd (pc := 55) F dX2_remove_55 ?_
          try have t43 := zt_add (a := k2_25) (b := 1) (by omega) (by omega)
          refine zi_iald (pc := 56) (v := (T26 1 (k2_25 + 1).toNatClampNeg)) F 2 0 rfl rfl (zin (a := (k2_25 + 1)) (by omega) (by omega)) rfl dX2_remove_56 ?_
          refine zi_iast (pc := 57) (ws' := zWT G (zsF (zsF T26 0 (upd (T26 0) k2_25.toNatClampNeg (T26 0 (k2_25 + 1).toNatClampNeg))) 1 (upd (T26 1) k2_25.toNatClampNeg (T26 1 (k2_25 + 1).toNatClampNeg)))) F 2 0 rfl rfl (zin (a := k2_25) (by omega) (by omega)) rfl dX2_remove_57 ?_
          refine zi_aload_n (pc := 58) F dX2_remove_58 0 rfl ?_
          refine zi_get (pc := 59) (C := RX2) (T := TX2) (N := 5) (v := .ref (G.2.2 1 3)) F (hw_X2_remove_X2) 0 rfl rfl 2 (by decide) (List.mem_of_getElem? (i := 4) rfl) rfl rfl dX2_remove_59 ?_
          refine zi_iload_n (pc := 62) F dX2_remove_62 2 rfl ?_
          refine zi_aload_n (pc := 63) F dX2_remove_63 0 rfl ?_
          refine zi_get (pc := 64) (C := RX2) (T := TX2) (N := 5) (v := .ref (G.2.2 1 3)) F (hw_X2_remove_X2) 0 rfl rfl 2 (by decide) (List.mem_of_getElem? (i := 4) rfl) rfl rfl dX2_remove_64 ?_
          refine zi_iload_n (pc := 67) F dX2_remove_67 2 rfl ?_
          refine zi_iconst (pc := 68) (v := 1) F dX2_remove_68 rfl ?_
          refine zi_iadd (pc := 69) F dX2_remove_69 ?_
          try have t44 := zt_add (a := k2_25) (b := 1) (by omega) (by omega)
          refine zi_iald (pc := 70) (v := (T26 2 (k2_25 + 1).toNatClampNeg)) F 3 0 rfl rfl (zin (a := (k2_25 + 1)) (by omega) (by omega)) rfl dX2_remove_70 ?_
          refine zi_iast (pc := 71) (ws' := zWT G (zsF (zsF (zsF T26 0 (upd (T26 0) k2_25.toNatClampNeg (T26 0 (k2_25 + 1).toNatClampNeg))) 1 (upd (T26 1) k2_25.toNatClampNeg (T26 1 (k2_25 + 1).toNatClampNeg))) 2 (upd (T26 2) k2_25.toNatClampNeg (T26 2 (k2_25 + 1).toNatClampNeg)))) F 3 0 rfl rfl (zin (a := k2_25) (by omega) (by omega)) rfl dX2_remove_71 ?_
          refine zi_aload_n (pc := 72) F dX2_remove_72 0 rfl ?_
          refine zi_get (pc := 73) (C := RX2) (T := TX2) (N := 5) (v := .ref (G.2.2 1 4)) F (hw_X2_remove_X2) 0 rfl rfl 3 (by decide) (List.mem_of_getElem? (i := 5) rfl) rfl rfl dX2_remove_73 ?_
          refine zi_iload_n (pc := 76) F dX2_remove_76 2 rfl ?_
          refine zi_aload_n (pc := 77) F dX2_remove_77 0 rfl ?_
          refine zi_get (pc := 78) (C := RX2) (T := TX2) (N := 5) (v := .ref (G.2.2 1 4)) F (hw_X2_remove_X2) 0 rfl rfl 3 (by decide) (List.mem_of_getElem? (i := 5) rfl) rfl rfl dX2_remove_78 ?_
          refine zi_iload_n (pc := 81) F dX2_remove_81 2 rfl ?_
          refine zi_iconst (pc := 82) (v := 1) F dX2_remove_82 rfl ?_
          refine zi_iadd (pc := 83) F dX2_remove_83 ?_
          try have t45 := zt_add (a := k2_25) (b := 1) (by omega) (by omega)
          refine zi_iald (pc := 84) (v := (T26 3 (k2_25 + 1).toNatClampNeg)) F 4 0 rfl rfl (zin (a := (k2_25 + 1)) (by omega) (by omega)) rfl dX2_remove_84 ?_
          refine zi_iast (pc := 85) (ws' := zWT G (zsF (zsF (zsF (zsF T26 0 (upd (T26 0) k2_25.toNatClampNeg (T26 0 (k2_25 + 1).toNatClampNeg))) 1 (upd (T26 1) k2_25.toNatClampNeg (T26 1 (k2_25 + 1).toNatClampNeg))) 2 (upd (T26 2) k2_25.toNatClampNeg (T26 2 (k2_25 + 1).toNatClampNeg))) 3 (upd (T26 3) k2_25.toNatClampNeg (T26 3 (k2_25 + 1).toNatClampNeg)))) F 4 0 rfl rfl (zin (a := k2_25) (by omega) (by omega)) rfl dX2_remove_85 ?_
          try have t48 := zt_add (a := k2_25) (b := 1) (by omega) (by omega)
          obtain ⟨y46, e47⟩ : ∃ z : Int32, (k2_25 + 1) = z := ⟨_, rfl⟩
          have hE := zbnd_cut hE e47
          have t49 := congrArg Int32.toInt e47
          refine zi_iinc (pc := 86) (lv' := [(0, .ref (G.2.2 1 0)), (1, .int place), (2, .int y46)]) F dX2_remove_86 2 rfl e47 (by decide) rfl ?_
          refine zi_goto (pc := 89) (tgt := 22) F dX2_remove_89 (by decide) ?_
          refine zi_sub [0, 1, 2] rfl ?_
          exact ih y46 (zsF (zsF (zsF (zsF T26 0 (upd (T26 0) k2_25.toNatClampNeg (T26 0 (k2_25 + 1).toNatClampNeg))) 1 (upd (T26 1) k2_25.toNatClampNeg (T26 1 (k2_25 + 1).toNatClampNeg))) 2 (upd (T26 2) k2_25.toNatClampNeg (T26 2 (k2_25 + 1).toNatClampNeg))) 3 (upd (T26 3) k2_25.toNatClampNeg (T26 3 (k2_25 + 1).toNatClampNeg))) (⟨by (show 0 ≤ Int32.toInt y46; omega), by (show Int32.toInt y46 ≤ 10; omega), by (show Int32.toInt (T26 4 0) ≤ 9; omega), hIT26⟩) (by omega) _ hE hK
    obtain ⟨⟨k2_50, T51⟩, e52⟩ : ∃ z, mX2_remove_L22  11 place T8 = z := ⟨_, rfl⟩
    have hE := zbnd2_cut hE e52
    refine hL22 11 place T8 (⟨by (show 0 ≤ Int32.toInt place; omega), by (show Int32.toInt place ≤ 10; omega), by (show Int32.toInt (T8 4 0) ≤ 9; omega), hIT8⟩) (by omega) _ e52 (fun hI53 => ?_)
    have hI53 : (0 ≤ Int32.toInt k2_50) ∧ (Int32.toInt k2_50 ≤ 10) ∧ (Int32.toInt (T51 4 0) ≤ 9) ∧ (zIT T51) := hI53
    obtain ⟨i54, i55, i56, hIT51⟩ := id hI53
    obtain ⟨i57, i58⟩ := id hIT51
    show zW p l e rmX2_remove s m args below meth c 0 0 Q G.1 A 3 (zWT G T51) [(0, .ref (G.2.2 1 0)), (1, .int place), (2, .int k2_50)] 92 []
    refine zi_iconst (pc := 92) (v := 1) F dX2_remove_92 rfl ?_
    subst hE
    exact hret _ _ dX2_remove_93 (znb (Or.inr rfl))
  · have hE := zite_t hE c6
    have t59 := congrArg Int32.toInt c6
    refine zi_iconst (pc := 8) (v := 0) F dX2_remove_8 rfl ?_
    subst hE
    exact hret _ _ dX2_remove_9 (znb (Or.inl rfl))
/-! X2_placeOf -/
def mX2_placeOf_L2 (idn : Int32) (T : zS_t) : Nat → Int32 → Int32
  | 0, k2_11 => 0
  | n12 + 1, k2_11 => if (T 4 0) ≤ k2_11 then (-1) else (if (T 3 k2_11.toNatClampNeg) = idn then k2_11 else (zbnd ((k2_11 + 1)) (fun y23 => mX2_placeOf_L2 idn T n12 y23)))
def mX2_placeOf (idn : Int32) (T : zS_t) : Int32 := mX2_placeOf_L2 idn T 11 0
theorem hw_X2_placeOf_X2 : ∀ w ∈ wsX20, w ∈ wsX2_placeOf := fun w h => List.mem_cons_of_mem _ (List.mem_append_right _ (h))
abbrev rmX2_placeOf : Room := { frames := 0, cells := 0, slots := 0, locals := 0 }
theorem hd_X2_placeOf : yX2_placeOf.cls = RX2 ∧ yX2_placeOf.cls ≠ "java/lang/invoke/MethodHandle" ∧ yX2_placeOf.cls ≠ "java/lang/invoke/VarHandle" ∧ (parseMethodDescriptor yX2_placeOf.desc).map (fun d => d.parameters.length) = some 1 := by decide +kernel
set_option maxHeartbeats 4000000 in
set_option maxRecDepth 100000 in
theorem c_X2_placeOf (l : Launch) (G : zG_t) (idn : Int32) (T : zS_t) (hIT : zIT T) : zCI l G.1 (zty G) yX2_placeOf wsX2_placeOf rmX2_placeOf [.ref (G.2.2 1 0), .int idn] (zWT G T) ((mX2_placeOf idn T)) (zWT G T) := by
  obtain ⟨X, hE⟩ : ∃ z, mX2_placeOf idn T = z := ⟨_, rfl⟩
  rw [hE]
  refine zb_I (cc := cX2_placeOf) (maxL := 3) (by decide) rfl (Nat.le_of_ble_eq_true rfl) ?_
  intro p e s m args below meth c Q A F hret
  show zW p l e rmX2_placeOf s m args below meth c 0 0 Q G.1 A 3 (zWT G T) [(0, .ref (G.2.2 1 0)), (1, .int idn)] 0 []
  have k_m1 : Int32.toInt (-1) = -1 := by decide
  have k_0 : Int32.toInt 0 = 0 := by decide
  have k_1 : Int32.toInt 1 = 1 := by decide
  obtain ⟨i28, i29⟩ := id hIT
  unfold mX2_placeOf at hE
  refine zi_iconst (pc := 0) (v := 0) F dX2_placeOf_0 rfl ?_
  refine zi_istore_n (pc := 1) (lv' := [(0, .ref (G.2.2 1 0)), (1, .int idn), (2, .int 0)]) F dX2_placeOf_1 (by decide) rfl ?_
  have hL2 : ∀ (n12 : Nat) (k2_11 : Int32), (0 ≤ Int32.toInt k2_11) ∧ (Int32.toInt k2_11 ≤ 10) → 11 - Int32.toInt k2_11 ≤ (n12 : Int) → mX2_placeOf_L2 idn T n12 k2_11 = X → zW p l e rmX2_placeOf s m args below meth c 0 0 Q G.1 A 3 (zWT G T) [(0, .ref (G.2.2 1 0)), (1, .int idn), (2, .int k2_11)] 2 [] := by
    intro n12
    induction n12 with
    | zero =>
      intro k2_11 hI hM9
      obtain ⟨i14, i15⟩ := id hI
      exact absurd hM9 (by omega)
    | succ n12 ih =>
      intro k2_11 hI hM9 hE
      obtain ⟨i16, i17⟩ := id hI
      rw [mX2_placeOf_L2.eq_2] at hE
      refine zi_iload_n (pc := 2) F dX2_placeOf_2 2 rfl ?_
      refine zi_aload_n (pc := 3) F dX2_placeOf_3 0 rfl ?_
      refine zi_get (pc := 4) (C := RX2) (T := TX2) (N := 5) (v := .int (T 4 0)) F (hw_X2_placeOf_X2) 0 rfl rfl 4 (by decide) (List.mem_of_getElem? (i := 1) rfl) rfl rfl dX2_placeOf_4 ?_
      refine zi_icmp_ge (pc := 7) (tgt := 28) F dX2_placeOf_7 (by decide) (fun c18 => ?_) (fun c18 => ?_)
      · have hE := zite_t hE c18
        have t19 := zt_le c18
        refine zi_iconst (pc := 28) (v := (-1)) F dX2_placeOf_28 rfl ?_
        subst hE
        exact hret _ _ dX2_placeOf_29
      · have hE := zite_f hE c18
        have t20 := zt_nle c18
        refine zi_aload_n (pc := 10) F dX2_placeOf_10 0 rfl ?_
        refine zi_get (pc := 11) (C := RX2) (T := TX2) (N := 5) (v := .ref (G.2.2 1 4)) F (hw_X2_placeOf_X2) 0 rfl rfl 3 (by decide) (List.mem_of_getElem? (i := 2) rfl) rfl rfl dX2_placeOf_11 ?_
        refine zi_iload_n (pc := 14) F dX2_placeOf_14 2 rfl ?_
        refine zi_iald (pc := 15) (v := (T 3 k2_11.toNatClampNeg)) F 4 0 rfl rfl (zin (a := k2_11) (by omega) (by omega)) rfl dX2_placeOf_15 ?_
        refine zi_iload_n (pc := 16) F dX2_placeOf_16 1 rfl ?_
        refine zi_icmp_ne (pc := 17) (tgt := 22) F dX2_placeOf_17 (by decide) (fun c21 => ?_) (fun c21 => ?_)
        · have hE := zite_f hE c21
          have t22 := zt_ne c21
          try have t25 := zt_add (a := k2_11) (b := 1) (by omega) (by omega)
          obtain ⟨y23, e24⟩ : ∃ z : Int32, (k2_11 + 1) = z := ⟨_, rfl⟩
          have hE := zbnd_cut hE e24
          have t26 := congrArg Int32.toInt e24
          refine zi_iinc (pc := 22) (lv' := [(0, .ref (G.2.2 1 0)), (1, .int idn), (2, .int y23)]) F dX2_placeOf_22 2 rfl e24 (by decide) rfl ?_
          refine zi_goto (pc := 25) (tgt := 2) F dX2_placeOf_25 (by decide) ?_
          refine zi_sub [0, 1, 2] rfl ?_
          exact ih y23 (⟨by (show 0 ≤ Int32.toInt y23; omega), by (show Int32.toInt y23 ≤ 10; omega)⟩) (by omega) hE
        · have hE := zite_t hE c21
          have t27 := congrArg Int32.toInt c21
          refine zi_iload_n (pc := 20) F dX2_placeOf_20 2 rfl ?_
          subst hE
          exact hret _ _ dX2_placeOf_21
  exact hL2 11 0 (⟨by (show 0 ≤ Int32.toInt 0; omega), by (show Int32.toInt 0 ≤ 10; omega)⟩) (by omega) hE
/-! X2_firstOf -/
def mX2_firstOf_L2 (card : Int32) (T : zS_t) : Nat → Int32 → Int32
  | 0, k2_11 => 0
  | n12 + 1, k2_11 => if (T 4 0) ≤ k2_11 then (-1) else (if (T 0 k2_11.toNatClampNeg) = card then k2_11 else (zbnd ((k2_11 + 1)) (fun y23 => mX2_firstOf_L2 card T n12 y23)))
def mX2_firstOf (card : Int32) (T : zS_t) : Int32 := mX2_firstOf_L2 card T 11 0
theorem hw_X2_firstOf_X2 : ∀ w ∈ wsX20, w ∈ wsX2_firstOf := fun w h => List.mem_cons_of_mem _ (List.mem_append_right _ (h))
abbrev rmX2_firstOf : Room := { frames := 0, cells := 0, slots := 0, locals := 0 }
theorem hd_X2_firstOf : yX2_firstOf.cls = RX2 ∧ yX2_firstOf.cls ≠ "java/lang/invoke/MethodHandle" ∧ yX2_firstOf.cls ≠ "java/lang/invoke/VarHandle" ∧ (parseMethodDescriptor yX2_firstOf.desc).map (fun d => d.parameters.length) = some 1 := by decide +kernel
set_option maxHeartbeats 4000000 in
set_option maxRecDepth 100000 in
theorem c_X2_firstOf (l : Launch) (G : zG_t) (card : Int32) (T : zS_t) (hIT : zIT T) : zCI l G.1 (zty G) yX2_firstOf wsX2_firstOf rmX2_firstOf [.ref (G.2.2 1 0), .int card] (zWT G T) ((mX2_firstOf card T)) (zWT G T) := by
  obtain ⟨X, hE⟩ : ∃ z, mX2_firstOf card T = z := ⟨_, rfl⟩
  rw [hE]
  refine zb_I (cc := cX2_firstOf) (maxL := 3) (by decide) rfl (Nat.le_of_ble_eq_true rfl) ?_
  intro p e s m args below meth c Q A F hret
  show zW p l e rmX2_firstOf s m args below meth c 0 0 Q G.1 A 3 (zWT G T) [(0, .ref (G.2.2 1 0)), (1, .int card)] 0 []
  have k_m1 : Int32.toInt (-1) = -1 := by decide
  have k_0 : Int32.toInt 0 = 0 := by decide
  have k_1 : Int32.toInt 1 = 1 := by decide
  obtain ⟨i28, i29⟩ := id hIT
  unfold mX2_firstOf at hE
  refine zi_iconst (pc := 0) (v := 0) F dX2_firstOf_0 rfl ?_
  refine zi_istore_n (pc := 1) (lv' := [(0, .ref (G.2.2 1 0)), (1, .int card), (2, .int 0)]) F dX2_firstOf_1 (by decide) rfl ?_
  have hL2 : ∀ (n12 : Nat) (k2_11 : Int32), (0 ≤ Int32.toInt k2_11) ∧ (Int32.toInt k2_11 ≤ 10) → 11 - Int32.toInt k2_11 ≤ (n12 : Int) → mX2_firstOf_L2 card T n12 k2_11 = X → zW p l e rmX2_firstOf s m args below meth c 0 0 Q G.1 A 3 (zWT G T) [(0, .ref (G.2.2 1 0)), (1, .int card), (2, .int k2_11)] 2 [] := by
    intro n12
    induction n12 with
    | zero =>
      intro k2_11 hI hM9
      obtain ⟨i14, i15⟩ := id hI
      exact absurd hM9 (by omega)
    | succ n12 ih =>
      intro k2_11 hI hM9 hE
      obtain ⟨i16, i17⟩ := id hI
      rw [mX2_firstOf_L2.eq_2] at hE
      refine zi_iload_n (pc := 2) F dX2_firstOf_2 2 rfl ?_
      refine zi_aload_n (pc := 3) F dX2_firstOf_3 0 rfl ?_
      refine zi_get (pc := 4) (C := RX2) (T := TX2) (N := 5) (v := .int (T 4 0)) F (hw_X2_firstOf_X2) 0 rfl rfl 4 (by decide) (List.mem_of_getElem? (i := 1) rfl) rfl rfl dX2_firstOf_4 ?_
      refine zi_icmp_ge (pc := 7) (tgt := 28) F dX2_firstOf_7 (by decide) (fun c18 => ?_) (fun c18 => ?_)
      · have hE := zite_t hE c18
        have t19 := zt_le c18
        refine zi_iconst (pc := 28) (v := (-1)) F dX2_firstOf_28 rfl ?_
        subst hE
        exact hret _ _ dX2_firstOf_29
      · have hE := zite_f hE c18
        have t20 := zt_nle c18
        refine zi_aload_n (pc := 10) F dX2_firstOf_10 0 rfl ?_
        refine zi_get (pc := 11) (C := RX2) (T := TX2) (N := 5) (v := .ref (G.2.2 1 1)) F (hw_X2_firstOf_X2) 0 rfl rfl 0 (by decide) (List.mem_of_getElem? (i := 2) rfl) rfl rfl dX2_firstOf_11 ?_
        refine zi_iload_n (pc := 14) F dX2_firstOf_14 2 rfl ?_
        refine zi_iald (pc := 15) (v := (T 0 k2_11.toNatClampNeg)) F 1 0 rfl rfl (zin (a := k2_11) (by omega) (by omega)) rfl dX2_firstOf_15 ?_
        refine zi_iload_n (pc := 16) F dX2_firstOf_16 1 rfl ?_
        refine zi_icmp_ne (pc := 17) (tgt := 22) F dX2_firstOf_17 (by decide) (fun c21 => ?_) (fun c21 => ?_)
        · have hE := zite_f hE c21
          have t22 := zt_ne c21
          try have t25 := zt_add (a := k2_11) (b := 1) (by omega) (by omega)
          obtain ⟨y23, e24⟩ : ∃ z : Int32, (k2_11 + 1) = z := ⟨_, rfl⟩
          have hE := zbnd_cut hE e24
          have t26 := congrArg Int32.toInt e24
          refine zi_iinc (pc := 22) (lv' := [(0, .ref (G.2.2 1 0)), (1, .int card), (2, .int y23)]) F dX2_firstOf_22 2 rfl e24 (by decide) rfl ?_
          refine zi_goto (pc := 25) (tgt := 2) F dX2_firstOf_25 (by decide) ?_
          refine zi_sub [0, 1, 2] rfl ?_
          exact ih y23 (⟨by (show 0 ≤ Int32.toInt y23; omega), by (show Int32.toInt y23 ≤ 10; omega)⟩) (by omega) hE
        · have hE := zite_t hE c21
          have t27 := congrArg Int32.toInt c21
          refine zi_iload_n (pc := 20) F dX2_firstOf_20 2 rfl ?_
          subst hE
          exact hret _ _ dX2_firstOf_21
  exact hL2 11 0 (⟨by (show 0 ≤ Int32.toInt 0; omega), by (show Int32.toInt 0 ≤ 10; omega)⟩) (by omega) hE
end
section
/-! X0_has -/
def mX0_has (place : Int32) (E : zS_t) : Int32 := if place < 0 then 0 else (if (E 5 0) ≤ place then 0 else 1)
set_option maxHeartbeats 4000000 in
set_option maxRecDepth 100000 in
theorem pp_X0_has (place : Int32) (E : zS_t)  : ((mX0_has place E) = 0 ∨ (mX0_has place E) = 1) ∧ (Int32.toInt (mX0_has place E) = 0 ∨ (0 ≤ Int32.toInt place ∧ Int32.toInt place < Int32.toInt (E 5 0))) := by
  obtain ⟨X, hE⟩ : ∃ z, mX0_has place E = z := ⟨_, rfl⟩
  rw [hE]
  have k_0 : Int32.toInt 0 = 0 := by decide
  have k_1 : Int32.toInt 1 = 1 := by decide
  unfold mX0_has at hE
  by_cases c1 : place < 0
  · have hE := zite_t hE c1
    have t2 := zt_lt c1
    subst hE
    exact ⟨Or.inl rfl, (by first | omega | (show Int32.toInt 0 = 0 ∨ (0 ≤ Int32.toInt place ∧ Int32.toInt place < Int32.toInt (E 5 0)); omega) | (show Int32.toInt 0 = 0 ∨ (0 ≤ Int32.toInt place ∧ Int32.toInt place < Int32.toInt (E 5 0)); simp))⟩
  · have hE := zite_f hE c1
    have t3 := zt_nlt c1
    by_cases c4 : (E 5 0) ≤ place
    · have hE := zite_t hE c4
      have t5 := zt_le c4
      subst hE
      exact ⟨Or.inl rfl, (by first | omega | (show Int32.toInt 0 = 0 ∨ (0 ≤ Int32.toInt place ∧ Int32.toInt place < Int32.toInt (E 5 0)); omega) | (show Int32.toInt 0 = 0 ∨ (0 ≤ Int32.toInt place ∧ Int32.toInt place < Int32.toInt (E 5 0)); simp))⟩
    · have hE := zite_f hE c4
      have t6 := zt_nle c4
      subst hE
      exact ⟨Or.inr rfl, (by first | omega | (show Int32.toInt 1 = 0 ∨ (0 ≤ Int32.toInt place ∧ Int32.toInt place < Int32.toInt (E 5 0)); omega) | (show Int32.toInt 1 = 0 ∨ (0 ≤ Int32.toInt place ∧ Int32.toInt place < Int32.toInt (E 5 0)); simp))⟩
theorem hw_X0_has_X0 : ∀ w ∈ wsX00, w ∈ wsX0_has := fun w h => List.mem_cons_of_mem _ (List.mem_append_right _ (h))
abbrev rmX0_has : Room := { frames := 0, cells := 0, slots := 0, locals := 0 }
theorem hd_X0_has : yX0_has.cls = RX0 ∧ yX0_has.cls ≠ "java/lang/invoke/MethodHandle" ∧ yX0_has.cls ≠ "java/lang/invoke/VarHandle" ∧ (parseMethodDescriptor yX0_has.desc).map (fun d => d.parameters.length) = some 1 := by decide +kernel
set_option maxHeartbeats 4000000 in
set_option maxRecDepth 100000 in
theorem c_X0_has (l : Launch) (G : zG_t) (place : Int32) (E : zS_t)  : zCI l G.1 (zty G) yX0_has wsX0_has rmX0_has [.ref (G.2.2 2 0), .int place] (zWE G E) ((mX0_has place E)) (zWE G E) := by
  obtain ⟨X, hE⟩ : ∃ z, mX0_has place E = z := ⟨_, rfl⟩
  rw [hE]
  refine zb_Z (cc := cX0_has) (maxL := 2) (by decide) rfl (Nat.le_of_ble_eq_true rfl) ?_
  intro p e s m args below meth c Q A F hret
  show zW p l e rmX0_has s m args below meth c 0 0 Q G.1 A 2 (zWE G E) [(0, .ref (G.2.2 2 0)), (1, .int place)] 0 []
  have k_0 : Int32.toInt 0 = 0 := by decide
  have k_1 : Int32.toInt 1 = 1 := by decide
  unfold mX0_has at hE
  refine zi_iload_n (pc := 0) F dX0_has_0 1 rfl ?_
  refine zi_if_lt (pc := 1) (tgt := 16) F dX0_has_1 (by decide) (fun c1 => ?_) (fun c1 => ?_)
  · have hE := zite_t hE c1
    have t2 := zt_lt c1
    refine zi_iconst (pc := 16) (v := 0) F dX0_has_16 rfl ?_
    subst hE
    exact hret _ _ dX0_has_17 (znb (Or.inl rfl))
  · have hE := zite_f hE c1
    have t3 := zt_nlt c1
    refine zi_iload_n (pc := 4) F dX0_has_4 1 rfl ?_
    refine zi_aload_n (pc := 5) F dX0_has_5 0 rfl ?_
    refine zi_get (pc := 6) (C := RX0) (T := TX0) (N := 6) (v := .int (E 5 0)) F (hw_X0_has_X0) 0 rfl rfl 5 (by decide) (List.mem_of_getElem? (i := 1) rfl) rfl rfl dX0_has_6 ?_
    refine zi_icmp_ge (pc := 9) (tgt := 16) F dX0_has_9 (by decide) (fun c4 => ?_) (fun c4 => ?_)
    · have hE := zite_t hE c4
      have t5 := zt_le c4
      refine zi_iconst (pc := 16) (v := 0) F dX0_has_16 rfl ?_
      subst hE
      exact hret _ _ dX0_has_17 (znb (Or.inl rfl))
    · have hE := zite_f hE c4
      have t6 := zt_nle c4
      refine zi_iconst (pc := 12) (v := 1) F dX0_has_12 rfl ?_
      refine zi_goto (pc := 13) (tgt := 17) F dX0_has_13 (by decide) ?_
      subst hE
      exact hret _ _ dX0_has_17 (znb (Or.inr rfl))
/-! X0_indexOf -/
def mX0_indexOf (place : Int32) (E : zS_t) : Int32 := zbnd (mX0_has place E) (fun r1 => if r1 = 0 then (-1) else (((E 5 0) - 1) - place))
set_option maxHeartbeats 4000000 in
set_option maxRecDepth 100000 in
theorem pp_X0_indexOf (place : Int32) (E : zS_t) (hIE : zIE E) : (-1 ≤ Int32.toInt (mX0_indexOf place E) ∧ (Int32.toInt (mX0_indexOf place E) < Int32.toInt (E 5 0) ∨ Int32.toInt (mX0_indexOf place E) = -1)) := by
  obtain ⟨X, hE⟩ : ∃ z, mX0_indexOf place E = z := ⟨_, rfl⟩
  rw [hE]
  have k_m1 : Int32.toInt (-1) = -1 := by decide
  have k_0 : Int32.toInt 0 = 0 := by decide
  have k_1 : Int32.toInt 1 = 1 := by decide
  obtain ⟨⟨i11, i12⟩, hIE_b1⟩ := id hIE
  unfold mX0_indexOf at hE
  have pp4 := pp_X0_has place E 
  obtain ⟨r1, e2⟩ : ∃ z, mX0_has place E = z := ⟨_, rfl⟩
  have hE := zbnd_cut hE e2
  rw [e2] at pp4
  obtain ⟨hbr1, q5⟩ := pp4
  by_cases c6 : r1 = 0
  · have hE := zite_t hE c6
    have t7 := congrArg Int32.toInt c6
    subst hE
    exact (by first | omega | (show -1 ≤ Int32.toInt (-1) ∧ (Int32.toInt (-1) < Int32.toInt (E 5 0) ∨ Int32.toInt (-1) = -1); omega) | (show -1 ≤ Int32.toInt (-1) ∧ (Int32.toInt (-1) < Int32.toInt (E 5 0) ∨ Int32.toInt (-1) = -1); simp))
  · have hE := zite_f hE c6
    have t8 := zt_ne c6
    subst hE
    try have t9 := zt_sub (a := (E 5 0)) (b := 1) (by omega) (by omega)
    try have t10 := zt_sub (a := ((E 5 0) - 1)) (b := place) (by omega) (by omega)
    exact (by first | omega | (show -1 ≤ Int32.toInt (((E 5 0) - 1) - place) ∧ (Int32.toInt (((E 5 0) - 1) - place) < Int32.toInt (E 5 0) ∨ Int32.toInt (((E 5 0) - 1) - place) = -1); omega) | (show -1 ≤ Int32.toInt (((E 5 0) - 1) - place) ∧ (Int32.toInt (((E 5 0) - 1) - place) < Int32.toInt (E 5 0) ∨ Int32.toInt (((E 5 0) - 1) - place) = -1); simp))
theorem hw_X0_indexOf_X0 : ∀ w ∈ wsX00, w ∈ wsX0_indexOf := fun w h => List.mem_cons_of_mem _ (List.mem_append_right _ (h))
abbrev rmX0_indexOf : Room := { frames := 1, cells := 0, slots := 0, locals := 21 }
theorem hd_X0_indexOf : yX0_indexOf.cls = RX0 ∧ yX0_indexOf.cls ≠ "java/lang/invoke/MethodHandle" ∧ yX0_indexOf.cls ≠ "java/lang/invoke/VarHandle" ∧ (parseMethodDescriptor yX0_indexOf.desc).map (fun d => d.parameters.length) = some 1 := by decide +kernel
set_option maxHeartbeats 4000000 in
set_option maxRecDepth 100000 in
theorem c_X0_indexOf (l : Launch) (G : zG_t) (place : Int32) (E : zS_t) (hIE : zIE E) : zCI l G.1 (zty G) yX0_indexOf wsX0_indexOf rmX0_indexOf [.ref (G.2.2 2 0), .int place] (zWE G E) ((mX0_indexOf place E)) (zWE G E) := by
  obtain ⟨X, hE⟩ : ∃ z, mX0_indexOf place E = z := ⟨_, rfl⟩
  rw [hE]
  refine zb_I (cc := cX0_indexOf) (maxL := 2) (by decide) rfl (Nat.le_of_ble_eq_true rfl) ?_
  intro p e s m args below meth c Q A F hret
  show zW p l e rmX0_indexOf s m args below meth c 0 0 Q G.1 A 2 (zWE G E) [(0, .ref (G.2.2 2 0)), (1, .int place)] 0 []
  have k_m1 : Int32.toInt (-1) = -1 := by decide
  have k_0 : Int32.toInt 0 = 0 := by decide
  have k_1 : Int32.toInt 1 = 1 := by decide
  obtain ⟨⟨i13, i14⟩, hIE_b1⟩ := id hIE
  unfold mX0_indexOf at hE
  refine zi_aload_n (pc := 0) F dX0_indexOf_0 0 rfl ?_
  refine zi_iload_n (pc := 1) F dX0_indexOf_1 1 rfl ?_
  have hM3 := c_X0_has l G place E 
  have pp4 := pp_X0_has place E 
  obtain ⟨r1, e2⟩ : ∃ z, mX0_has place E = z := ⟨_, rfl⟩
  have hE := zbnd_cut hE e2
  rw [e2] at hM3
  rw [e2] at pp4
  obtain ⟨hbr1, q5⟩ := pp4
  refine zi_callVI (pc := 2) (rest := []) (ws' := zWE G E) F hM3 (cwV 1 F.1.2.2.2.2 gX0_indexOf_X0_has rfl rfl rfl hd_X0_has ⟨Nat.le_of_ble_eq_true rfl, Nat.le_of_ble_eq_true rfl⟩) 0 rfl rfl _ _ (zw_nil _) (zw_nil _).symm rfl rfl (Nat.le_of_ble_eq_true rfl) dX0_indexOf_2 ⟨Nat.zero_le _, Nat.zero_le _⟩ ?_
  refine zi_if_eq (pc := 5) (tgt := 19) F dX0_indexOf_5 (by decide) (fun c6 => ?_) (fun c6 => ?_)
  · have hE := zite_t hE c6
    have t7 := congrArg Int32.toInt c6
    refine zi_iconst (pc := 19) (v := (-1)) F dX0_indexOf_19 rfl ?_
    subst hE
    exact hret _ _ dX0_indexOf_20
  · have hE := zite_f hE c6
    have t8 := zt_ne c6
    refine zi_aload_n (pc := 8) F dX0_indexOf_8 0 rfl ?_
    refine zi_get (pc := 9) (C := RX0) (T := TX0) (N := 6) (v := .int (E 5 0)) F (hw_X0_indexOf_X0) 0 rfl rfl 5 (by decide) (List.mem_of_getElem? (i := 1) rfl) rfl rfl dX0_indexOf_9 ?_
    refine zi_iconst (pc := 12) (v := 1) F dX0_indexOf_12 rfl ?_
    refine zi_isub (pc := 13) F dX0_indexOf_13 ?_
    refine zi_iload_n (pc := 14) F dX0_indexOf_14 1 rfl ?_
    refine zi_isub (pc := 15) F dX0_indexOf_15 ?_
    refine zi_goto (pc := 16) (tgt := 20) F dX0_indexOf_16 (by decide) ?_
    subst hE
    exact hret _ _ dX0_indexOf_20
/-! X0_push -/
def mX0_push (card : Int32) (trigger : Int32) (player : Int32) (target : Int32) (idn : Int32) (E : zS_t) : zS_t := if (E 5 0) < 12 then (zsI (zsF (zsF (zsF (zsF (zsF E 0 (upd (E 0) (E 5 0).toNatClampNeg card)) 1 (upd (E 1) (E 5 0).toNatClampNeg (vp_nar .boolean trigger))) 2 (upd (E 2) (E 5 0).toNatClampNeg player)) 3 (upd (E 3) (E 5 0).toNatClampNeg target)) 4 (upd (E 4) (E 5 0).toNatClampNeg idn)) 5 ((E 5 0) + 1)) else E
set_option maxHeartbeats 4000000 in
set_option maxRecDepth 100000 in
theorem pp_X0_push (card : Int32) (trigger : Int32) (player : Int32) (target : Int32) (idn : Int32) (E : zS_t) (hIE : zIE E) : (zIE (mX0_push card trigger player target idn E)) := by
  obtain ⟨X, hE⟩ : ∃ z, mX0_push card trigger player target idn E = z := ⟨_, rfl⟩
  rw [hE]
  have k_0 : Int32.toInt 0 = 0 := by decide
  have k_1 : Int32.toInt 1 = 1 := by decide
  have k_12 : Int32.toInt 12 = 12 := by decide
  obtain ⟨⟨i5, i6⟩, hIE_b1⟩ := id hIE
  unfold mX0_push at hE
  by_cases c1 : (E 5 0) < 12
  · have hE := zite_t hE c1
    have t2 := zt_lt c1
    subst hE
    try have t3 := zt_add (a := (E 5 0)) (b := 1) (by omega) (by omega)
    exact ⟨⟨by (show (0:Int) ≤ Int32.toInt ((E 5 0) + 1)); omega, by (show Int32.toInt ((E 5 0) + 1) ≤ (12:Int)); omega⟩, (zib_upd hIE_b1 (znar_idem _))⟩
  · have hE := zite_f hE c1
    have t4 := zt_nlt c1
    subst hE
    exact hIE
theorem hw_X0_push_X0 : ∀ w ∈ wsX00, w ∈ wsX0_push := fun w h => List.mem_cons_of_mem _ (List.mem_append_right _ (h))
abbrev rmX0_push : Room := { frames := 0, cells := 0, slots := 0, locals := 0 }
theorem hd_X0_push : yX0_push.cls = RX0 ∧ yX0_push.cls ≠ "java/lang/invoke/MethodHandle" ∧ yX0_push.cls ≠ "java/lang/invoke/VarHandle" ∧ (parseMethodDescriptor yX0_push.desc).map (fun d => d.parameters.length) = some 5 := by decide +kernel
set_option maxHeartbeats 4000000 in
set_option maxRecDepth 100000 in
theorem c_X0_push (l : Launch) (G : zG_t) (card : Int32) (trigger : Int32) (player : Int32) (target : Int32) (idn : Int32) (E : zS_t) (hIE : zIE E) : zCV l G.1 (zty G) yX0_push wsX0_push rmX0_push [.ref (G.2.2 2 0), .int card, .int trigger, .int player, .int target, .int idn] (zWE G E) (zWE G (mX0_push card trigger player target idn E)) := by
  obtain ⟨X, hE⟩ : ∃ z, mX0_push card trigger player target idn E = z := ⟨_, rfl⟩
  rw [hE]
  refine zb_V (cc := cX0_push) (maxL := 6) (by decide) rfl (Nat.le_of_ble_eq_true rfl) ?_
  intro p e s m args below meth c Q A F hret
  show zW p l e rmX0_push s m args below meth c 0 0 Q G.1 A 6 (zWE G E) [(0, .ref (G.2.2 2 0)), (1, .int card), (2, .int trigger), (3, .int player), (4, .int target), (5, .int idn)] 0 []
  have k_0 : Int32.toInt 0 = 0 := by decide
  have k_1 : Int32.toInt 1 = 1 := by decide
  have k_12 : Int32.toInt 12 = 12 := by decide
  obtain ⟨⟨i7, i8⟩, hIE_b1⟩ := id hIE
  unfold mX0_push at hE
  refine zi_aload_n (pc := 0) F dX0_push_0 0 rfl ?_
  refine zi_get (pc := 1) (C := RX0) (T := TX0) (N := 6) (v := .int (E 5 0)) F (hw_X0_push_X0) 0 rfl rfl 5 (by decide) (List.mem_of_getElem? (i := 1) rfl) rfl rfl dX0_push_1 ?_
  refine zi_bipush (pc := 4) (v := 12) F dX0_push_4 rfl ?_
  refine zi_icmp_lt (pc := 6) (tgt := 10) F dX0_push_6 (by decide) (fun c1 => ?_) (fun c1 => ?_)
  · have hE := zite_t hE c1
    have t2 := zt_lt c1
    refine zi_aload_n (pc := 10) F dX0_push_10 0 rfl ?_
    refine zi_get (pc := 11) (C := RX0) (T := TX0) (N := 6) (v := .ref (G.2.2 2 1)) F (hw_X0_push_X0) 0 rfl rfl 0 (by decide) (List.mem_of_getElem? (i := 2) rfl) rfl rfl dX0_push_11 ?_
    refine zi_aload_n (pc := 14) F dX0_push_14 0 rfl ?_
    refine zi_get (pc := 15) (C := RX0) (T := TX0) (N := 6) (v := .int (E 5 0)) F (hw_X0_push_X0) 0 rfl rfl 5 (by decide) (List.mem_of_getElem? (i := 1) rfl) rfl rfl dX0_push_15 ?_
    refine zi_iload_n (pc := 18) F dX0_push_18 1 rfl ?_
    refine zi_iast (pc := 19) (ws' := zWE G (zsF E 0 (upd (E 0) (E 5 0).toNatClampNeg card))) F 1 0 rfl rfl (zin (a := (E 5 0)) (by omega) (by omega)) rfl dX0_push_19 ?_
    refine zi_aload_n (pc := 20) F dX0_push_20 0 rfl ?_
    refine zi_get (pc := 21) (C := RX0) (T := TX0) (N := 6) (v := .ref (G.2.2 2 2)) F (hw_X0_push_X0) 0 rfl rfl 1 (by decide) (List.mem_of_getElem? (i := 3) rfl) rfl rfl dX0_push_21 ?_
    refine zi_aload_n (pc := 24) F dX0_push_24 0 rfl ?_
    refine zi_get (pc := 25) (C := RX0) (T := TX0) (N := 6) (v := .int (E 5 0)) F (hw_X0_push_X0) 0 rfl rfl 5 (by decide) (List.mem_of_getElem? (i := 1) rfl) rfl rfl dX0_push_25 ?_
    refine zi_iload_n (pc := 28) F dX0_push_28 2 rfl ?_
    refine zi_zast (pc := 29) (ws' := zWE G (zsF (zsF E 0 (upd (E 0) (E 5 0).toNatClampNeg card)) 1 (upd (E 1) (E 5 0).toNatClampNeg (vp_nar .boolean trigger)))) F 2 1 rfl rfl (zin (a := (E 5 0)) (by omega) (by omega)) rfl dX0_push_29 ?_
    refine zi_aload_n (pc := 30) F dX0_push_30 0 rfl ?_
    refine zi_get (pc := 31) (C := RX0) (T := TX0) (N := 6) (v := .ref (G.2.2 2 3)) F (hw_X0_push_X0) 0 rfl rfl 2 (by decide) (List.mem_of_getElem? (i := 4) rfl) rfl rfl dX0_push_31 ?_
    refine zi_aload_n (pc := 34) F dX0_push_34 0 rfl ?_
    refine zi_get (pc := 35) (C := RX0) (T := TX0) (N := 6) (v := .int (E 5 0)) F (hw_X0_push_X0) 0 rfl rfl 5 (by decide) (List.mem_of_getElem? (i := 1) rfl) rfl rfl dX0_push_35 ?_
    refine zi_iload_n (pc := 38) F dX0_push_38 3 rfl ?_
    refine zi_iast (pc := 39) (ws' := zWE G (zsF (zsF (zsF E 0 (upd (E 0) (E 5 0).toNatClampNeg card)) 1 (upd (E 1) (E 5 0).toNatClampNeg (vp_nar .boolean trigger))) 2 (upd (E 2) (E 5 0).toNatClampNeg player))) F 3 0 rfl rfl (zin (a := (E 5 0)) (by omega) (by omega)) rfl dX0_push_39 ?_
    refine zi_aload_n (pc := 40) F dX0_push_40 0 rfl ?_
    refine zi_get (pc := 41) (C := RX0) (T := TX0) (N := 6) (v := .ref (G.2.2 2 4)) F (hw_X0_push_X0) 0 rfl rfl 3 (by decide) (List.mem_of_getElem? (i := 5) rfl) rfl rfl dX0_push_41 ?_
    refine zi_aload_n (pc := 44) F dX0_push_44 0 rfl ?_
    refine zi_get (pc := 45) (C := RX0) (T := TX0) (N := 6) (v := .int (E 5 0)) F (hw_X0_push_X0) 0 rfl rfl 5 (by decide) (List.mem_of_getElem? (i := 1) rfl) rfl rfl dX0_push_45 ?_
    refine zi_iload (pc := 48) F dX0_push_48 4 rfl ?_
    refine zi_iast (pc := 50) (ws' := zWE G (zsF (zsF (zsF (zsF E 0 (upd (E 0) (E 5 0).toNatClampNeg card)) 1 (upd (E 1) (E 5 0).toNatClampNeg (vp_nar .boolean trigger))) 2 (upd (E 2) (E 5 0).toNatClampNeg player)) 3 (upd (E 3) (E 5 0).toNatClampNeg target))) F 4 0 rfl rfl (zin (a := (E 5 0)) (by omega) (by omega)) rfl dX0_push_50 ?_
    refine zi_aload_n (pc := 51) F dX0_push_51 0 rfl ?_
    refine zi_get (pc := 52) (C := RX0) (T := TX0) (N := 6) (v := .ref (G.2.2 2 5)) F (hw_X0_push_X0) 0 rfl rfl 4 (by decide) (List.mem_of_getElem? (i := 6) rfl) rfl rfl dX0_push_52 ?_
    refine zi_aload_n (pc := 55) F dX0_push_55 0 rfl ?_
    refine zi_get (pc := 56) (C := RX0) (T := TX0) (N := 6) (v := .int (E 5 0)) F (hw_X0_push_X0) 0 rfl rfl 5 (by decide) (List.mem_of_getElem? (i := 1) rfl) rfl rfl dX0_push_56 ?_
    refine zi_iload (pc := 59) F dX0_push_59 5 rfl ?_
    refine zi_iast (pc := 61) (ws' := zWE G (zsF (zsF (zsF (zsF (zsF E 0 (upd (E 0) (E 5 0).toNatClampNeg card)) 1 (upd (E 1) (E 5 0).toNatClampNeg (vp_nar .boolean trigger))) 2 (upd (E 2) (E 5 0).toNatClampNeg player)) 3 (upd (E 3) (E 5 0).toNatClampNeg target)) 4 (upd (E 4) (E 5 0).toNatClampNeg idn))) F 5 0 rfl rfl (zin (a := (E 5 0)) (by omega) (by omega)) rfl dX0_push_61 ?_
    refine zi_aload_n (pc := 62) F dX0_push_62 0 rfl ?_
    refine zi_dup (pc := 63) F dX0_push_63 rfl ?_
    refine zi_get (pc := 64) (C := RX0) (T := TX0) (N := 6) (v := .int (E 5 0)) F (hw_X0_push_X0) 0 rfl rfl 5 (by decide) (List.mem_of_getElem? (i := 1) rfl) rfl rfl dX0_push_64 ?_
    refine zi_iconst (pc := 67) (v := 1) F dX0_push_67 rfl ?_
    refine zi_iadd (pc := 68) F dX0_push_68 ?_
    refine zi_put (pc := 69) (C := RX0) (T := TX0) (N := 6) (ty := .int) (ws' := zWE G (zsI (zsF (zsF (zsF (zsF (zsF E 0 (upd (E 0) (E 5 0).toNatClampNeg card)) 1 (upd (E 1) (E 5 0).toNatClampNeg (vp_nar .boolean trigger))) 2 (upd (E 2) (E 5 0).toNatClampNeg player)) 3 (upd (E 3) (E 5 0).toNatClampNeg target)) 4 (upd (E 4) (E 5 0).toNatClampNeg idn)) 5 ((E 5 0) + 1))) F (hw_X0_push_X0) tyX0 tyX0_ok nmX0 0 rfl rfl 5 (by decide) (List.mem_of_getElem? (i := 1) rfl) rfl rfl rfl rfl rfl (Nat.le_of_ble_eq_true rfl) rfl dX0_push_69 ?_
    subst hE
    exact hret _ _ dX0_push_72
  · have hE := zite_f hE c1
    have t3 := zt_nlt c1
    subst hE
    exact hret _ _ dX0_push_9
/-! X0_remove -/
def mX0_remove_L25  : Nat → Int32 → zS_t → Int32 × zS_t
  | 0, k2_24, E25 => (k2_24, E25)
  | n26 + 1, k2_24, E25 => if (E25 5 0) ≤ k2_24 then (k2_24, E25) else (zbnd ((k2_24 + 1)) (fun y46 => mX0_remove_L25  n26 y46 (zsF (zsF (zsF (zsF (zsF E25 0 (upd (E25 0) k2_24.toNatClampNeg (E25 0 (k2_24 + 1).toNatClampNeg))) 1 (upd (E25 1) k2_24.toNatClampNeg (vp_nar .boolean (E25 1 (k2_24 + 1).toNatClampNeg)))) 2 (upd (E25 2) k2_24.toNatClampNeg (E25 2 (k2_24 + 1).toNatClampNeg))) 3 (upd (E25 3) k2_24.toNatClampNeg (E25 3 (k2_24 + 1).toNatClampNeg))) 4 (upd (E25 4) k2_24.toNatClampNeg (E25 4 (k2_24 + 1).toNatClampNeg)))))
def mX0_remove (index : Int32) (E : zS_t) : zS_t := if index < 0 then E else (if index < (E 5 0) then (zbnd ((zsI E 5 ((E 5 0) - 1))) (fun E6 => zbnd2 (mX0_remove_L25  13 index E6) (fun k2_50 E51 => E51))) else E)
set_option maxHeartbeats 4000000 in
set_option maxRecDepth 100000 in
theorem pp_X0_remove (index : Int32) (E : zS_t) (hIE : zIE E) : (zIE (mX0_remove index E)) := by
  obtain ⟨X, hE⟩ : ∃ z, mX0_remove index E = z := ⟨_, rfl⟩
  rw [hE]
  have k_0 : Int32.toInt 0 = 0 := by decide
  have k_1 : Int32.toInt 1 = 1 := by decide
  obtain ⟨⟨i60, i61⟩, hIE_b1⟩ := id hIE
  unfold mX0_remove at hE
  by_cases c1 : index < 0
  · have hE := zite_t hE c1
    have t2 := zt_lt c1
    subst hE
    exact hIE
  · have hE := zite_f hE c1
    have t3 := zt_nlt c1
    by_cases c4 : index < (E 5 0)
    · have hE := zite_t hE c4
      have t5 := zt_lt c4
      try have t8 := zt_sub (a := (E 5 0)) (b := 1) (by omega) (by omega)
      have hIE6 : zIE (zsI E 5 ((E 5 0) - 1)) := ⟨⟨by (show (0:Int) ≤ Int32.toInt ((E 5 0) - 1)); omega, by (show Int32.toInt ((E 5 0) - 1) ≤ (12:Int)); omega⟩, hIE_b1⟩
      obtain ⟨E6, e7⟩ : ∃ z, (zsI E 5 ((E 5 0) - 1)) = z := ⟨_, rfl⟩
      have hE := zbnd_cut hE e7
      have t9 : Int32.toInt (E6 5 0) = Int32.toInt ((E 5 0) - 1) := by rw [← e7]; rfl
      rw [e7] at hIE6
      obtain ⟨⟨i10, i11⟩, hIE6_b1⟩ := id hIE6
      have hL25 : ∀ (n26 : Nat) (k2_24 : Int32) (E25 : zS_t), (0 ≤ Int32.toInt k2_24) ∧ (Int32.toInt k2_24 ≤ 12) ∧ (Int32.toInt (E25 5 0) ≤ 11) ∧ (zIE E25) → 13 - Int32.toInt k2_24 ≤ (n26 : Int) → ∀ Y27, mX0_remove_L25  n26 k2_24 E25 = Y27 → (0 ≤ Int32.toInt Y27.1) ∧ (Int32.toInt Y27.1 ≤ 12) ∧ (Int32.toInt ((Y27.2) 5 0) ≤ 11) ∧ (zIE (Y27.2)) := by
        intro n26
        induction n26 with
        | zero =>
          intro k2_24 E25 hI hM9
          obtain ⟨i28, i29, i30, hIE25⟩ := id hI
          obtain ⟨⟨i31, i32⟩, hIE25_b1⟩ := id hIE25
          exact absurd hM9 (by omega)
        | succ n26 ih =>
          intro k2_24 E25 hI hM9 Y27 hE
          obtain ⟨i33, i34, i35, hIE25⟩ := id hI
          obtain ⟨⟨i36, i37⟩, hIE25_b1⟩ := id hIE25
          rw [mX0_remove_L25.eq_2] at hE
          by_cases c38 : (E25 5 0) ≤ k2_24
          · have hE := zite_t hE c38
            have t39 := zt_le c38
            subst hE
            exact ⟨by (show 0 ≤ Int32.toInt k2_24; omega), by (show Int32.toInt k2_24 ≤ 12; omega), by (show Int32.toInt (E25 5 0) ≤ 11; omega), hIE25⟩
          · have hE := zite_f hE c38
            have t40 := zt_nle c38
            try have t41 := zt_add (a := k2_24) (b := 1) (by omega) (by omega)
            try have t42 := zt_add (a := k2_24) (b := 1) (by omega) (by omega)
            try have t43 := zt_add (a := k2_24) (b := 1) (by omega) (by omega)
            try have t44 := zt_add (a := k2_24) (b := 1) (by omega) (by omega)
            try have t45 := zt_add (a := k2_24) (b := 1) (by omega) (by omega)
            try have t48 := zt_add (a := k2_24) (b := 1) (by omega) (by omega)
            obtain ⟨y46, e47⟩ : ∃ z : Int32, (k2_24 + 1) = z := ⟨_, rfl⟩
            have hE := zbnd_cut hE e47
            have t49 := congrArg Int32.toInt e47
            exact ih y46 (zsF (zsF (zsF (zsF (zsF E25 0 (upd (E25 0) k2_24.toNatClampNeg (E25 0 (k2_24 + 1).toNatClampNeg))) 1 (upd (E25 1) k2_24.toNatClampNeg (vp_nar .boolean (E25 1 (k2_24 + 1).toNatClampNeg)))) 2 (upd (E25 2) k2_24.toNatClampNeg (E25 2 (k2_24 + 1).toNatClampNeg))) 3 (upd (E25 3) k2_24.toNatClampNeg (E25 3 (k2_24 + 1).toNatClampNeg))) 4 (upd (E25 4) k2_24.toNatClampNeg (E25 4 (k2_24 + 1).toNatClampNeg))) (⟨by (show 0 ≤ Int32.toInt y46; omega), by (show Int32.toInt y46 ≤ 12; omega), by (show Int32.toInt (E25 5 0) ≤ 11; omega), ⟨⟨by (show (0:Int) ≤ Int32.toInt (E25 5 0)); omega, by (show Int32.toInt (E25 5 0) ≤ (12:Int)); omega⟩, (zib_upd hIE25_b1 (znar_idem _))⟩⟩) (by omega) _ hE
      obtain ⟨⟨k2_50, E51⟩, e52⟩ : ∃ z, mX0_remove_L25  13 index E6 = z := ⟨_, rfl⟩
      have hE := zbnd2_cut hE e52
      have hI53 := hL25 13 index E6 (⟨by (show 0 ≤ Int32.toInt index; omega), by (show Int32.toInt index ≤ 12; omega), by (show Int32.toInt (E6 5 0) ≤ 11; omega), hIE6⟩) (by omega) _ e52
      have hI53 : (0 ≤ Int32.toInt k2_50) ∧ (Int32.toInt k2_50 ≤ 12) ∧ (Int32.toInt (E51 5 0) ≤ 11) ∧ (zIE E51) := hI53
      obtain ⟨i54, i55, i56, hIE51⟩ := id hI53
      obtain ⟨⟨i57, i58⟩, hIE51_b1⟩ := id hIE51
      subst hE
      exact hIE51
    · have hE := zite_f hE c4
      have t59 := zt_nlt c4
      subst hE
      exact hIE
theorem hw_X0_remove_X0 : ∀ w ∈ wsX00, w ∈ wsX0_remove := fun w h => List.mem_cons_of_mem _ (List.mem_append_right _ (h))
abbrev rmX0_remove : Room := { frames := 0, cells := 0, slots := 0, locals := 0 }
theorem hd_X0_remove : yX0_remove.cls = RX0 ∧ yX0_remove.cls ≠ "java/lang/invoke/MethodHandle" ∧ yX0_remove.cls ≠ "java/lang/invoke/VarHandle" ∧ (parseMethodDescriptor yX0_remove.desc).map (fun d => d.parameters.length) = some 1 := by decide +kernel
set_option maxHeartbeats 4000000 in
set_option maxRecDepth 100000 in
theorem c_X0_remove (l : Launch) (G : zG_t) (index : Int32) (E : zS_t) (hIE : zIE E) : zCV l G.1 (zty G) yX0_remove wsX0_remove rmX0_remove [.ref (G.2.2 2 0), .int index] (zWE G E) (zWE G (mX0_remove index E)) := by
  obtain ⟨X, hE⟩ : ∃ z, mX0_remove index E = z := ⟨_, rfl⟩
  rw [hE]
  refine zb_V (cc := cX0_remove) (maxL := 3) (by decide) rfl (Nat.le_of_ble_eq_true rfl) ?_
  intro p e s m args below meth c Q A F hret
  show zW p l e rmX0_remove s m args below meth c 0 0 Q G.1 A 3 (zWE G E) [(0, .ref (G.2.2 2 0)), (1, .int index)] 0 []
  have k_0 : Int32.toInt 0 = 0 := by decide
  have k_1 : Int32.toInt 1 = 1 := by decide
  obtain ⟨⟨i62, i63⟩, hIE_b1⟩ := id hIE
  unfold mX0_remove at hE
  refine zi_iload_n (pc := 0) F dX0_remove_0 1 rfl ?_
  refine zi_if_lt (pc := 1) (tgt := 12) F dX0_remove_1 (by decide) (fun c1 => ?_) (fun c1 => ?_)
  · have hE := zite_t hE c1
    have t2 := zt_lt c1
    subst hE
    exact hret _ _ dX0_remove_12
  · have hE := zite_f hE c1
    have t3 := zt_nlt c1
    refine zi_iload_n (pc := 4) F dX0_remove_4 1 rfl ?_
    refine zi_aload_n (pc := 5) F dX0_remove_5 0 rfl ?_
    refine zi_get (pc := 6) (C := RX0) (T := TX0) (N := 6) (v := .int (E 5 0)) F (hw_X0_remove_X0) 0 rfl rfl 5 (by decide) (List.mem_of_getElem? (i := 1) rfl) rfl rfl dX0_remove_6 ?_
    refine zi_icmp_lt (pc := 9) (tgt := 13) F dX0_remove_9 (by decide) (fun c4 => ?_) (fun c4 => ?_)
    · have hE := zite_t hE c4
      have t5 := zt_lt c4
      refine zi_aload_n (pc := 13) F dX0_remove_13 0 rfl ?_
      refine zi_dup (pc := 14) F dX0_remove_14 rfl ?_
      refine zi_get (pc := 15) (C := RX0) (T := TX0) (N := 6) (v := .int (E 5 0)) F (hw_X0_remove_X0) 0 rfl rfl 5 (by decide) (List.mem_of_getElem? (i := 1) rfl) rfl rfl dX0_remove_15 ?_
      refine zi_iconst (pc := 18) (v := 1) F dX0_remove_18 rfl ?_
      refine zi_isub (pc := 19) F dX0_remove_19 ?_
      refine zi_put (pc := 20) (C := RX0) (T := TX0) (N := 6) (ty := .int) (ws' := zWE G (zsI E 5 ((E 5 0) - 1))) F (hw_X0_remove_X0) tyX0 tyX0_ok nmX0 0 rfl rfl 5 (by decide) (List.mem_of_getElem? (i := 1) rfl) rfl rfl rfl rfl rfl (Nat.le_of_ble_eq_true rfl) rfl dX0_remove_20 ?_
      refine zi_iload_n (pc := 23) F dX0_remove_23 1 rfl ?_
      refine zi_istore_n (pc := 24) (lv' := [(0, .ref (G.2.2 2 0)), (1, .int index), (2, .int index)]) F dX0_remove_24 (by decide) rfl ?_
      try have t8 := zt_sub (a := (E 5 0)) (b := 1) (by omega) (by omega)
      have hIE6 : zIE (zsI E 5 ((E 5 0) - 1)) := ⟨⟨by (show (0:Int) ≤ Int32.toInt ((E 5 0) - 1)); omega, by (show Int32.toInt ((E 5 0) - 1) ≤ (12:Int)); omega⟩, hIE_b1⟩
      refine zi_nameW (w := fun Z9 => zWE G Z9) (S := (zsI E 5 ((E 5 0) - 1))) (fun E6 e7 => ?_)
      have hE := zbnd_cut hE e7
      have t9 : Int32.toInt (E6 5 0) = Int32.toInt ((E 5 0) - 1) := by rw [← e7]; rfl
      rw [e7] at hIE6
      obtain ⟨⟨i10, i11⟩, hIE6_b1⟩ := id hIE6
      have hL25 : ∀ (n26 : Nat) (k2_24 : Int32) (E25 : zS_t), (0 ≤ Int32.toInt k2_24) ∧ (Int32.toInt k2_24 ≤ 12) ∧ (Int32.toInt (E25 5 0) ≤ 11) ∧ (zIE E25) → 13 - Int32.toInt k2_24 ≤ (n26 : Int) → ∀ Y27, mX0_remove_L25  n26 k2_24 E25 = Y27 → (((0 ≤ Int32.toInt Y27.1) ∧ (Int32.toInt Y27.1 ≤ 12) ∧ (Int32.toInt ((Y27.2) 5 0) ≤ 11) ∧ (zIE (Y27.2))) → zW p l e rmX0_remove s m args below meth c 0 0 Q G.1 A 3 (zWE G (Y27.2)) [(0, .ref (G.2.2 2 0)), (1, .int index), (2, .int Y27.1)] 109 []) → zW p l e rmX0_remove s m args below meth c 0 0 Q G.1 A 3 (zWE G E25) [(0, .ref (G.2.2 2 0)), (1, .int index), (2, .int k2_24)] 25 [] := by
        intro n26
        induction n26 with
        | zero =>
          intro k2_24 E25 hI hM9
          obtain ⟨i28, i29, i30, hIE25⟩ := id hI
          obtain ⟨⟨i31, i32⟩, hIE25_b1⟩ := id hIE25
          exact absurd hM9 (by omega)
        | succ n26 ih =>
          intro k2_24 E25 hI hM9 Y27 hE hK
          obtain ⟨i33, i34, i35, hIE25⟩ := id hI
          obtain ⟨⟨i36, i37⟩, hIE25_b1⟩ := id hIE25
          rw [mX0_remove_L25.eq_2] at hE
          refine zi_iload_n (pc := 25) F dX0_remove_25 2 rfl ?_
          refine zi_aload_n (pc := 26) F dX0_remove_26 0 rfl ?_
          refine zi_get (pc := 27) (C := RX0) (T := TX0) (N := 6) (v := .int (E25 5 0)) F (hw_X0_remove_X0) 0 rfl rfl 5 (by decide) (List.mem_of_getElem? (i := 1) rfl) rfl rfl dX0_remove_27 ?_
          refine zi_icmp_ge (pc := 30) (tgt := 109) F dX0_remove_30 (by decide) (fun c38 => ?_) (fun c38 => ?_)
          · have hE := zite_t hE c38
            have t39 := zt_le c38
            subst hE
            refine zi_sub [0, 1, 2] rfl ?_
            exact hK (⟨by (show 0 ≤ Int32.toInt k2_24; omega), by (show Int32.toInt k2_24 ≤ 12; omega), by (show Int32.toInt (E25 5 0) ≤ 11; omega), hIE25⟩)
          · have hE := zite_f hE c38
            have t40 := zt_nle c38
            refine zi_aload_n (pc := 33) F dX0_remove_33 0 rfl ?_
            refine zi_get (pc := 34) (C := RX0) (T := TX0) (N := 6) (v := .ref (G.2.2 2 1)) F (hw_X0_remove_X0) 0 rfl rfl 0 (by decide) (List.mem_of_getElem? (i := 2) rfl) rfl rfl dX0_remove_34 ?_
            refine zi_iload_n (pc := 37) F dX0_remove_37 2 rfl ?_
            refine zi_aload_n (pc := 38) F dX0_remove_38 0 rfl ?_
            refine zi_get (pc := 39) (C := RX0) (T := TX0) (N := 6) (v := .ref (G.2.2 2 1)) F (hw_X0_remove_X0) 0 rfl rfl 0 (by decide) (List.mem_of_getElem? (i := 2) rfl) rfl rfl dX0_remove_39 ?_
            refine zi_iload_n (pc := 42) F dX0_remove_42 2 rfl ?_
            refine zi_iconst (pc := 43) (v := 1) F dX0_remove_43 rfl ?_
            refine zi_iadd (pc := 44) F dX0_remove_44 ?_
            try have t41 := zt_add (a := k2_24) (b := 1) (by omega) (by omega)
            refine zi_iald (pc := 45) (v := (E25 0 (k2_24 + 1).toNatClampNeg)) F 1 0 rfl rfl (zin (a := (k2_24 + 1)) (by omega) (by omega)) rfl dX0_remove_45 ?_
            refine zi_iast (pc := 46) (ws' := zWE G (zsF E25 0 (upd (E25 0) k2_24.toNatClampNeg (E25 0 (k2_24 + 1).toNatClampNeg)))) F 1 0 rfl rfl (zin (a := k2_24) (by omega) (by omega)) rfl dX0_remove_46 ?_
            refine zi_aload_n (pc := 47) F dX0_remove_47 0 rfl ?_
            refine zi_get (pc := 48) (C := RX0) (T := TX0) (N := 6) (v := .ref (G.2.2 2 2)) F (hw_X0_remove_X0) 0 rfl rfl 1 (by decide) (List.mem_of_getElem? (i := 3) rfl) rfl rfl dX0_remove_48 ?_
            refine zi_iload_n (pc := 51) F dX0_remove_51 2 rfl ?_
            refine zi_aload_n (pc := 52) F dX0_remove_52 0 rfl ?_
            refine zi_get (pc := 53) (C := RX0) (T := TX0) (N := 6) (v := .ref (G.2.2 2 2)) F (hw_X0_remove_X0) 0 rfl rfl 1 (by decide) (List.mem_of_getElem? (i := 3) rfl) rfl rfl dX0_remove_53 ?_
            refine zi_iload_n (pc := 56) F dX0_remove_56 2 rfl ?_
            refine zi_iconst (pc := 57) (v := 1) F dX0_remove_57 rfl ?_
            refine zi_iadd (pc := 58) F dX0_remove_58 ?_
            try have t42 := zt_add (a := k2_24) (b := 1) (by omega) (by omega)
            refine zi_zald (pc := 59) (v := (E25 1 (k2_24 + 1).toNatClampNeg)) F 2 1 rfl rfl (zin (a := (k2_24 + 1)) (by omega) (by omega)) rfl dX0_remove_59 ?_
            refine zi_zast (pc := 60) (ws' := zWE G (zsF (zsF E25 0 (upd (E25 0) k2_24.toNatClampNeg (E25 0 (k2_24 + 1).toNatClampNeg))) 1 (upd (E25 1) k2_24.toNatClampNeg (vp_nar .boolean (E25 1 (k2_24 + 1).toNatClampNeg))))) F 2 1 rfl rfl (zin (a := k2_24) (by omega) (by omega)) rfl dX0_remove_60 ?_
            refine zi_aload_n (pc := 61) F dX0_remove_61 0 rfl ?_
            refine zi_get (pc := 62) (C := RX0) (T := TX0) (N := 6) (v := .ref (G.2.2 2 3)) F (hw_X0_remove_X0) 0 rfl rfl 2 (by decide) (List.mem_of_getElem? (i := 4) rfl) rfl rfl dX0_remove_62 ?_
            refine zi_iload_n (pc := 65) F dX0_remove_65 2 rfl ?_
            refine zi_aload_n (pc := 66) F dX0_remove_66 0 rfl ?_
            refine zi_get (pc := 67) (C := RX0) (T := TX0) (N := 6) (v := .ref (G.2.2 2 3)) F (hw_X0_remove_X0) 0 rfl rfl 2 (by decide) (List.mem_of_getElem? (i := 4) rfl) rfl rfl dX0_remove_67 ?_
            refine zi_iload_n (pc := 70) F dX0_remove_70 2 rfl ?_
            refine zi_iconst (pc := 71) (v := 1) F dX0_remove_71 rfl ?_
            refine zi_iadd (pc := 72) F dX0_remove_72 ?_
            try have t43 := zt_add (a := k2_24) (b := 1) (by omega) (by omega)
            refine zi_iald (pc := 73) (v := (E25 2 (k2_24 + 1).toNatClampNeg)) F 3 0 rfl rfl (zin (a := (k2_24 + 1)) (by omega) (by omega)) rfl dX0_remove_73 ?_
            refine zi_iast (pc := 74) (ws' := zWE G (zsF (zsF (zsF E25 0 (upd (E25 0) k2_24.toNatClampNeg (E25 0 (k2_24 + 1).toNatClampNeg))) 1 (upd (E25 1) k2_24.toNatClampNeg (vp_nar .boolean (E25 1 (k2_24 + 1).toNatClampNeg)))) 2 (upd (E25 2) k2_24.toNatClampNeg (E25 2 (k2_24 + 1).toNatClampNeg)))) F 3 0 rfl rfl (zin (a := k2_24) (by omega) (by omega)) rfl dX0_remove_74 ?_
            refine zi_aload_n (pc := 75) F dX0_remove_75 0 rfl ?_
            refine zi_get (pc := 76) (C := RX0) (T := TX0) (N := 6) (v := .ref (G.2.2 2 4)) F (hw_X0_remove_X0) 0 rfl rfl 3 (by decide) (List.mem_of_getElem? (i := 5) rfl) rfl rfl dX0_remove_76 ?_
            refine zi_iload_n (pc := 79) F dX0_remove_79 2 rfl ?_
            refine zi_aload_n (pc := 80) F dX0_remove_80 0 rfl ?_
            refine zi_get (pc := 81) (C := RX0) (T := TX0) (N := 6) (v := .ref (G.2.2 2 4)) F (hw_X0_remove_X0) 0 rfl rfl 3 (by decide) (List.mem_of_getElem? (i := 5) rfl) rfl rfl dX0_remove_81 ?_
            refine zi_iload_n (pc := 84) F dX0_remove_84 2 rfl ?_
            refine zi_iconst (pc := 85) (v := 1) F dX0_remove_85 rfl ?_
            refine zi_iadd (pc := 86) F dX0_remove_86 ?_
            try have t44 := zt_add (a := k2_24) (b := 1) (by omega) (by omega)
            refine zi_iald (pc := 87) (v := (E25 3 (k2_24 + 1).toNatClampNeg)) F 4 0 rfl rfl (zin (a := (k2_24 + 1)) (by omega) (by omega)) rfl dX0_remove_87 ?_
            refine zi_iast (pc := 88) (ws' := zWE G (zsF (zsF (zsF (zsF E25 0 (upd (E25 0) k2_24.toNatClampNeg (E25 0 (k2_24 + 1).toNatClampNeg))) 1 (upd (E25 1) k2_24.toNatClampNeg (vp_nar .boolean (E25 1 (k2_24 + 1).toNatClampNeg)))) 2 (upd (E25 2) k2_24.toNatClampNeg (E25 2 (k2_24 + 1).toNatClampNeg))) 3 (upd (E25 3) k2_24.toNatClampNeg (E25 3 (k2_24 + 1).toNatClampNeg)))) F 4 0 rfl rfl (zin (a := k2_24) (by omega) (by omega)) rfl dX0_remove_88 ?_
            refine zi_aload_n (pc := 89) F dX0_remove_89 0 rfl ?_
            refine zi_get (pc := 90) (C := RX0) (T := TX0) (N := 6) (v := .ref (G.2.2 2 5)) F (hw_X0_remove_X0) 0 rfl rfl 4 (by decide) (List.mem_of_getElem? (i := 6) rfl) rfl rfl dX0_remove_90 ?_
            refine zi_iload_n (pc := 93) F dX0_remove_93 2 rfl ?_
            refine zi_aload_n (pc := 94) F dX0_remove_94 0 rfl ?_
            refine zi_get (pc := 95) (C := RX0) (T := TX0) (N := 6) (v := .ref (G.2.2 2 5)) F (hw_X0_remove_X0) 0 rfl rfl 4 (by decide) (List.mem_of_getElem? (i := 6) rfl) rfl rfl dX0_remove_95 ?_
            refine zi_iload_n (pc := 98) F dX0_remove_98 2 rfl ?_
            refine zi_iconst (pc := 99) (v := 1) F dX0_remove_99 rfl ?_
            refine zi_iadd (pc := 100) F dX0_remove_100 ?_
            try have t45 := zt_add (a := k2_24) (b := 1) (by omega) (by omega)
            refine zi_iald (pc := 101) (v := (E25 4 (k2_24 + 1).toNatClampNeg)) F 5 0 rfl rfl (zin (a := (k2_24 + 1)) (by omega) (by omega)) rfl dX0_remove_101 ?_
            refine zi_iast (pc := 102) (ws' := zWE G (zsF (zsF (zsF (zsF (zsF E25 0 (upd (E25 0) k2_24.toNatClampNeg (E25 0 (k2_24 + 1).toNatClampNeg))) 1 (upd (E25 1) k2_24.toNatClampNeg (vp_nar .boolean (E25 1 (k2_24 + 1).toNatClampNeg)))) 2 (upd (E25 2) k2_24.toNatClampNeg (E25 2 (k2_24 + 1).toNatClampNeg))) 3 (upd (E25 3) k2_24.toNatClampNeg (E25 3 (k2_24 + 1).toNatClampNeg))) 4 (upd (E25 4) k2_24.toNatClampNeg (E25 4 (k2_24 + 1).toNatClampNeg)))) F 5 0 rfl rfl (zin (a := k2_24) (by omega) (by omega)) rfl dX0_remove_102 ?_
            try have t48 := zt_add (a := k2_24) (b := 1) (by omega) (by omega)
            obtain ⟨y46, e47⟩ : ∃ z : Int32, (k2_24 + 1) = z := ⟨_, rfl⟩
            have hE := zbnd_cut hE e47
            have t49 := congrArg Int32.toInt e47
            refine zi_iinc (pc := 103) (lv' := [(0, .ref (G.2.2 2 0)), (1, .int index), (2, .int y46)]) F dX0_remove_103 2 rfl e47 (by decide) rfl ?_
            refine zi_goto (pc := 106) (tgt := 25) F dX0_remove_106 (by decide) ?_
            refine zi_sub [0, 1, 2] rfl ?_
            exact ih y46 (zsF (zsF (zsF (zsF (zsF E25 0 (upd (E25 0) k2_24.toNatClampNeg (E25 0 (k2_24 + 1).toNatClampNeg))) 1 (upd (E25 1) k2_24.toNatClampNeg (vp_nar .boolean (E25 1 (k2_24 + 1).toNatClampNeg)))) 2 (upd (E25 2) k2_24.toNatClampNeg (E25 2 (k2_24 + 1).toNatClampNeg))) 3 (upd (E25 3) k2_24.toNatClampNeg (E25 3 (k2_24 + 1).toNatClampNeg))) 4 (upd (E25 4) k2_24.toNatClampNeg (E25 4 (k2_24 + 1).toNatClampNeg))) (⟨by (show 0 ≤ Int32.toInt y46; omega), by (show Int32.toInt y46 ≤ 12; omega), by (show Int32.toInt (E25 5 0) ≤ 11; omega), ⟨⟨by (show (0:Int) ≤ Int32.toInt (E25 5 0)); omega, by (show Int32.toInt (E25 5 0) ≤ (12:Int)); omega⟩, (zib_upd hIE25_b1 (znar_idem _))⟩⟩) (by omega) _ hE hK
      obtain ⟨⟨k2_50, E51⟩, e52⟩ : ∃ z, mX0_remove_L25  13 index E6 = z := ⟨_, rfl⟩
      have hE := zbnd2_cut hE e52
      refine hL25 13 index E6 (⟨by (show 0 ≤ Int32.toInt index; omega), by (show Int32.toInt index ≤ 12; omega), by (show Int32.toInt (E6 5 0) ≤ 11; omega), hIE6⟩) (by omega) _ e52 (fun hI53 => ?_)
      have hI53 : (0 ≤ Int32.toInt k2_50) ∧ (Int32.toInt k2_50 ≤ 12) ∧ (Int32.toInt (E51 5 0) ≤ 11) ∧ (zIE E51) := hI53
      obtain ⟨i54, i55, i56, hIE51⟩ := id hI53
      obtain ⟨⟨i57, i58⟩, hIE51_b1⟩ := id hIE51
      show zW p l e rmX0_remove s m args below meth c 0 0 Q G.1 A 3 (zWE G E51) [(0, .ref (G.2.2 2 0)), (1, .int index), (2, .int k2_50)] 109 []
      subst hE
      exact hret _ _ dX0_remove_109
    · have hE := zite_f hE c4
      have t59 := zt_nlt c4
      subst hE
      exact hret _ _ dX0_remove_12
/-! X0_placeOf -/
def mX0_placeOf_L2 (idn : Int32) (E : zS_t) : Nat → Int32 → Int32
  | 0, k2_11 => 0
  | n12 + 1, k2_11 => if (E 5 0) ≤ k2_11 then (-1) else (if (E 4 k2_11.toNatClampNeg) = idn then (((E 5 0) - 1) - k2_11) else (zbnd ((k2_11 + 1)) (fun y23 => mX0_placeOf_L2 idn E n12 y23)))
def mX0_placeOf (idn : Int32) (E : zS_t) : Int32 := mX0_placeOf_L2 idn E 13 0
theorem hw_X0_placeOf_X0 : ∀ w ∈ wsX00, w ∈ wsX0_placeOf := fun w h => List.mem_cons_of_mem _ (List.mem_append_right _ (h))
abbrev rmX0_placeOf : Room := { frames := 0, cells := 0, slots := 0, locals := 0 }
theorem hd_X0_placeOf : yX0_placeOf.cls = RX0 ∧ yX0_placeOf.cls ≠ "java/lang/invoke/MethodHandle" ∧ yX0_placeOf.cls ≠ "java/lang/invoke/VarHandle" ∧ (parseMethodDescriptor yX0_placeOf.desc).map (fun d => d.parameters.length) = some 1 := by decide +kernel
set_option maxHeartbeats 4000000 in
set_option maxRecDepth 100000 in
theorem c_X0_placeOf (l : Launch) (G : zG_t) (idn : Int32) (E : zS_t) (hIE : zIE E) : zCI l G.1 (zty G) yX0_placeOf wsX0_placeOf rmX0_placeOf [.ref (G.2.2 2 0), .int idn] (zWE G E) ((mX0_placeOf idn E)) (zWE G E) := by
  obtain ⟨X, hE⟩ : ∃ z, mX0_placeOf idn E = z := ⟨_, rfl⟩
  rw [hE]
  refine zb_I (cc := cX0_placeOf) (maxL := 3) (by decide) rfl (Nat.le_of_ble_eq_true rfl) ?_
  intro p e s m args below meth c Q A F hret
  show zW p l e rmX0_placeOf s m args below meth c 0 0 Q G.1 A 3 (zWE G E) [(0, .ref (G.2.2 2 0)), (1, .int idn)] 0 []
  have k_m1 : Int32.toInt (-1) = -1 := by decide
  have k_0 : Int32.toInt 0 = 0 := by decide
  have k_1 : Int32.toInt 1 = 1 := by decide
  obtain ⟨⟨i28, i29⟩, hIE_b1⟩ := id hIE
  unfold mX0_placeOf at hE
  refine zi_iconst (pc := 0) (v := 0) F dX0_placeOf_0 rfl ?_
  refine zi_istore_n (pc := 1) (lv' := [(0, .ref (G.2.2 2 0)), (1, .int idn), (2, .int 0)]) F dX0_placeOf_1 (by decide) rfl ?_
  have hL2 : ∀ (n12 : Nat) (k2_11 : Int32), (0 ≤ Int32.toInt k2_11) ∧ (Int32.toInt k2_11 ≤ 12) → 13 - Int32.toInt k2_11 ≤ (n12 : Int) → mX0_placeOf_L2 idn E n12 k2_11 = X → zW p l e rmX0_placeOf s m args below meth c 0 0 Q G.1 A 3 (zWE G E) [(0, .ref (G.2.2 2 0)), (1, .int idn), (2, .int k2_11)] 2 [] := by
    intro n12
    induction n12 with
    | zero =>
      intro k2_11 hI hM9
      obtain ⟨i14, i15⟩ := id hI
      exact absurd hM9 (by omega)
    | succ n12 ih =>
      intro k2_11 hI hM9 hE
      obtain ⟨i16, i17⟩ := id hI
      rw [mX0_placeOf_L2.eq_2] at hE
      refine zi_iload_n (pc := 2) F dX0_placeOf_2 2 rfl ?_
      refine zi_aload_n (pc := 3) F dX0_placeOf_3 0 rfl ?_
      refine zi_get (pc := 4) (C := RX0) (T := TX0) (N := 6) (v := .int (E 5 0)) F (hw_X0_placeOf_X0) 0 rfl rfl 5 (by decide) (List.mem_of_getElem? (i := 1) rfl) rfl rfl dX0_placeOf_4 ?_
      refine zi_icmp_ge (pc := 7) (tgt := 35) F dX0_placeOf_7 (by decide) (fun c18 => ?_) (fun c18 => ?_)
      · have hE := zite_t hE c18
        have t19 := zt_le c18
        refine zi_iconst (pc := 35) (v := (-1)) F dX0_placeOf_35 rfl ?_
        subst hE
        exact hret _ _ dX0_placeOf_36
      · have hE := zite_f hE c18
        have t20 := zt_nle c18
        refine zi_aload_n (pc := 10) F dX0_placeOf_10 0 rfl ?_
        refine zi_get (pc := 11) (C := RX0) (T := TX0) (N := 6) (v := .ref (G.2.2 2 5)) F (hw_X0_placeOf_X0) 0 rfl rfl 4 (by decide) (List.mem_of_getElem? (i := 2) rfl) rfl rfl dX0_placeOf_11 ?_
        refine zi_iload_n (pc := 14) F dX0_placeOf_14 2 rfl ?_
        refine zi_iald (pc := 15) (v := (E 4 k2_11.toNatClampNeg)) F 5 0 rfl rfl (zin (a := k2_11) (by omega) (by omega)) rfl dX0_placeOf_15 ?_
        refine zi_iload_n (pc := 16) F dX0_placeOf_16 1 rfl ?_
        refine zi_icmp_ne (pc := 17) (tgt := 29) F dX0_placeOf_17 (by decide) (fun c21 => ?_) (fun c21 => ?_)
        · have hE := zite_f hE c21
          have t22 := zt_ne c21
          try have t25 := zt_add (a := k2_11) (b := 1) (by omega) (by omega)
          obtain ⟨y23, e24⟩ : ∃ z : Int32, (k2_11 + 1) = z := ⟨_, rfl⟩
          have hE := zbnd_cut hE e24
          have t26 := congrArg Int32.toInt e24
          refine zi_iinc (pc := 29) (lv' := [(0, .ref (G.2.2 2 0)), (1, .int idn), (2, .int y23)]) F dX0_placeOf_29 2 rfl e24 (by decide) rfl ?_
          refine zi_goto (pc := 32) (tgt := 2) F dX0_placeOf_32 (by decide) ?_
          refine zi_sub [0, 1, 2] rfl ?_
          exact ih y23 (⟨by (show 0 ≤ Int32.toInt y23; omega), by (show Int32.toInt y23 ≤ 12; omega)⟩) (by omega) hE
        · have hE := zite_t hE c21
          have t27 := congrArg Int32.toInt c21
          refine zi_aload_n (pc := 20) F dX0_placeOf_20 0 rfl ?_
          refine zi_get (pc := 21) (C := RX0) (T := TX0) (N := 6) (v := .int (E 5 0)) F (hw_X0_placeOf_X0) 0 rfl rfl 5 (by decide) (List.mem_of_getElem? (i := 1) rfl) rfl rfl dX0_placeOf_21 ?_
          refine zi_iconst (pc := 24) (v := 1) F dX0_placeOf_24 rfl ?_
          refine zi_isub (pc := 25) F dX0_placeOf_25 ?_
          refine zi_iload_n (pc := 26) F dX0_placeOf_26 2 rfl ?_
          refine zi_isub (pc := 27) F dX0_placeOf_27 ?_
          subst hE
          exact hret _ _ dX0_placeOf_28
  exact hL2 13 0 (⟨by (show 0 ≤ Int32.toInt 0; omega), by (show Int32.toInt 0 ≤ 12; omega)⟩) (by omega) hE
end
section
/-! X4_nextPlayer -/
def mX4_nextPlayer (player : Int32)  : Int32 := if 3 ≤ (player + 1) then 0 else (player + 1)
abbrev rmX4_nextPlayer : Room := { frames := 0, cells := 0, slots := 0, locals := 0 }
theorem hd_X4_nextPlayer : yX4_nextPlayer.cls = RX4 ∧ yX4_nextPlayer.cls ≠ "java/lang/invoke/MethodHandle" ∧ yX4_nextPlayer.cls ≠ "java/lang/invoke/VarHandle" ∧ (parseMethodDescriptor yX4_nextPlayer.desc).map (fun d => d.parameters.length) = some 1 := by decide +kernel
set_option maxHeartbeats 4000000 in
set_option maxRecDepth 100000 in
theorem c_X4_nextPlayer (l : Launch) (G : zG_t) (player : Int32)   : zCI l G.1 (zty G) yX4_nextPlayer wsX4_nextPlayer rmX4_nextPlayer [.int player] ([]) ((mX4_nextPlayer player)) ([]) := by
  obtain ⟨X, hE⟩ : ∃ z, mX4_nextPlayer player = z := ⟨_, rfl⟩
  rw [hE]
  refine zb_I (cc := cX4_nextPlayer) (maxL := 1) (by decide) rfl (Nat.le_of_ble_eq_true rfl) ?_
  intro p e s m args below meth c Q A F hret
  show zW p l e rmX4_nextPlayer s m args below meth c 0 0 Q G.1 A 1 ([]) [(0, .int player)] 0 []
  have k_0 : Int32.toInt 0 = 0 := by decide
  have k_1 : Int32.toInt 1 = 1 := by decide
  have k_3 : Int32.toInt 3 = 3 := by decide
  unfold mX4_nextPlayer at hE
  refine zi_iload_n (pc := 0) F dX4_nextPlayer_0 0 rfl ?_
  refine zi_iconst (pc := 1) (v := 1) F dX4_nextPlayer_1 rfl ?_
  refine zi_iadd (pc := 2) F dX4_nextPlayer_2 ?_
  refine zi_iconst (pc := 3) (v := 3) F dX4_nextPlayer_3 rfl ?_
  refine zi_icmp_ge (pc := 4) (tgt := 13) F dX4_nextPlayer_4 (by decide) (fun c1 => ?_) (fun c1 => ?_)
  · have hE := zite_t hE c1
    try have t2 := zt_add (a := player) (b := 1) (by omega) (by omega)
    have t3 := zt_le c1
    refine zi_iconst (pc := 13) (v := 0) F dX4_nextPlayer_13 rfl ?_
    subst hE
    exact hret _ _ dX4_nextPlayer_14
  · have hE := zite_f hE c1
    try have t4 := zt_add (a := player) (b := 1) (by omega) (by omega)
    have t5 := zt_nle c1
    refine zi_iload_n (pc := 7) F dX4_nextPlayer_7 0 rfl ?_
    refine zi_iconst (pc := 8) (v := 1) F dX4_nextPlayer_8 rfl ?_
    refine zi_iadd (pc := 9) F dX4_nextPlayer_9 ?_
    refine zi_goto (pc := 10) (tgt := 14) F dX4_nextPlayer_10 (by decide) ?_
    subst hE
    exact hret _ _ dX4_nextPlayer_14
/-! X4_costOf -/
def mX4_costOf (card : Int32)  : Int32 := if card < 0 then 0 else (if 14 ≤ card then 0 else (zCost.getD card.toNatClampNeg 0))
abbrev rmX4_costOf : Room := { frames := 0, cells := 0, slots := 0, locals := 0 }
theorem hd_X4_costOf : yX4_costOf.cls = RX4 ∧ yX4_costOf.cls ≠ "java/lang/invoke/MethodHandle" ∧ yX4_costOf.cls ≠ "java/lang/invoke/VarHandle" ∧ (parseMethodDescriptor yX4_costOf.desc).map (fun d => d.parameters.length) = some 1 := by decide +kernel
set_option maxHeartbeats 4000000 in
set_option maxRecDepth 100000 in
theorem c_X4_costOf (l : Launch) (G : zG_t) (card : Int32)   : zCI l G.1 (zty G) yX4_costOf wsX4_costOf rmX4_costOf [.int card] ([]) ((mX4_costOf card)) ([]) := by
  obtain ⟨X, hE⟩ : ∃ z, mX4_costOf card = z := ⟨_, rfl⟩
  rw [hE]
  refine zb_I (cc := cX4_costOf) (maxL := 1) (by decide) rfl (Nat.le_of_ble_eq_true rfl) ?_
  intro p e s m args below meth c Q A F hret
  show zW p l e rmX4_costOf s m args below meth c 0 0 Q G.1 A 1 ([]) [(0, .int card)] 0 []
  have k_0 : Int32.toInt 0 = 0 := by decide
  have k_1 : Int32.toInt 1 = 1 := by decide
  have k_14 : Int32.toInt 14 = 14 := by decide
  unfold mX4_costOf at hE
  refine zi_iload_n (pc := 0) F dX4_costOf_0 0 rfl ?_
  refine zi_if_lt (pc := 1) (tgt := 18) F dX4_costOf_1 (by decide) (fun c1 => ?_) (fun c1 => ?_)
  · have hE := zite_t hE c1
    have t2 := zt_lt c1
    refine zi_iconst (pc := 18) (v := 0) F dX4_costOf_18 rfl ?_
    subst hE
    exact hret _ _ dX4_costOf_19
  · have hE := zite_f hE c1
    have t3 := zt_nlt c1
    refine zi_iload_n (pc := 4) F dX4_costOf_4 0 rfl ?_
    refine zi_bipush (pc := 5) (v := 14) F dX4_costOf_5 rfl ?_
    refine zi_icmp_ge (pc := 7) (tgt := 18) F dX4_costOf_7 (by decide) (fun c4 => ?_) (fun c4 => ?_)
    · have hE := zite_t hE c4
      have t5 := zt_le c4
      refine zi_iconst (pc := 18) (v := 0) F dX4_costOf_18 rfl ?_
      subst hE
      exact hret _ _ dX4_costOf_19
    · have hE := zite_f hE c4
      have t6 := zt_nle c4
      refine zi_tab (pc := 10) F F.2.2.2.1 (List.mem_of_getElem? (i := 1) rfl) 0 rfl (zin (a := card) (by omega) (by omega)) dX4_costOf_10 dX4_costOf_13 dX4_costOf_14 ?_
      refine zi_goto (pc := 15) (tgt := 19) F dX4_costOf_15 (by decide) ?_
      subst hE
      exact hret _ _ dX4_costOf_19
/-! X4_layerOf -/
def mX4_layerOf (card : Int32)  : Int32 := if card < 0 then 0 else (if 14 ≤ card then 0 else (zLayer.getD card.toNatClampNeg 0))
abbrev rmX4_layerOf : Room := { frames := 0, cells := 0, slots := 0, locals := 0 }
theorem hd_X4_layerOf : yX4_layerOf.cls = RX4 ∧ yX4_layerOf.cls ≠ "java/lang/invoke/MethodHandle" ∧ yX4_layerOf.cls ≠ "java/lang/invoke/VarHandle" ∧ (parseMethodDescriptor yX4_layerOf.desc).map (fun d => d.parameters.length) = some 1 := by decide +kernel
set_option maxHeartbeats 4000000 in
set_option maxRecDepth 100000 in
theorem c_X4_layerOf (l : Launch) (G : zG_t) (card : Int32)   : zCI l G.1 (zty G) yX4_layerOf wsX4_layerOf rmX4_layerOf [.int card] ([]) ((mX4_layerOf card)) ([]) := by
  obtain ⟨X, hE⟩ : ∃ z, mX4_layerOf card = z := ⟨_, rfl⟩
  rw [hE]
  refine zb_I (cc := cX4_layerOf) (maxL := 1) (by decide) rfl (Nat.le_of_ble_eq_true rfl) ?_
  intro p e s m args below meth c Q A F hret
  show zW p l e rmX4_layerOf s m args below meth c 0 0 Q G.1 A 1 ([]) [(0, .int card)] 0 []
  have k_0 : Int32.toInt 0 = 0 := by decide
  have k_1 : Int32.toInt 1 = 1 := by decide
  have k_14 : Int32.toInt 14 = 14 := by decide
  unfold mX4_layerOf at hE
  refine zi_iload_n (pc := 0) F dX4_layerOf_0 0 rfl ?_
  refine zi_if_lt (pc := 1) (tgt := 18) F dX4_layerOf_1 (by decide) (fun c1 => ?_) (fun c1 => ?_)
  · have hE := zite_t hE c1
    have t2 := zt_lt c1
    refine zi_iconst (pc := 18) (v := 0) F dX4_layerOf_18 rfl ?_
    subst hE
    exact hret _ _ dX4_layerOf_19
  · have hE := zite_f hE c1
    have t3 := zt_nlt c1
    refine zi_iload_n (pc := 4) F dX4_layerOf_4 0 rfl ?_
    refine zi_bipush (pc := 5) (v := 14) F dX4_layerOf_5 rfl ?_
    refine zi_icmp_ge (pc := 7) (tgt := 18) F dX4_layerOf_7 (by decide) (fun c4 => ?_) (fun c4 => ?_)
    · have hE := zite_t hE c4
      have t5 := zt_le c4
      refine zi_iconst (pc := 18) (v := 0) F dX4_layerOf_18 rfl ?_
      subst hE
      exact hret _ _ dX4_layerOf_19
    · have hE := zite_f hE c4
      have t6 := zt_nle c4
      refine zi_tab (pc := 10) F F.2.2.2.2.1 (List.mem_of_getElem? (i := 1) rfl) 0 rfl (zin (a := card) (by omega) (by omega)) dX4_layerOf_10 dX4_layerOf_13 dX4_layerOf_14 ?_
      refine zi_goto (pc := 15) (tgt := 19) F dX4_layerOf_15 (by decide) ?_
      subst hE
      exact hret _ _ dX4_layerOf_19
/-! X4_isThing -/
def mX4_isThing (card : Int32)  : Int32 := if 12 ≤ card then 0 else 1
set_option maxHeartbeats 4000000 in
set_option maxRecDepth 100000 in
theorem pp_X4_isThing (card : Int32)   : ((mX4_isThing card) = 0 ∨ (mX4_isThing card) = 1) := by
  obtain ⟨X, hE⟩ : ∃ z, mX4_isThing card = z := ⟨_, rfl⟩
  rw [hE]
  have k_0 : Int32.toInt 0 = 0 := by decide
  have k_1 : Int32.toInt 1 = 1 := by decide
  have k_12 : Int32.toInt 12 = 12 := by decide
  unfold mX4_isThing at hE
  by_cases c1 : 12 ≤ card
  · have hE := zite_t hE c1
    have t2 := zt_le c1
    subst hE
    exact Or.inl rfl
  · have hE := zite_f hE c1
    have t3 := zt_nle c1
    subst hE
    exact Or.inr rfl
abbrev rmX4_isThing : Room := { frames := 0, cells := 0, slots := 0, locals := 0 }
theorem hd_X4_isThing : yX4_isThing.cls = RX4 ∧ yX4_isThing.cls ≠ "java/lang/invoke/MethodHandle" ∧ yX4_isThing.cls ≠ "java/lang/invoke/VarHandle" ∧ (parseMethodDescriptor yX4_isThing.desc).map (fun d => d.parameters.length) = some 1 := by decide +kernel
set_option maxHeartbeats 4000000 in
set_option maxRecDepth 100000 in
theorem c_X4_isThing (l : Launch) (G : zG_t) (card : Int32)   : zCI l G.1 (zty G) yX4_isThing wsX4_isThing rmX4_isThing [.int card] ([]) ((mX4_isThing card)) ([]) := by
  obtain ⟨X, hE⟩ : ∃ z, mX4_isThing card = z := ⟨_, rfl⟩
  rw [hE]
  refine zb_Z (cc := cX4_isThing) (maxL := 1) (by decide) rfl (Nat.le_of_ble_eq_true rfl) ?_
  intro p e s m args below meth c Q A F hret
  show zW p l e rmX4_isThing s m args below meth c 0 0 Q G.1 A 1 ([]) [(0, .int card)] 0 []
  have k_0 : Int32.toInt 0 = 0 := by decide
  have k_1 : Int32.toInt 1 = 1 := by decide
  have k_12 : Int32.toInt 12 = 12 := by decide
  unfold mX4_isThing at hE
  refine zi_iload_n (pc := 0) F dX4_isThing_0 0 rfl ?_
  refine zi_bipush (pc := 1) (v := 12) F dX4_isThing_1 rfl ?_
  refine zi_icmp_ge (pc := 3) (tgt := 10) F dX4_isThing_3 (by decide) (fun c1 => ?_) (fun c1 => ?_)
  · have hE := zite_t hE c1
    have t2 := zt_le c1
    refine zi_iconst (pc := 10) (v := 0) F dX4_isThing_10 rfl ?_
    subst hE
    exact hret _ _ dX4_isThing_11 (znb (Or.inl rfl))
  · have hE := zite_f hE c1
    have t3 := zt_nle c1
    refine zi_iconst (pc := 6) (v := 1) F dX4_isThing_6 rfl ?_
    refine zi_goto (pc := 7) (tgt := 11) F dX4_isThing_7 (by decide) ?_
    subst hE
    exact hret _ _ dX4_isThing_11 (znb (Or.inr rfl))
end
